theorem s_liveU {n c q D : Nat} {w g : kW} {last ins x : Int32} (h : Rel n c q w g) (hD : D ≤ 60) (hl : last = nI D - 1) (hi : ∀ k, k < c → (bt ins k = true ↔ bt x k = false)) : Spec shC yX4_live cX4_live 5 none 4 105 [.ref 15, .int ins, .int (w.1 1 1), .int last] w (fun r w' => r = none ∧ RD n c D w' (mAhead n c (kset g 0 20 x) D) ∧ cK2 w w') :=
  s_X4_live (g := kset g 0 20 x) h.2.1 h.1.2.1.un h.2.2.1 hD hl hi h.2.2.2.1
theorem s_liveA {n c q D : Nat} {w g g2 : kW} {last arr : Int32} (h : Rel n c q w g) (hD : D ≤ 60) (hl : last = nI D - 1) (hP2 : Pn n g2) (hI2 : Ins n c g2) (e20 : g2.1 0 20 = 0) (e : ∀ j, (4 ≤ j ∧ j ≤ 6) ∨ (11 ≤ j ∧ j ≤ 14) → g2.1 j = g.1 j) (ha : ∀ p, p < n → (bt arr p = false ↔ g2.1 7 p = 0)) : Spec shC yX4_live cX4_live 5 none 4 105 [.ref 15, .int (-1), .int arr, .int last] w (fun r w' => r = none ∧ RD n c D w' (mAhead n c g2 D) ∧ cK2 w w') := by
  refine s_X4_live (g := g2) ⟨hP2, h.2.1.2.1, ?_⟩ hI2 ⟨h.2.2.1.1, ?_⟩ hD hl (fun k hk => ?_) ha
  · intro p hp; rw [e 4 (by omega), e 5 (by omega), e 6 (by omega)]; exact h.2.1.2.2 p hp
  · intro k hk; rw [e 11 (by omega), e 12 (by omega), e 13 (by omega), e 14 (by omega)]; exact h.2.2.1.2 k hk
  · have := h.1.2.2.1
    rw [b_m1 k (by omega), e20, b_0]; simp
theorem acc_non {s : Int32} {k : Nat} {P : Nat → Prop} (hs : ∀ i, i < 32 → (bt s i = true ↔ i < k ∧ P i)) (h : ¬ P k) : ∀ i, i < 32 → (bt s i = true ↔ i < k + 1 ∧ P i) := by
  have := acc_no hs h
  rw [Int32.or_zero] at this
  exact this
theorem u_not {k : Nat} (hk : k < 32) {c : Nat} (hc : c ≤ 32) : ∀ j, j < c → (bt ((1 <<< (nI k &&& 31)) ^^^ -1) j = true ↔ bt (1 <<< (nI k &&& 31)) j = false) := fun j hj => by
  rw [bt_m1x _ (by omega)]; simp

set_option maxRecDepth 100000 in
set_option maxHeartbeats 1000000 in
theorem s_X3_areSo_lp {w g gg : kW} {n m qq : Nat} (hl : LV n w gg) (hmt : MtOk n gg) (hm : gg.1 0 28 = nI m) (hm2 : m ≤ 180) (hRR : RR qq w g) (hRd : Rd n qq g) : ∀ q k, k + q = qq → (∀ j, j < k → (wIn gg (g.1 26 j) (g.1 27 j) ↔ g.1 28 j = 1)) → BS shC RX3 cX3_areSo 3 (some .boolean) 3 64 (fun r w' => w = w' ∧ ((r = some (.int 1) ∧ (∀ j, j < dn (g.1 0 35) → (wIn gg (g.1 26 j) (g.1 27 j) ↔ g.1 28 j = 1))) ∨ (r = some (.int 0) ∧ ¬ (∀ j, j < dn (g.1 0 35) → (wIn gg (g.1 26 j) (g.1 27 j) ↔ g.1 28 j = 1))))) 2 [(0, .ref 11), (1, .ref 16), (2, .int (nI k))] [] w := by
  intro q
  have hq8 := hRd.2.1
  have eq : dn (g.1 0 35) = qq := by rw [hRd.1]; exact dn_nI (by omega)
  have hn := hl.1.1.le
  induction q with
  | zero =>
    intro k hk hso
    refine b_iload_n dX3_areSo_2 rfl ?_
    refine b_aload_n dX3_areSo_3 rfl ?_
    refine b_geti dX3_areSo_4 gf_X3_22 rfl rfl ?_
    refine b_topi (y := nI qq) hRR.1 ?_
    refine b_icmp_ge (tgt := 43) dX3_areSo_7 (by decide) (fun h7 => ?_) (fun h7 => ?_)
    · refine b_iconst (v := 1) dX3_areSo_43 (by decide) ?_
      have e : k = qq := by omega
      subst e
      refine b_zret (Or.inr rfl) dX3_areSo_44 rfl ⟨rfl, Or.inl ⟨rfl, ?_⟩⟩
      rw [eq]; exact hso
    · exact absurd (nI_le (by omega) (by omega)) h7
  | succ q ih =>
    intro k hk hso
    obtain ⟨p, d, hp, hd, ep, ed, e28⟩ := hRd.2.2 k (by omega)
    refine b_iload_n dX3_areSo_2 rfl ?_
    refine b_aload_n dX3_areSo_3 rfl ?_
    refine b_geti dX3_areSo_4 gf_X3_22 rfl rfl ?_
    refine b_topi (y := nI qq) hRR.1 ?_
    refine b_icmp_ge (tgt := 43) dX3_areSo_7 (by decide) (fun h7 => ?_) (fun h7 => ?_)
    · exact absurd h7 (nI_ge (by omega) (by omega))
    · refine b_aload_n dX3_areSo_10 rfl ?_
      refine b_aload_n dX3_areSo_11 rfl ?_
      refine b_getr dX3_areSo_12 gf_X3_9 rfl rfl ?_
      refine b_iload_n dX3_areSo_15 rfl ?_
      refine b_ialdN dX3_areSo_16 rfl ⟨by omega, by decide⟩ ?_
      refine b_topi (y := nI p) ((hRR.2 k (by omega)).1.trans ep) ?_
      refine b_aload_n dX3_areSo_17 rfl ?_
      refine b_getr dX3_areSo_18 gf_X3_15 rfl rfl ?_
      refine b_iload_n dX3_areSo_21 rfl ?_
      refine b_ialdN dX3_areSo_22 rfl ⟨by omega, by decide⟩ ?_
      refine b_topi (y := g.1 27 k) (hRR.2 k (by omega)).2.1 ?_
      refine b_callV2 dX3_areSo_23 lk_X3_26 rfl rfl rfl ⟨Nat.le_of_ble_eq_true rfl, Nat.le_of_ble_eq_true rfl⟩ (Nat.le_of_ble_eq_true rfl) (s_X1_wasThere hl hmt hm hm2 (by omega)) (fun r w23 h23 => ?_)
      obtain ⟨rfl, h23⟩ := h23
      rcases h23 with ⟨rfl, h23⟩ | ⟨rfl, h23⟩
      · refine b_aload_n dX3_areSo_26 rfl ?_
        refine b_getr dX3_areSo_27 gf_X3_18 rfl rfl ?_
        refine b_iload_n dX3_areSo_30 rfl ?_
        refine b_zaldN dX3_areSo_31 rfl ⟨by omega, by decide⟩ ?_
        refine b_topi (y := g.1 28 k) (hRR.2 k (by omega)).2.2 ?_
        refine b_icmp_eq (tgt := 37) dX3_areSo_32 (by decide) (fun h32 => ?_) (fun h32 => ?_)
        · refine b_iinc dX3_areSo_37 rfl (nI_inc k) (by decide) ?_
          refine b_goto (tgt := 2) dX3_areSo_40 (by decide) ?_
          refine b_sub [1, 2, 0] rfl ?_
          refine ih (k + 1) (by omega) (fun j hj => ?_)
          by_cases e : j = k
          · rw [e, ep]; exact ⟨fun _ => h32.symm, fun _ => h23⟩
          · exact hso j (by omega)
        · refine b_iconst (v := 0) dX3_areSo_35 (by decide) ?_
          exact b_zret (Or.inl rfl) dX3_areSo_36 rfl ⟨rfl, Or.inr ⟨rfl, fun z => h32 (((z k (by rw [eq]; omega)).mp (ep.symm ▸ h23)).symm)⟩⟩
      · refine b_aload_n dX3_areSo_26 rfl ?_
        refine b_getr dX3_areSo_27 gf_X3_18 rfl rfl ?_
        refine b_iload_n dX3_areSo_30 rfl ?_
        refine b_zaldN dX3_areSo_31 rfl ⟨by omega, by decide⟩ ?_
        refine b_topi (y := g.1 28 k) (hRR.2 k (by omega)).2.2 ?_
        refine b_icmp_eq (tgt := 37) dX3_areSo_32 (by decide) (fun h32 => ?_) (fun h32 => ?_)
        · refine b_iinc dX3_areSo_37 rfl (nI_inc k) (by decide) ?_
          refine b_goto (tgt := 2) dX3_areSo_40 (by decide) ?_
          refine b_sub [1, 2, 0] rfl ?_
          refine ih (k + 1) (by omega) (fun j hj => ?_)
          by_cases e : j = k
          · rw [e, ep]; exact ⟨fun z => absurd z h23, fun z => absurd (h32.trans z) (by decide)⟩
          · exact hso j (by omega)
        · refine b_iconst (v := 0) dX3_areSo_35 (by decide) ?_
          exact b_zret (Or.inl rfl) dX3_areSo_36 rfl ⟨rfl, Or.inr ⟨rfl, fun z => h23 (ep ▸ (z k (by rw [eq]; omega)).mpr (e28.resolve_left (fun y => h32 y.symm)))⟩⟩

set_option maxRecDepth 100000 in
set_option maxHeartbeats 1000000 in
theorem s_X3_areSo {w g gg : kW} {n m qq : Nat} (hl : LV n w gg) (hmt : MtOk n gg) (hm : gg.1 0 28 = nI m) (hm2 : m ≤ 180) (hRR : RR qq w g) (hRd : Rd n qq g) : Spec shC yX3_areSo cX3_areSo 3 (some .boolean) 3 64 [.ref 11, .ref 16] w (fun r w' => w = w' ∧ ((r = some (.int 1) ∧ (∀ j, j < dn (g.1 0 35) → (wIn gg (g.1 26 j) (g.1 27 j) ↔ g.1 28 j = 1))) ∨ (r = some (.int 0) ∧ ¬ (∀ j, j < dn (g.1 0 35) → (wIn gg (g.1 26 j) (g.1 27 j) ↔ g.1 28 j = 1))))) := by
  refine k_enter pn_X3 (Nat.le_of_ble_eq_true rfl) ?_
  refine b_iconst (v := 0) dX3_areSo_0 (by decide) ?_
  refine b_istore_n dX3_areSo_1 (by decide) ?_
  refine b_sub [1, 2, 0] rfl ?_
  exact s_X3_areSo_lp hl hmt hm hm2 hRR hRd qq 0 (by omega) (fun j hj => absurd hj (Nat.not_lt_zero _))

set_option maxRecDepth 100000 in
set_option maxHeartbeats 1000000 in
theorem s_X7_never_lp {w g : kW} {n c qq : Nat} (hh : Rel n c qq w g) (hne : ¬ g.1 0 5 = 0) : ∀ q k, k + q = c → ∀ v : kW, cK2 w v → ∀ s : Int32, (∀ i, i < 32 → (bt s i = true ↔ i < k ∧ soW n c (kset g 0 20 (1 <<< (nI i &&& 31))))) → BS shC RX7 cX7_never 3 (some .int) 5 129 (fun r w' => PA_never n c g r ∧ cK2 w w') 14 [(0, .ref 0), (1, .int s), (2, .int (nI k))] [] v := by
  intro q
  obtain ⟨hM, hRP, hRI, hRA, hRR, hRS, hRN⟩ := id hh
  obtain ⟨hP, hI, hc8, hRd, hu, hS⟩ := id hM
  have hn := hP.le
  induction q with
  | zero =>
    intro k hk v hv s hs
    have hv2 := hh.k2 hv
    refine b_iload_n dX7_never_14 rfl ?_
    refine b_aload_n dX7_never_15 rfl ?_
    refine b_getr dX7_never_16 gf_X7_23 rfl rfl ?_
    refine b_geti dX7_never_19 gf_X7_80 rfl rfl ?_
    refine b_topi (y := nI c) hv2.2.2.1.1 ?_
    refine b_icmp_ge (tgt := 77) dX7_never_22 (by decide) (fun h22 => ?_) (fun h22 => ?_)
    · refine b_iload_n dX7_never_77 rfl ?_
      have e : k = c := by omega
      subst e
      exact b_iret dX7_never_78 rfl ⟨Or.inr ⟨hne, _, rfl, hs⟩, hv⟩
    · exact absurd (nI_le (by omega) (by omega)) h22
  | succ q ih =>
    intro k hk v hv s hs
    have hv2 := hh.k2 hv
    refine b_iload_n dX7_never_14 rfl ?_
    refine b_aload_n dX7_never_15 rfl ?_
    refine b_getr dX7_never_16 gf_X7_23 rfl rfl ?_
    refine b_geti dX7_never_19 gf_X7_80 rfl rfl ?_
    refine b_topi (y := nI c) hv2.2.2.1.1 ?_
    refine b_icmp_ge (tgt := 77) dX7_never_22 (by decide) (fun h22 => ?_) (fun h22 => ?_)
    · exact absurd h22 (nI_ge (by omega) (by omega))
    · refine b_aload_n dX7_never_25 rfl ?_
      refine b_getr dX7_never_26 gf_X7_39 rfl rfl ?_
      refine b_iload_n dX7_never_29 rfl ?_
      refine b_callS1 dX7_never_30 lk_X7_121 ⟨Nat.le_of_ble_eq_true rfl, Nat.le_of_ble_eq_true rfl⟩ (Nat.le_of_ble_eq_true rfl) (s_X7_bit) (fun r w30 h30 => ?_)
      obtain ⟨rfl, rfl⟩ := h30
      refine b_iconst (v := (-1)) dX7_never_33 (by decide) ?_
      refine b_ixor dX7_never_34 ?_
      refine b_aload_n dX7_never_35 rfl ?_
      refine b_getr dX7_never_36 gf_X7_14 rfl rfl ?_
      refine b_geti dX7_never_39 gf_X7_104 rfl rfl ?_
      refine b_bipush (v := 59) dX7_never_42 (by decide) ?_
      refine b_callV3 dX7_never_44 lk_X7_131 rfl rfl rfl ⟨Nat.le_of_ble_eq_true rfl, Nat.le_of_ble_eq_true rfl⟩ (Nat.le_of_ble_eq_true rfl) (s_liveU (g := g) (D := 60) (x := (1 <<< (nI k &&& 31))) hv2 (by omega) (by decide) (u_not (by omega) (by omega))) (fun r w44 h44 => ?_)
      obtain ⟨rfl, hRD, hk⟩ := h44
      have hl := hRD.lv
      obtain ⟨m, hm, hm2⟩ := met_lt (k := 0) (mGo_inv (w := kset g 0 20 (1 <<< (nI k &&& 31))) hP.un hI.un (Nat.le_refl 60)) (by omega)
      refine b_aload_n dX7_never_47 rfl ?_
      refine b_getr dX7_never_48 gf_X7_30 rfl rfl ?_
      refine b_aload_n dX7_never_51 rfl ?_
      refine b_getr dX7_never_52 gf_X7_39 rfl rfl ?_
      refine b_getr dX7_never_55 gf_X7_135 rfl rfl ?_
      refine b_callV1 dX7_never_58 lk_X7_173 rfl rfl rfl ⟨Nat.le_of_ble_eq_true rfl, Nat.le_of_ble_eq_true rfl⟩ (Nat.le_of_ble_eq_true rfl) (s_X3_areSo (g := (kset g 0 20 (1 <<< (nI k &&& 31)))) (gg := mGo n c (kset g 0 20 (1 <<< (nI k &&& 31))) 60) hl (mGo_mt hP.un hI.un (Nat.le_refl 60)) hm hm2 (show RR qq w44 (kset g 0 20 (1 <<< (nI k &&& 31))) from (hv2.k2 hk).2.2.2.2.1) hRd) (fun r w58 h58 => ?_)
      obtain ⟨rfl, h58⟩ := h58
      rcases h58 with ⟨rfl, h58⟩ | ⟨rfl, h58⟩
      · refine b_if_eq (tgt := 71) dX7_never_61 (by decide) (fun h61 => absurd h61 (by decide)) (fun h61 => ?_)
        refine b_iload_n dX7_never_64 rfl ?_
        refine b_iload_n dX7_never_65 rfl ?_
        refine b_callS1 dX7_never_66 lk_X7_121 ⟨Nat.le_of_ble_eq_true rfl, Nat.le_of_ble_eq_true rfl⟩ (Nat.le_of_ble_eq_true rfl) (s_X7_bit) (fun r w66 h66 => ?_)
        obtain ⟨rfl, rfl⟩ := h66
        refine b_ior dX7_never_69 ?_
        refine b_istore_n dX7_never_70 (by decide) ?_
        refine b_iinc dX7_never_71 rfl (nI_inc k) (by decide) ?_
        refine b_goto (tgt := 14) dX7_never_74 (by decide) ?_
        refine b_sub [2, 1, 0] rfl ?_
        refine ih (k + 1) (by omega) _ (hv.tr hk) _ ?_
        exact acc_yes (by omega) hs h58
      · refine b_if_eq (tgt := 71) dX7_never_61 (by decide) (fun h61 => ?_) (fun h61 => absurd h61 (by decide))
        refine b_iinc dX7_never_71 rfl (nI_inc k) (by decide) ?_
        refine b_goto (tgt := 14) dX7_never_74 (by decide) ?_
        refine b_sub [1, 2, 0] rfl ?_
        refine ih (k + 1) (by omega) _ (hv.tr hk) _ ?_
        exact acc_non hs h58

set_option maxRecDepth 100000 in
set_option maxHeartbeats 1000000 in
theorem s_X7_never {w g : kW} {n c qq : Nat} (hh : Rel n c qq w g) : Spec shC yX7_never cX7_never 3 (some .int) 5 129 [.ref 0] w (fun r w' => PA_never n c g r ∧ cK2 w w') := by
  obtain ⟨hM, hRP, hRI, hRA, hRR, hRS, hRN⟩ := id hh
  obtain ⟨hP, hI, hc8, hRd, hu, hS⟩ := id hM
  have hn := hP.le
  refine k_enter pn_X7 (Nat.le_of_ble_eq_true rfl) ?_
  refine b_aload_n dX7_never_0 rfl ?_
  refine b_callV0 dX7_never_1 lk_X7_127 rfl rfl rfl ⟨Nat.le_of_ble_eq_true rfl, Nat.le_of_ble_eq_true rfl⟩ (Nat.le_of_ble_eq_true rfl) (s_empty hh) (fun r w1 h1 => ?_)
  obtain ⟨rfl, h1⟩ := h1
  rcases h1 with ⟨rfl, h1⟩ | ⟨rfl, h1⟩
  · refine b_if_eq (tgt := 10) dX7_never_4 (by decide) (fun h4 => absurd h4 (by decide)) (fun h4 => ?_)
    refine b_bipush (v := (-3)) dX7_never_7 (by decide) ?_
    exact b_iret dX7_never_9 rfl ⟨Or.inl ⟨h1, rfl⟩, fun _ _ => rfl⟩
  · refine b_if_eq (tgt := 10) dX7_never_4 (by decide) (fun h4 => ?_) (fun h4 => absurd h4 (by decide))
    refine b_iconst (v := 0) dX7_never_10 (by decide) ?_
    refine b_istore_n dX7_never_11 (by decide) ?_
    refine b_iconst (v := 0) dX7_never_12 (by decide) ?_
    refine b_istore_n dX7_never_13 (by decide) ?_
    refine b_sub [2, 1, 0] rfl ?_
    exact s_X7_never_lp hh h1 c 0 (by omega) w (fun _ _ => rfl) 0 (fun i hi => by rw [b_0]; simp)

theorem arr_one {n c q k : Nat} {w g : kW} (h : Rel n c q w g) (hk : k < n) : ∀ p, p < n → (bt (w.1 1 1 ||| 1 <<< (nI k &&& 31)) p = false ↔ (kset g 7 k 1).1 7 p = 0) := fun p hp => by
  have hn := h.1.1.le
  rw [b_or, bit_one (by omega) (by omega), kset_1, if_pos rfl]
  by_cases e : p = k
  · subst e
    rw [decide_eq_true rfl, Bool.or_true, if_pos rfl]
    simp
  · rw [decide_eq_false e, Bool.or_false, if_neg e]
    exact h.2.2.2.1 p hp

set_option maxRecDepth 100000 in
set_option maxHeartbeats 1000000 in
theorem s_X7_caught_lp {w g : kW} {n c qq : Nat} (hh : Rel n c qq w g) (hne : ¬ g.1 0 5 = 0) : ∀ q k, k + q = n → ∀ v : kW, cK2 w v → ∀ s : Int32, (∀ i, i < 32 → (bt s i = true ↔ i < k ∧ soW n c (kset g 7 i 1))) → BS shC RX7 cX7_caught 3 (some .int) 5 129 (fun r w' => PA_caught n c g r ∧ cK2 w w') 14 [(0, .ref 0), (1, .int s), (2, .int (nI k))] [] v := by
  intro q
  obtain ⟨hM, hRP, hRI, hRA, hRR, hRS, hRN⟩ := id hh
  obtain ⟨hP, hI, hc8, hRd, hu, hS⟩ := id hM
  have hn := hP.le
  induction q with
  | zero =>
    intro k hk v hv s hs
    have hv2 := hh.k2 hv
    refine b_iload_n dX7_caught_14 rfl ?_
    refine b_aload_n dX7_caught_15 rfl ?_
    refine b_getr dX7_caught_16 gf_X7_14 rfl rfl ?_
    refine b_geti dX7_caught_19 gf_X7_84 rfl rfl ?_
    refine b_topi (y := nI n) hv2.2.1.2.1 ?_
    refine b_icmp_ge (tgt := 77) dX7_caught_22 (by decide) (fun h22 => ?_) (fun h22 => ?_)
    · refine b_iload_n dX7_caught_77 rfl ?_
      have e : k = n := by omega
      subst e
      exact b_iret dX7_caught_78 rfl ⟨Or.inr ⟨hne, _, rfl, hs⟩, hv⟩
    · exact absurd (nI_le (by omega) (by omega)) h22
  | succ q ih =>
    intro k hk v hv s hs
    have hv2 := hh.k2 hv
    refine b_iload_n dX7_caught_14 rfl ?_
    refine b_aload_n dX7_caught_15 rfl ?_
    refine b_getr dX7_caught_16 gf_X7_14 rfl rfl ?_
    refine b_geti dX7_caught_19 gf_X7_84 rfl rfl ?_
    refine b_topi (y := nI n) hv2.2.1.2.1 ?_
    refine b_icmp_ge (tgt := 77) dX7_caught_22 (by decide) (fun h22 => ?_) (fun h22 => ?_)
    · exact absurd h22 (nI_ge (by omega) (by omega))
    · refine b_aload_n dX7_caught_25 rfl ?_
      refine b_getr dX7_caught_26 gf_X7_39 rfl rfl ?_
      refine b_iconst (v := (-1)) dX7_caught_29 (by decide) ?_
      refine b_aload_n dX7_caught_30 rfl ?_
      refine b_getr dX7_caught_31 gf_X7_14 rfl rfl ?_
      refine b_geti dX7_caught_34 gf_X7_104 rfl rfl ?_
      refine b_iload_n dX7_caught_37 rfl ?_
      refine b_callS1 dX7_caught_38 lk_X7_121 ⟨Nat.le_of_ble_eq_true rfl, Nat.le_of_ble_eq_true rfl⟩ (Nat.le_of_ble_eq_true rfl) (s_X7_bit) (fun r w38 h38 => ?_)
      obtain ⟨rfl, rfl⟩ := h38
      refine b_ior dX7_caught_41 ?_
      refine b_bipush (v := 59) dX7_caught_42 (by decide) ?_
      refine b_callV3 dX7_caught_44 lk_X7_131 rfl rfl rfl ⟨Nat.le_of_ble_eq_true rfl, Nat.le_of_ble_eq_true rfl⟩ (Nat.le_of_ble_eq_true rfl) (s_liveA (g := g) (g2 := (kset g 7 k 1)) (D := 60) hv2 (by omega) (by decide) (hP.ar (Or.inr rfl)) hI.ar hu (fun j hj => kset_row _ _ _ _ (by omega)) (arr_one hv2 (by omega))) (fun r w44 h44 => ?_)
      obtain ⟨rfl, hRD, hk⟩ := h44
      have hl := hRD.lv
      obtain ⟨m, hm, hm2⟩ := met_lt (k := 0) (mGo_inv (w := (kset g 7 k 1)) (hP.ar (Or.inr rfl)) hI.ar (Nat.le_refl 60)) (by omega)
      refine b_aload_n dX7_caught_47 rfl ?_
      refine b_getr dX7_caught_48 gf_X7_30 rfl rfl ?_
      refine b_aload_n dX7_caught_51 rfl ?_
      refine b_getr dX7_caught_52 gf_X7_39 rfl rfl ?_
      refine b_getr dX7_caught_55 gf_X7_135 rfl rfl ?_
      refine b_callV1 dX7_caught_58 lk_X7_173 rfl rfl rfl ⟨Nat.le_of_ble_eq_true rfl, Nat.le_of_ble_eq_true rfl⟩ (Nat.le_of_ble_eq_true rfl) (s_X3_areSo (g := (kset g 7 k 1)) (gg := mGo n c (kset g 7 k 1) 60) hl (mGo_mt (hP.ar (Or.inr rfl)) hI.ar (Nat.le_refl 60)) hm hm2 (show RR qq w44 (kset g 7 k 1) from (hv2.k2 hk).2.2.2.2.1) hRd) (fun r w58 h58 => ?_)
      obtain ⟨rfl, h58⟩ := h58
      rcases h58 with ⟨rfl, h58⟩ | ⟨rfl, h58⟩
      · refine b_if_eq (tgt := 71) dX7_caught_61 (by decide) (fun h61 => absurd h61 (by decide)) (fun h61 => ?_)
        refine b_iload_n dX7_caught_64 rfl ?_
        refine b_iload_n dX7_caught_65 rfl ?_
        refine b_callS1 dX7_caught_66 lk_X7_121 ⟨Nat.le_of_ble_eq_true rfl, Nat.le_of_ble_eq_true rfl⟩ (Nat.le_of_ble_eq_true rfl) (s_X7_bit) (fun r w66 h66 => ?_)
        obtain ⟨rfl, rfl⟩ := h66
        refine b_ior dX7_caught_69 ?_
        refine b_istore_n dX7_caught_70 (by decide) ?_
        refine b_iinc dX7_caught_71 rfl (nI_inc k) (by decide) ?_
        refine b_goto (tgt := 14) dX7_caught_74 (by decide) ?_
        refine b_sub [2, 1, 0] rfl ?_
        refine ih (k + 1) (by omega) _ (hv.tr hk) _ ?_
        exact acc_yes (by omega) hs h58
      · refine b_if_eq (tgt := 71) dX7_caught_61 (by decide) (fun h61 => ?_) (fun h61 => absurd h61 (by decide))
        refine b_iinc dX7_caught_71 rfl (nI_inc k) (by decide) ?_
        refine b_goto (tgt := 14) dX7_caught_74 (by decide) ?_
        refine b_sub [1, 2, 0] rfl ?_
        refine ih (k + 1) (by omega) _ (hv.tr hk) _ ?_
        exact acc_non hs h58

set_option maxRecDepth 100000 in
set_option maxHeartbeats 1000000 in
theorem s_X7_caught {w g : kW} {n c qq : Nat} (hh : Rel n c qq w g) : Spec shC yX7_caught cX7_caught 3 (some .int) 5 129 [.ref 0] w (fun r w' => PA_caught n c g r ∧ cK2 w w') := by
  obtain ⟨hM, hRP, hRI, hRA, hRR, hRS, hRN⟩ := id hh
  obtain ⟨hP, hI, hc8, hRd, hu, hS⟩ := id hM
  have hn := hP.le
  refine k_enter pn_X7 (Nat.le_of_ble_eq_true rfl) ?_
  refine b_aload_n dX7_caught_0 rfl ?_
  refine b_callV0 dX7_caught_1 lk_X7_127 rfl rfl rfl ⟨Nat.le_of_ble_eq_true rfl, Nat.le_of_ble_eq_true rfl⟩ (Nat.le_of_ble_eq_true rfl) (s_empty hh) (fun r w1 h1 => ?_)
  obtain ⟨rfl, h1⟩ := h1
  rcases h1 with ⟨rfl, h1⟩ | ⟨rfl, h1⟩
  · refine b_if_eq (tgt := 10) dX7_caught_4 (by decide) (fun h4 => absurd h4 (by decide)) (fun h4 => ?_)
    refine b_bipush (v := (-3)) dX7_caught_7 (by decide) ?_
    exact b_iret dX7_caught_9 rfl ⟨Or.inl ⟨h1, rfl⟩, fun _ _ => rfl⟩
  · refine b_if_eq (tgt := 10) dX7_caught_4 (by decide) (fun h4 => ?_) (fun h4 => absurd h4 (by decide))
    refine b_iconst (v := 0) dX7_caught_10 (by decide) ?_
    refine b_istore_n dX7_caught_11 (by decide) ?_
    refine b_iconst (v := 0) dX7_caught_12 (by decide) ?_
    refine b_istore_n dX7_caught_13 (by decide) ?_
    refine b_sub [2, 1, 0] rfl ?_
    exact s_X7_caught_lp hh h1 n 0 (by omega) w (fun _ _ => rfl) 0 (fun i hi => by rw [b_0]; simp)

set_option maxRecDepth 100000 in
set_option maxHeartbeats 1000000 in
theorem s_X7_worth {w g : kW} {n c q : Nat} (hh : Rel n c q w g) {k : Int32} : Spec shC yX7_worth cX7_worth 3 (some .int) 5 129 [.ref 0, .int k] w (fun r w' => r = some (.int (A_worth n c g k)) ∧ cK2 w w') := by
  obtain ⟨hM, hRP, hRI, hRA, hRR, hRS, hRN⟩ := id hh
  obtain ⟨hP, hI, hc8, hRd, hu, hS⟩ := id hM
  have hn := hP.le
  refine k_enter pn_X7 (Nat.le_of_ble_eq_true rfl) ?_
  refine b_iload_n dX7_worth_0 rfl ?_
  refine b_if_lt (tgt := 15) dX7_worth_1 (by decide) (fun h1 => ?_) (fun h1 => ?_)
  · refine b_iconst (v := (-1)) dX7_worth_15 (by decide) ?_
    refine b_iret dX7_worth_16 rfl ⟨?_, ?_⟩
    · simp only [A_worth, if_neg (show ¬ (¬ k < 0 ∧ k < g.1 0 15) from fun z => z.1 h1)] <;> rfl
    · exact fun _ _ => rfl
  · refine b_iload_n dX7_worth_4 rfl ?_
    refine b_aload_n dX7_worth_5 rfl ?_
    refine b_getr dX7_worth_6 gf_X7_23 rfl rfl ?_
    refine b_geti dX7_worth_9 gf_X7_80 rfl rfl ?_
    refine b_topi (y := g.1 0 15) hh.hc ?_
    refine b_icmp_lt (tgt := 17) dX7_worth_12 (by decide) (fun h12 => ?_) (fun h12 => ?_)
    · have hz : ¬ k < 0 ∧ k < g.1 0 15 := ⟨h1, h12⟩
      obtain ⟨kk, hkk, rfl⟩ := nI_between h1 (hI.1 ▸ h12) (by omega)
      refine b_aload_n dX7_worth_17 rfl ?_
      refine b_getr dX7_worth_18 gf_X7_39 rfl rfl ?_
      refine b_iconst (v := (-1)) dX7_worth_21 (by decide) ?_
      refine b_aload_n dX7_worth_22 rfl ?_
      refine b_getr dX7_worth_23 gf_X7_14 rfl rfl ?_
      refine b_geti dX7_worth_26 gf_X7_104 rfl rfl ?_
      refine b_bipush (v := 59) dX7_worth_29 (by decide) ?_
      refine b_callV3 dX7_worth_31 lk_X7_131 rfl rfl rfl ⟨Nat.le_of_ble_eq_true rfl, Nat.le_of_ble_eq_true rfl⟩ (Nat.le_of_ble_eq_true rfl) (s_live hh (D := 60) (by omega) (by decide)) (fun r w31 h31 => ?_)
      obtain ⟨rfl, hRD, hk⟩ := h31
      have hl := hRD.lv
      refine b_aload_n dX7_worth_34 rfl ?_
      refine b_getr dX7_worth_35 gf_X7_39 rfl rfl ?_
      refine b_getr dX7_worth_38 gf_X7_135 rfl rfl ?_
      refine b_geti dX7_worth_41 gf_X7_139 rfl rfl ?_
      refine b_topi (y := (mGo n c g 60).1 0 28) hl.m ?_
      refine b_istore_n dX7_worth_44 (by decide) ?_
      refine b_aload_n dX7_worth_45 rfl ?_
      refine b_getr dX7_worth_46 gf_X7_39 rfl rfl ?_
      refine b_iload_n dX7_worth_49 rfl ?_
      refine b_callS1 dX7_worth_50 lk_X7_121 ⟨Nat.le_of_ble_eq_true rfl, Nat.le_of_ble_eq_true rfl⟩ (Nat.le_of_ble_eq_true rfl) (s_X7_bit) (fun r w50 h50 => ?_)
      obtain ⟨rfl, rfl⟩ := h50
      refine b_iconst (v := (-1)) dX7_worth_53 (by decide) ?_
      refine b_ixor dX7_worth_54 ?_
      refine b_aload_n dX7_worth_55 rfl ?_
      refine b_getr dX7_worth_56 gf_X7_14 rfl rfl ?_
      refine b_geti dX7_worth_59 gf_X7_104 rfl rfl ?_
      refine b_bipush (v := 59) dX7_worth_62 (by decide) ?_
      refine b_callV3 dX7_worth_64 lk_X7_131 rfl rfl rfl ⟨Nat.le_of_ble_eq_true rfl, Nat.le_of_ble_eq_true rfl⟩ (Nat.le_of_ble_eq_true rfl) (s_liveU (g := g) (D := 60) (x := 1 <<< (nI kk &&& 31)) (hh.k2 hk) (by omega) (by decide) (u_not (by omega) (by omega))) (fun r w64 h64 => ?_)
      obtain ⟨rfl, hRD2, hk2⟩ := h64
      have hl2 := hRD2.lv
      refine b_iload_n dX7_worth_67 rfl ?_
      refine b_aload_n dX7_worth_68 rfl ?_
      refine b_getr dX7_worth_69 gf_X7_39 rfl rfl ?_
      refine b_getr dX7_worth_72 gf_X7_135 rfl rfl ?_
      refine b_geti dX7_worth_75 gf_X7_139 rfl rfl ?_
      refine b_topi (y := (mGo n c (kset g 0 20 (1 <<< (nI kk &&& 31))) 60).1 0 28) hl2.m ?_
      refine b_isub dX7_worth_78 ?_
      refine b_sipush (v := 1000) dX7_worth_79 (by decide) ?_
      refine b_iadd dX7_worth_82 ?_
      refine b_iret dX7_worth_83 rfl ⟨?_, ?_⟩
      · simp only [A_worth, if_pos hz] <;> rfl
      · exact hk.tr hk2
    · refine b_iconst (v := (-1)) dX7_worth_15 (by decide) ?_
      refine b_iret dX7_worth_16 rfl ⟨?_, ?_⟩
      · simp only [A_worth, if_neg (show ¬ (¬ k < 0 ∧ k < g.1 0 15) from fun z => h12 z.2)] <;> rfl
      · exact fun _ _ => rfl

set_option maxRecDepth 100000 in
set_option maxHeartbeats 1000000 in
theorem s_X7_many {w g : kW} {n c q : Nat} (hh : Rel n c q w g) {what : Int32} : Spec shC yX7_many cX7_many 2 (some .int) 5 129 [.ref 0, .int what] w (fun r w' => r = some (.int (A_many n c g what)) ∧ cK2 w w') := by
  obtain ⟨hM, hRP, hRI, hRA, hRR, hRS, hRN⟩ := id hh
  obtain ⟨hP, hI, hc8, hRd, hu, hS⟩ := id hM
  have hn := hP.le
  have many3 : (if g.1 0 5 = 0 then 0 else (mGo n c g 60).1 0 28) = (mGo n c g 60).1 0 28 := by
    by_cases h : g.1 0 5 = 0
    · rw [if_pos h]; exact (mGo_n0 hP hI (Nat.le_refl 60) h).symm
    · rw [if_neg h]
  refine k_enter pn_X7 (Nat.le_of_ble_eq_true rfl) ?_
  refine b_iload_n dX7_many_0 rfl ?_
  by_cases hw : (0 : Int32) ≤ what ∧ what ≤ 3
  obtain ⟨x, hx, rfl⟩ := nI_of2 (n := 3) (M := 3) (by decide) (Int32.not_lt.mpr hw.1) hw.2
  rcases (show x = 0 ∨ x = 1 ∨ x = 2 ∨ x = 3 by omega) with rfl | rfl | rfl | rfl
  · refine b_tsIn (off := 31) (tgt := 32) dX7_many_1 (by decide) (by decide) (by decide) (by decide) ?_
    refine b_aload_n dX7_many_32 rfl ?_
    refine b_getr dX7_many_33 gf_X7_14 rfl rfl ?_
    refine b_geti dX7_many_36 gf_X7_84 rfl rfl ?_
    refine b_topi (y := g.1 0 5) hh.hp ?_
    refine b_iret dX7_many_39 rfl ⟨?_, ?_⟩
    · simp only [A_many, if_neg (show ¬ nI 0 = 3 by decide), if_pos (show nI 0 = 0 by decide)] <;> rfl
    · exact fun _ _ => rfl
  · refine b_tsIn (off := 39) (tgt := 40) dX7_many_1 (by decide) (by decide) (by decide) (by decide) ?_
    refine b_aload_n dX7_many_40 rfl ?_
    refine b_getr dX7_many_41 gf_X7_23 rfl rfl ?_
    refine b_geti dX7_many_44 gf_X7_80 rfl rfl ?_
    refine b_topi (y := g.1 0 15) hh.hc ?_
    refine b_iret dX7_many_47 rfl ⟨?_, ?_⟩
    · simp only [A_many, if_neg (show ¬ nI 1 = 3 by decide), if_neg (show ¬ nI 1 = 0 by decide), if_pos (show nI 1 = 1 by decide)] <;> rfl
    · exact fun _ _ => rfl
  · refine b_tsIn (off := 47) (tgt := 48) dX7_many_1 (by decide) (by decide) (by decide) (by decide) ?_
    refine b_aload_n dX7_many_48 rfl ?_
    refine b_getr dX7_many_49 gf_X7_30 rfl rfl ?_
    refine b_geti dX7_many_52 gf_X7_83 rfl rfl ?_
    refine b_topi (y := g.1 0 35) hh.hq ?_
    refine b_iret dX7_many_55 rfl ⟨?_, ?_⟩
    · simp only [A_many, if_neg (show ¬ nI 2 = 3 by decide), if_neg (show ¬ nI 2 = 0 by decide), if_neg (show ¬ nI 2 = 1 by decide), if_pos (show nI 2 = 2 by decide)] <;> rfl
    · exact fun _ _ => rfl
  · refine b_tsIn (off := 55) (tgt := 56) dX7_many_1 (by decide) (by decide) (by decide) (by decide) ?_
    refine b_aload_n dX7_many_56 rfl ?_
    refine b_getr dX7_many_57 gf_X7_39 rfl rfl ?_
    refine b_iconst (v := (-1)) dX7_many_60 (by decide) ?_
    refine b_aload_n dX7_many_61 rfl ?_
    refine b_getr dX7_many_62 gf_X7_14 rfl rfl ?_
    refine b_geti dX7_many_65 gf_X7_104 rfl rfl ?_
    refine b_bipush (v := 59) dX7_many_68 (by decide) ?_
    refine b_callV3 dX7_many_70 lk_X7_131 rfl rfl rfl ⟨Nat.le_of_ble_eq_true rfl, Nat.le_of_ble_eq_true rfl⟩ (Nat.le_of_ble_eq_true rfl) (s_live hh (D := 60) (by omega) (by decide)) (fun r w70 h70 => ?_)
    obtain ⟨rfl, hRD, hk⟩ := h70
    have hl := hRD.lv
    refine b_aload_n dX7_many_73 rfl ?_
    refine b_getr dX7_many_74 gf_X7_39 rfl rfl ?_
    refine b_getr dX7_many_77 gf_X7_135 rfl rfl ?_
    refine b_geti dX7_many_80 gf_X7_139 rfl rfl ?_
    refine b_topi (y := (mGo n c g 60).1 0 28) hl.m ?_
    refine b_iret dX7_many_83 rfl ⟨?_, ?_⟩
    · simp only [A_many, if_pos (show nI 3 = 3 by decide), many3] <;> rfl
    · exact hk
  · refine b_tsOut (tgt := 84) dX7_many_1 (ts_out 3 (by decide) hw) (by decide) ?_
    refine b_bipush (v := (-2)) dX7_many_84 (by decide) ?_
    refine b_iret dX7_many_86 rfl ⟨?_, ?_⟩
    · simp only [A_many, if_neg (show ¬ what = 3 from fun z => hw (by rw [z]; decide)), if_neg (show ¬ what = 0 from fun z => hw (by rw [z]; decide)), if_neg (show ¬ what = 1 from fun z => hw (by rw [z]; decide)), if_neg (show ¬ what = 2 from fun z => hw (by rw [z]; decide))] <;> rfl
    · exact fun _ _ => rfl
