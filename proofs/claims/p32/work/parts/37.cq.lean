/-- what the class's season tells once it was lived, beside the model's -/
def LV (n : Nat) (w g : kW) : Prop := RP n w g ∧ RLg n w g ∧ (∀ p, p < n → (bt (w.1 15 9) p = false ↔ g.1 7 p = 0)) ∧ g.1 0 22 = 0
theorem RD.lv {n c d : Nat} {w g : kW} (h : RD n c d w (mAhead n c g d)) : LV n w (mGo n c g d) :=
  ⟨h.1.keep2 (fun _ _ => rfl) (sKeep.rf.num (by decide)), h.2.2.2.2.2.1.z, h.2.2.2.1.2.1, rfl⟩
theorem LV.m {n : Nat} {w g : kW} (h : LV n w g) : w.1 16 0 = g.1 0 28 := by
  obtain ⟨m, t, _, _, a, b, _⟩ := h.2.1
  rw [a, b]
theorem LV.row {n j k : Nat} {w g : kW} (h : LV n w g) (h1 : 20 ≤ j) (h2 : j ≤ 25) (hk : k < dn (g.1 0 28)) : w.1 (j - 2) k = g.1 j k := by
  obtain ⟨m, t, hm, _, a, b, _, _, ⟨hL, _⟩, _⟩ := h.2.1
  rw [a, dn_nI (by omega)] at hk
  exact hL j k h1 h2 hk
theorem LV.well {n p : Nat} {w g : kW} (h : LV n w g) (hp : p < n) : w.1 29 p = g.1 15 p := by
  obtain ⟨m, t, hm, _, a, b, _, _, ⟨_, _, hL⟩, _⟩ := h.2.1
  exact hL p hp
/-- living all told insults -/
theorem s_live {n c q D : Nat} {w g : kW} {last : Int32} (h : Rel n c q w g) (hD : D ≤ 60) (hl : last = nI D - 1) : Spec shC yX4_live cX4_live 5 none 4 105 [.ref 15, .int (-1), .int (w.1 1 1), .int last] w (fun r w' => r = none ∧ RD n c D w' (mAhead n c g D) ∧ cK2 w w') :=
  s_X4_live h.2.1 h.1.2.1 h.2.2.1 hD hl (fun k hk => by
    have := h.1.2.2.1
    rw [b_m1 k (by omega), h.1.2.2.2.2.1, b_0]; simp) h.2.2.2.1
theorem mAhead_n0 {g : kW} (hP : Pn 0 g) (hI : Ins 0 0 g) : ∀ d, d ≤ 60 → (mAhead 0 0 g d).1 0 28 = 0
  | 0, _ => rfl
  | d + 1, hd => by
    obtain ⟨⟨hp, m, t, hm, hm2, ht, htm, hT⟩, hk⟩ := mAhead_inv hP hI d (by omega)
    have t0 : t = 0 := by
      rcases Nat.eq_zero_or_pos t with e | e
      · exact e
      · obtain ⟨a, b, ha, _⟩ := hT 0 e; omega
    subst t0
    have e : (mTold (mAhead 0 0 g d) d 0).1 0 23 = nI 0 := by
      show (kset (mAhead 0 0 g d) 0 22 0).1 0 23 = nI 0
      exact ht
    show (mTk (mTold (mAhead 0 0 g d) d 0) d ((mAhead 0 0 g d).1 0 23).toNatClampNeg).1 0 28 = 0
    rw [ht]
    show (mTk (mTold (mAhead 0 0 g d) d 0) d 0).1 0 28 = 0
    exact mAhead_n0 hP hI d (by omega)
theorem mGo_n0 {n c d : Nat} {g : kW} (hP : Pn n g) (hI : Ins n c g) (hd : d ≤ 60) (h : g.1 0 5 = 0) : (mGo n c g d).1 0 28 = 0 := by
  have hn : n = 0 := nI_inj (by have := hP.le; omega) (by decide) (hP.1.symm.trans h)
  subst hn
  have hc : c = 0 := by
    rcases Nat.eq_zero_or_pos c with e | e
    · exact e
    · obtain ⟨a, b, d, e, ha, _⟩ := hI.2.2 0 e; omega
  subst hc
  exact mAhead_n0 hP hI d hd
set_option maxRecDepth 100000 in
set_option maxHeartbeats 1000000 in
theorem s_X7_meetings {w g : kW} {n c q : Nat} (hh : Rel n c q w g) {d : Int32} : Spec shC yX7_meetings cX7_meetings 2 (some .int) 5 129 [.ref 0, .int d] w (fun r w' => r = some (.int (A_meetings n c g d)) ∧ cK2 w w') := by
  obtain ⟨hM, hRP, hRI, hRA, hRR, hRS, hRN⟩ := id hh
  obtain ⟨hP, hI, hc8, hRd, hu, hS⟩ := id hM
  have hn := hP.le
  refine k_enter pn_X7 (Nat.le_of_ble_eq_true rfl) ?_
  refine b_iload_n dX7_meetings_0 rfl ?_
  refine b_callS1 dX7_meetings_1 lk_X7_124 ⟨Nat.le_of_ble_eq_true rfl, Nat.le_of_ble_eq_true rfl⟩ (Nat.le_of_ble_eq_true rfl) (s_X7_isDawn) (fun r w1 h1 => ?_)
  obtain ⟨rfl, h1⟩ := h1
  rcases h1 with ⟨rfl, h1⟩ | ⟨rfl, h1⟩
  · refine b_if_ne (tgt := 10) dX7_meetings_4 (by decide) (fun h4 => ?_) (fun h4 => absurd h4 (by decide))
    obtain ⟨D, hD, rfl⟩ := dawn_of h1
    refine b_aload_n dX7_meetings_10 rfl ?_
    refine b_callV0 dX7_meetings_11 lk_X7_127 rfl rfl rfl ⟨Nat.le_of_ble_eq_true rfl, Nat.le_of_ble_eq_true rfl⟩ (Nat.le_of_ble_eq_true rfl) (s_empty hh) (fun r w11 h11 => ?_)
    obtain ⟨rfl, h11⟩ := h11
    rcases h11 with ⟨rfl, h11⟩ | ⟨rfl, h11⟩
    · refine b_if_eq (tgt := 20) dX7_meetings_14 (by decide) (fun h14 => absurd h14 (by decide)) (fun h14 => ?_)
      refine b_bipush (v := (-3)) dX7_meetings_17 (by decide) ?_
      refine b_iret dX7_meetings_19 rfl ⟨?_, ?_⟩
      · simp only [A_meetings, if_pos (dawn_in hD), if_pos h11] <;> rfl
      · exact fun _ _ => rfl
    · refine b_if_eq (tgt := 20) dX7_meetings_14 (by decide) (fun h14 => ?_) (fun h14 => absurd h14 (by decide))
      refine b_aload_n dX7_meetings_20 rfl ?_
      refine b_getr dX7_meetings_21 gf_X7_39 rfl rfl ?_
      refine b_iconst (v := (-1)) dX7_meetings_24 (by decide) ?_
      refine b_aload_n dX7_meetings_25 rfl ?_
      refine b_getr dX7_meetings_26 gf_X7_14 rfl rfl ?_
      refine b_geti dX7_meetings_29 gf_X7_104 rfl rfl ?_
      refine b_iload_n dX7_meetings_32 rfl ?_
      refine b_callV3 dX7_meetings_33 lk_X7_131 rfl rfl rfl ⟨Nat.le_of_ble_eq_true rfl, Nat.le_of_ble_eq_true rfl⟩ (Nat.le_of_ble_eq_true rfl) (s_live hh (D := D + 1) (by omega) (nI_predS.symm)) (fun r w33 h33 => ?_)
      obtain ⟨rfl, hRD, hk⟩ := h33
      have hl := hRD.lv
      refine b_aload_n dX7_meetings_36 rfl ?_
      refine b_getr dX7_meetings_37 gf_X7_39 rfl rfl ?_
      refine b_getr dX7_meetings_40 gf_X7_135 rfl rfl ?_
      refine b_geti dX7_meetings_43 gf_X7_139 rfl rfl ?_
      refine b_topi (y := (mGo n c g (D + 1)).1 0 28) hl.m ?_
      refine b_iret dX7_meetings_46 rfl ⟨?_, ?_⟩
      · simp only [A_meetings, if_pos (dawn_in hD), if_neg h11, dn_nI (show D < 2 ^ 31 by omega)] <;> rfl
      · exact hk
  · refine b_if_ne (tgt := 10) dX7_meetings_4 (by decide) (fun h4 => absurd h4 (by decide)) (fun h4 => ?_)
    refine b_bipush (v := (-2)) dX7_meetings_7 (by decide) ?_
    refine b_iret dX7_meetings_9 rfl ⟨?_, ?_⟩
    · simp only [A_meetings, if_neg h1] <;> rfl
    · exact fun _ _ => rfl
theorem fact {x : Nat} (h : x < 6) : shC[18 + x]? = some (.inr (.inl (0, 180))) := by
  rcases (show x = 0 ∨ x = 1 ∨ x = 2 ∨ x = 3 ∨ x = 4 ∨ x = 5 by omega) with rfl | rfl | rfl | rfl | rfl | rfl <;> rfl
set_option maxRecDepth 100000 in
set_option maxHeartbeats 1000000 in
theorem s_X7_met {w g : kW} {n c q : Nat} (hh : Rel n c q w g) {k what : Int32} : Spec shC yX7_met cX7_met 3 (some .int) 5 129 [.ref 0, .int k, .int what] w (fun r w' => r = some (.int (A_met n c g k what)) ∧ cK2 w w') := by
  obtain ⟨hM, hRP, hRI, hRA, hRR, hRS, hRN⟩ := id hh
  obtain ⟨hP, hI, hc8, hRd, hu, hS⟩ := id hM
  have hn := hP.le
  refine k_enter pn_X7 (Nat.le_of_ble_eq_true rfl) ?_
  refine b_aload_n dX7_met_0 rfl ?_
  refine b_getr dX7_met_1 gf_X7_39 rfl rfl ?_
  refine b_iconst (v := (-1)) dX7_met_4 (by decide) ?_
  refine b_aload_n dX7_met_5 rfl ?_
  refine b_getr dX7_met_6 gf_X7_14 rfl rfl ?_
  refine b_geti dX7_met_9 gf_X7_104 rfl rfl ?_
  refine b_bipush (v := 59) dX7_met_12 (by decide) ?_
  refine b_callV3 dX7_met_14 lk_X7_131 rfl rfl rfl ⟨Nat.le_of_ble_eq_true rfl, Nat.le_of_ble_eq_true rfl⟩ (Nat.le_of_ble_eq_true rfl) (s_live hh (D := 60) (by omega) (by decide)) (fun r w14 h14 => ?_)
  obtain ⟨rfl, hRD, hk⟩ := h14
  have hl := hRD.lv
  refine b_iload_n dX7_met_17 rfl ?_
  refine b_if_lt (tgt := 35) dX7_met_18 (by decide) (fun h18 => ?_) (fun h18 => ?_)
  · refine b_iconst (v := (-1)) dX7_met_35 (by decide) ?_
    refine b_iret dX7_met_36 rfl ⟨?_, ?_⟩
    · simp only [A_met, if_pos (show k < 0 ∨ (mGo n c g 60).1 0 28 ≤ k ∨ g.1 0 5 = 0 from Or.inl h18)] <;> rfl
    · exact hk
  · refine b_iload_n dX7_met_21 rfl ?_
    refine b_aload_n dX7_met_22 rfl ?_
    refine b_getr dX7_met_23 gf_X7_39 rfl rfl ?_
    refine b_getr dX7_met_26 gf_X7_135 rfl rfl ?_
    refine b_geti dX7_met_29 gf_X7_139 rfl rfl ?_
    refine b_topi (y := (mGo n c g 60).1 0 28) hl.m ?_
    refine b_icmp_lt (tgt := 37) dX7_met_32 (by decide) (fun h32 => ?_) (fun h32 => ?_)
    · obtain ⟨m, hm, hm2⟩ := met_lt (k := 0) (mGo_inv hP hI (Nat.le_refl 60)) (by omega)
      have hno : ¬ (k < 0 ∨ (mGo n c g 60).1 0 28 ≤ k ∨ g.1 0 5 = 0) := fun h => h.elim h18 (fun h => h.elim (Int32.not_le.mpr h32) (fun h => h18 (by have := mGo_n0 hP hI (Nat.le_refl 60) h; rw [this] at h32; exact h32)))
      obtain ⟨j, hj, rfl⟩ := nI_between h18 (by rw [← hm]; exact h32) (by omega)
      refine b_iload_n dX7_met_37 rfl ?_
      refine b_if_lt (tgt := 47) dX7_met_38 (by decide) (fun h38 => ?_) (fun h38 => ?_)
      · refine b_bipush (v := (-2)) dX7_met_47 (by decide) ?_
        refine b_iret dX7_met_49 rfl ⟨?_, ?_⟩
        · simp only [A_met, if_neg hno, if_neg (show ¬ (0 ≤ what ∧ what ≤ 5) from fun z => absurd z.1 (Int32.not_le.mpr h38))] <;> rfl
        · exact hk
      · refine b_iload_n dX7_met_41 rfl ?_
        refine b_bipush (v := 6) dX7_met_42 (by decide) ?_
        refine b_icmp_lt (tgt := 50) dX7_met_44 (by decide) (fun h44 => ?_) (fun h44 => ?_)
        · have hz : 0 ≤ what ∧ what ≤ 5 := ⟨Int32.not_lt.mp h38, (lt_le (by decide)).mp h44⟩
          obtain ⟨x, hx, rfl⟩ := nI_of2 (n := 5) (M := 5) (by decide) h38 hz.2
          refine b_aload_n dX7_met_50 rfl ?_
          refine b_getr dX7_met_51 gf_X7_39 rfl rfl ?_
          refine b_getr dX7_met_54 gf_X7_135 rfl rfl ?_
          refine b_getr dX7_met_57 gf_X7_142 rfl rfl ?_
          refine b_iload_n dX7_met_60 rfl ?_
          refine b_aald (r := 18 + x) dX7_met_61 rfl (by decide) (by unfold vp_in; rw [nI_clamp (by omega)]; intro z; rcases z with z | z; exact nI_pos (by omega) z; omega) (by rw [nI_clamp (by omega), if_pos (by omega)]) ?_
          refine b_iload_n dX7_met_62 rfl ?_
          refine b_ialdN dX7_met_63 (fact (x := x) (by omega)) ⟨by omega, by decide⟩ ?_
          refine b_topi (y := (mGo n c g 60).1 (20 + x) j) (by have := hl.row (j := 20 + x) (k := j) (by omega) (by omega) (by rw [hm, dn_nI (by omega)]; exact hj); rw [← this, show 20 + x - 2 = 18 + x by omega]) ?_
          refine b_iret dX7_met_64 rfl ⟨?_, ?_⟩
          · simp only [A_met, if_neg hno, if_pos hz, dn_nI (show j < 2 ^ 31 by omega), dn_nI (show x < 2 ^ 31 by omega)] <;> rfl
          · exact hk
        · refine b_bipush (v := (-2)) dX7_met_47 (by decide) ?_
          refine b_iret dX7_met_49 rfl ⟨?_, ?_⟩
          · simp only [A_met, if_neg hno, if_neg (show ¬ (0 ≤ what ∧ what ≤ 5) from fun z => absurd ((lt_le (a := 5) (b := 6) (by decide)).mpr z.2) h44)] <;> rfl
          · exact hk
    · refine b_iconst (v := (-1)) dX7_met_35 (by decide) ?_
      refine b_iret dX7_met_36 rfl ⟨?_, ?_⟩
      · simp only [A_met, if_pos (show k < 0 ∨ (mGo n c g 60).1 0 28 ≤ k ∨ g.1 0 5 = 0 from Or.inr (Or.inl (Int32.not_lt.mp h32)))] <;> rfl
      · exact hk
theorem LV.free {n p : Nat} {d : Int32} {w g : kW} {s : Int32} (h : LV n w g) (hs : ∀ p, p < 6 → (bt s p = true ↔ p < n ∧ bt (w.1 15 9) p = false ∧ w.1 29 p ≤ d)) (hp6 : p < 6) : bt s p = true ↔ p < n ∧ mFree g p d := by
  rw [hs p hp6]
  constructor
  · rintro ⟨a, b, e⟩
    exact ⟨a, (h.2.2.1 p a).mp b, by rw [← h.well a]; exact e, by rw [h.2.2.2]; exact b_0 p⟩
  · rintro ⟨a, b, e, _⟩
    exact ⟨a, (h.2.2.1 p a).mpr b, by rw [h.well a]; exact e⟩
set_option maxRecDepth 100000 in
set_option maxHeartbeats 1000000 in
theorem s_X7_free {w g : kW} {n c q : Nat} (hh : Rel n c q w g) {p d : Int32} : Spec shC yX7_free cX7_free 3 (some .int) 5 129 [.ref 0, .int p, .int d] w (fun r w' => r = some (.int (A_free n c g p d)) ∧ cK2 w w') := by
  obtain ⟨hM, hRP, hRI, hRA, hRR, hRS, hRN⟩ := id hh
  obtain ⟨hP, hI, hc8, hRd, hu, hS⟩ := id hM
  have hn := hP.le
  refine k_enter pn_X7 (Nat.le_of_ble_eq_true rfl) ?_
  refine b_aload_n dX7_free_0 rfl ?_
  refine b_getr dX7_free_1 gf_X7_14 rfl rfl ?_
  refine b_iload_n dX7_free_4 rfl ?_
  refine b_callV1 dX7_free_5 lk_X7_85 rfl rfl rfl ⟨Nat.le_of_ble_eq_true rfl, Nat.le_of_ble_eq_true rfl⟩ (Nat.le_of_ble_eq_true rfl) (s_has hh) (fun r w5 h5 => ?_)
  obtain ⟨rfl, h5⟩ := h5
  rcases h5 with ⟨rfl, h5⟩ | ⟨rfl, h5⟩
  · refine b_if_ne (tgt := 13) dX7_free_8 (by decide) (fun h8 => ?_) (fun h8 => absurd h8 (by decide))
    have hq2 : isPr g p := h5
    obtain ⟨pp, hp, rfl⟩ := pers_of hP hq2
    refine b_iload_n dX7_free_13 rfl ?_
    refine b_callS1 dX7_free_14 lk_X7_124 ⟨Nat.le_of_ble_eq_true rfl, Nat.le_of_ble_eq_true rfl⟩ (Nat.le_of_ble_eq_true rfl) (s_X7_isDawn) (fun r w14 h14 => ?_)
    obtain ⟨rfl, h14⟩ := h14
    rcases h14 with ⟨rfl, h14⟩ | ⟨rfl, h14⟩
    · refine b_if_ne (tgt := 23) dX7_free_17 (by decide) (fun h17 => ?_) (fun h17 => absurd h17 (by decide))
      obtain ⟨D, hD, rfl⟩ := dawn_of h14
      refine b_aload_n dX7_free_23 rfl ?_
      refine b_getr dX7_free_24 gf_X7_39 rfl rfl ?_
      refine b_iconst (v := (-1)) dX7_free_27 (by decide) ?_
      refine b_aload_n dX7_free_28 rfl ?_
      refine b_getr dX7_free_29 gf_X7_14 rfl rfl ?_
      refine b_geti dX7_free_32 gf_X7_104 rfl rfl ?_
      refine b_iload_n dX7_free_35 rfl ?_
      refine b_iconst (v := 1) dX7_free_36 (by decide) ?_
      refine b_isub dX7_free_37 ?_
      refine b_callV3 dX7_free_38 lk_X7_131 rfl rfl rfl ⟨Nat.le_of_ble_eq_true rfl, Nat.le_of_ble_eq_true rfl⟩ (Nat.le_of_ble_eq_true rfl) (s_live hh (D := D) (by omega) (rfl)) (fun r w38 h38 => ?_)
      obtain ⟨rfl, hRD, hk⟩ := h38
      have hl := hRD.lv
      refine b_aload_n dX7_free_41 rfl ?_
      refine b_getr dX7_free_42 gf_X7_39 rfl rfl ?_
      refine b_iload_n dX7_free_45 rfl ?_
      refine b_callV1 dX7_free_46 lk_X7_146 rfl rfl rfl ⟨Nat.le_of_ble_eq_true rfl, Nat.le_of_ble_eq_true rfl⟩ (Nat.le_of_ble_eq_true rfl) (s_X4_freeAhead (w := w38) (d := nI D) hl.1.2.1 hn) (fun r w46 h46 => ?_)
      obtain ⟨rfl, fs, rfl, hfs⟩ := h46
      refine b_iload_n dX7_free_49 rfl ?_
      refine b_callS2 dX7_free_50 lk_X7_107 ⟨Nat.le_of_ble_eq_true rfl, Nat.le_of_ble_eq_true rfl⟩ (Nat.le_of_ble_eq_true rfl) (s_X7_in (k := pp) (by omega)) (fun r w50 h50 => ?_)
      obtain ⟨rfl, h50⟩ := h50
      rcases h50 with ⟨rfl, h50⟩ | ⟨rfl, h50⟩
      · refine b_if_eq (tgt := 60) dX7_free_53 (by decide) (fun h53 => absurd h53 (by decide)) (fun h53 => ?_)
        refine b_iconst (v := 1) dX7_free_56 (by decide) ?_
        refine b_goto (tgt := 61) dX7_free_57 (by decide) ?_
        refine b_iret dX7_free_61 rfl ⟨?_, ?_⟩
        · simp only [A_free, if_pos hq2, if_pos (dawn_in hD), dn_nI (show D < 2 ^ 31 by omega), dn_nI (show pp < 2 ^ 31 by omega), if_pos ((hl.free hfs (by omega)).mp h50).2] <;> rfl
        · exact hk
      · refine b_if_eq (tgt := 60) dX7_free_53 (by decide) (fun h53 => ?_) (fun h53 => absurd h53 (by decide))
        refine b_iconst (v := 0) dX7_free_60 (by decide) ?_
        refine b_iret dX7_free_61 rfl ⟨?_, ?_⟩
        · simp only [A_free, if_pos hq2, if_pos (dawn_in hD), dn_nI (show D < 2 ^ 31 by omega), dn_nI (show pp < 2 ^ 31 by omega), if_neg (fun z => h50 ((hl.free hfs (by omega)).mpr ⟨hp, z⟩))] <;> rfl
        · exact hk
    · refine b_if_ne (tgt := 23) dX7_free_17 (by decide) (fun h17 => absurd h17 (by decide)) (fun h17 => ?_)
      refine b_bipush (v := (-2)) dX7_free_20 (by decide) ?_
      refine b_iret dX7_free_22 rfl ⟨?_, ?_⟩
      · simp only [A_free, if_pos hq2, if_neg h14] <;> rfl
      · exact fun _ _ => rfl
  · refine b_if_ne (tgt := 13) dX7_free_8 (by decide) (fun h8 => absurd h8 (by decide)) (fun h8 => ?_)
    refine b_iconst (v := (-1)) dX7_free_11 (by decide) ?_
    refine b_iret dX7_free_12 rfl ⟨?_, ?_⟩
    · simp only [A_free, if_neg h5] <;> rfl
    · exact fun _ _ => rfl
set_option maxRecDepth 100000 in
set_option maxHeartbeats 1000000 in
theorem s_X7_second {w g : kW} {n c q : Nat} (hh : Rel n c q w g) {p o d : Int32} : Spec shC yX7_second cX7_second 4 (some .int) 5 129 [.ref 0, .int p, .int o, .int d] w (fun r w' => r = some (.int (A_second n c g p o d)) ∧ cK2 w w') := by
  obtain ⟨hM, hRP, hRI, hRA, hRR, hRS, hRN⟩ := id hh
  obtain ⟨hP, hI, hc8, hRd, hu, hS⟩ := id hM
  have hn := hP.le
  refine k_enter pn_X7 (Nat.le_of_ble_eq_true rfl) ?_
  refine b_aload_n dX7_second_0 rfl ?_
  refine b_getr dX7_second_1 gf_X7_14 rfl rfl ?_
  refine b_iload_n dX7_second_4 rfl ?_
  refine b_iload_n dX7_second_5 rfl ?_
  refine b_callV2 dX7_second_6 lk_X7_111 rfl rfl rfl ⟨Nat.le_of_ble_eq_true rfl, Nat.le_of_ble_eq_true rfl⟩ (Nat.le_of_ble_eq_true rfl) (s_hasTwo hh) (fun r w6 h6 => ?_)
  obtain ⟨rfl, h6⟩ := h6
  rcases h6 with ⟨rfl, h6⟩ | ⟨rfl, h6⟩
  · refine b_if_ne (tgt := 14) dX7_second_9 (by decide) (fun h9 => ?_) (fun h9 => absurd h9 (by decide))
    have hq2 := h6
    obtain ⟨hpp, hpo, hne⟩ := h6
    obtain ⟨pp, hp, rfl⟩ := pers_of hP hpp
    obtain ⟨oo, ho, rfl⟩ := pers_of hP hpo
    refine b_iload_n dX7_second_14 rfl ?_
    refine b_callS1 dX7_second_15 lk_X7_124 ⟨Nat.le_of_ble_eq_true rfl, Nat.le_of_ble_eq_true rfl⟩ (Nat.le_of_ble_eq_true rfl) (s_X7_isDawn) (fun r w15 h15 => ?_)
    obtain ⟨rfl, h15⟩ := h15
    rcases h15 with ⟨rfl, h15⟩ | ⟨rfl, h15⟩
    · refine b_if_ne (tgt := 24) dX7_second_18 (by decide) (fun h18 => ?_) (fun h18 => absurd h18 (by decide))
      obtain ⟨D, hD, rfl⟩ := dawn_of h15
      refine b_aload_n dX7_second_24 rfl ?_
      refine b_getr dX7_second_25 gf_X7_39 rfl rfl ?_
      refine b_iconst (v := (-1)) dX7_second_28 (by decide) ?_
      refine b_aload_n dX7_second_29 rfl ?_
      refine b_getr dX7_second_30 gf_X7_14 rfl rfl ?_
      refine b_geti dX7_second_33 gf_X7_104 rfl rfl ?_
      refine b_iload_n dX7_second_36 rfl ?_
      refine b_iconst (v := 1) dX7_second_37 (by decide) ?_
      refine b_isub dX7_second_38 ?_
      refine b_callV3 dX7_second_39 lk_X7_131 rfl rfl rfl ⟨Nat.le_of_ble_eq_true rfl, Nat.le_of_ble_eq_true rfl⟩ (Nat.le_of_ble_eq_true rfl) (s_live hh (D := D) (by omega) (rfl)) (fun r w39 h39 => ?_)
      obtain ⟨rfl, hRD, hk⟩ := h39
      have hl := hRD.lv
      refine b_aload_n dX7_second_42 rfl ?_
      refine b_getr dX7_second_43 gf_X7_14 rfl rfl ?_
      refine b_iload_n dX7_second_46 rfl ?_
      refine b_aload_n dX7_second_47 rfl ?_
      refine b_getr dX7_second_48 gf_X7_39 rfl rfl ?_
      refine b_iload_n dX7_second_51 rfl ?_
      refine b_callV1 dX7_second_52 lk_X7_146 rfl rfl rfl ⟨Nat.le_of_ble_eq_true rfl, Nat.le_of_ble_eq_true rfl⟩ (Nat.le_of_ble_eq_true rfl) (s_X4_freeAhead (w := w39) (d := nI D) hl.1.2.1 hn) (fun r w52 h52 => ?_)
      obtain ⟨rfl, fs, rfl, hfs⟩ := h52
      refine b_iload_n dX7_second_55 rfl ?_
      refine b_callS1 dX7_second_56 lk_X7_121 ⟨Nat.le_of_ble_eq_true rfl, Nat.le_of_ble_eq_true rfl⟩ (Nat.le_of_ble_eq_true rfl) (s_X7_bit) (fun r w56 h56 => ?_)
      obtain ⟨rfl, rfl⟩ := h56
      refine b_iload_n dX7_second_59 rfl ?_
      refine b_callS1 dX7_second_60 lk_X7_121 ⟨Nat.le_of_ble_eq_true rfl, Nat.le_of_ble_eq_true rfl⟩ (Nat.le_of_ble_eq_true rfl) (s_X7_bit) (fun r w60 h60 => ?_)
      obtain ⟨rfl, rfl⟩ := h60
      refine b_ior dX7_second_63 ?_
      refine b_iconst (v := (-1)) dX7_second_64 (by decide) ?_
      refine b_ixor dX7_second_65 ?_
      refine b_iand dX7_second_66 ?_
      refine b_callV2 dX7_second_67 lk_X7_149 rfl rfl rfl ⟨Nat.le_of_ble_eq_true rfl, Nat.le_of_ble_eq_true rfl⟩ (Nat.le_of_ble_eq_true rfl) (s_X2_secondAmong hl.1 hp) (fun r w67 h67 => ?_)
      obtain ⟨rfl, rfl⟩ := h67
      refine b_topi (y := oI (mSec (mGo n c g D) pp (nI oo) (-9) (nI D))) (by rw [Int32.or_comm]; exact congrArg oI (sec1_eq (w := kset w39 15 10 fs) hl.1.1 ho hp (fun p hp6 => hl.free hfs hp6))) ?_
      refine b_iret dX7_second_70 rfl ⟨?_, ?_⟩
      · simp only [A_second, if_pos hq2, if_pos (dawn_in hD), dn_nI (show D < 2 ^ 31 by omega), dn_nI (show pp < 2 ^ 31 by omega)] <;> rfl
      · exact hk
    · refine b_if_ne (tgt := 24) dX7_second_18 (by decide) (fun h18 => absurd h18 (by decide)) (fun h18 => ?_)
      refine b_bipush (v := (-2)) dX7_second_21 (by decide) ?_
      refine b_iret dX7_second_23 rfl ⟨?_, ?_⟩
      · simp only [A_second, if_pos hq2, if_neg h15] <;> rfl
      · exact fun _ _ => rfl
  · refine b_if_ne (tgt := 14) dX7_second_9 (by decide) (fun h9 => absurd h9 (by decide)) (fun h9 => ?_)
    refine b_iconst (v := (-1)) dX7_second_12 (by decide) ?_
    refine b_iret dX7_second_13 rfl ⟨?_, ?_⟩
    · simp only [A_second, if_neg h6] <;> rfl
    · exact fun _ _ => rfl
