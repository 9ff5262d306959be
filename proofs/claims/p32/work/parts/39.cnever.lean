theorem s_liveU {n c q D : Nat} {w g : kW} {last ins x : Int32} (h : Rel n c q w g) (hD : D ≤ 60) (hl : last = nI D - 1) (hi : ∀ k, k < c → (bt ins k = true ↔ bt x k = false)) : Spec shC yX4_live cX4_live 5 none 4 105 [.ref 15, .int ins, .int (w.1 1 1), .int last] w (fun r w' => r = none ∧ RD n c D w' (mAhead n c (kset g 0 20 x) D) ∧ cK2 w w') :=
  s_X4_live (g := kset g 0 20 x) h.2.1 h.1.2.1.un h.2.2.1 hD hl hi h.2.2.2.1
theorem u_not {k : Nat} (hk : k < 32) {c : Nat} (hc : c ≤ 32) : ∀ j, j < c → (bt ((1 <<< (nI k &&& 31)) ^^^ -1) j = true ↔ bt (1 <<< (nI k &&& 31)) j = false) := fun j hj => by
  rw [bt_m1x _ (by omega)]; simp
set_option maxRecDepth 100000 in
set_option maxHeartbeats 1000000 in
theorem s_X7_worth {w g : kW} {n c q : Nat} (hh : Rel n c q w g) {k : Int32} : Spec shC yX7_worth cX7_worth 3 (some .int) 5 129 [.ref 0, .int k] w (fun r w' => r = some (.int (A_worth n c g k)) ∧ cK2 w w') := by
  obtain ⟨hM, hRP, hRI, hRA, hRR, hRS, hRN⟩ := id hh
  obtain ⟨hP, hI, hc8, hRd, hu, hS⟩ := id hM
  have hn := hP.le
  refine k_enter pn_X7 (Nat.le_of_ble_eq_true rfl) ?_
  refine b_iload_n dX7_worth_0 rfl ?_
  refine b_if_lt (tgt := 15) dX7_worth_1 (by decide) (fun h1 => ?_) (fun h1 => ?_)
  · refine b_iconst (v := (-1)) dX7_worth_15 (by decide) ?_
    refine b_iret dX7_worth_16 rfl ⟨?_, ?_⟩
    · simp only [A_worth, if_neg (show ¬ (¬ k < 0 ∧ k < g.1 0 15) from fun z => z.1 h1)] <;> rfl
    · exact fun _ _ => rfl
  · refine b_iload_n dX7_worth_4 rfl ?_
    refine b_aload_n dX7_worth_5 rfl ?_
    refine b_getr dX7_worth_6 gf_X7_23 rfl rfl ?_
    refine b_geti dX7_worth_9 gf_X7_80 rfl rfl ?_
    refine b_topi (y := g.1 0 15) hh.hc ?_
    refine b_icmp_lt (tgt := 17) dX7_worth_12 (by decide) (fun h12 => ?_) (fun h12 => ?_)
    · have hz : ¬ k < 0 ∧ k < g.1 0 15 := ⟨h1, h12⟩
      obtain ⟨kk, hkk, rfl⟩ := nI_between h1 (hI.1 ▸ h12) (by omega)
      refine b_aload_n dX7_worth_17 rfl ?_
      refine b_getr dX7_worth_18 gf_X7_39 rfl rfl ?_
      refine b_iconst (v := (-1)) dX7_worth_21 (by decide) ?_
      refine b_aload_n dX7_worth_22 rfl ?_
      refine b_getr dX7_worth_23 gf_X7_14 rfl rfl ?_
      refine b_geti dX7_worth_26 gf_X7_104 rfl rfl ?_
      refine b_bipush (v := 59) dX7_worth_29 (by decide) ?_
      refine b_callV3 dX7_worth_31 lk_X7_131 rfl rfl rfl ⟨Nat.le_of_ble_eq_true rfl, Nat.le_of_ble_eq_true rfl⟩ (Nat.le_of_ble_eq_true rfl) (s_live hh (D := 60) (by omega) (by decide)) (fun r w31 h31 => ?_)
      obtain ⟨rfl, hRD, hk⟩ := h31
      have hl := hRD.lv
      refine b_aload_n dX7_worth_34 rfl ?_
      refine b_getr dX7_worth_35 gf_X7_39 rfl rfl ?_
      refine b_getr dX7_worth_38 gf_X7_135 rfl rfl ?_
      refine b_geti dX7_worth_41 gf_X7_139 rfl rfl ?_
      refine b_topi (y := (mGo n c g 60).1 0 28) hl.m ?_
      refine b_istore_n dX7_worth_44 (by decide) ?_
      refine b_aload_n dX7_worth_45 rfl ?_
      refine b_getr dX7_worth_46 gf_X7_39 rfl rfl ?_
      refine b_iload_n dX7_worth_49 rfl ?_
      refine b_callS1 dX7_worth_50 lk_X7_121 ⟨Nat.le_of_ble_eq_true rfl, Nat.le_of_ble_eq_true rfl⟩ (Nat.le_of_ble_eq_true rfl) (s_X7_bit) (fun r w50 h50 => ?_)
      obtain ⟨rfl, rfl⟩ := h50
      refine b_iconst (v := (-1)) dX7_worth_53 (by decide) ?_
      refine b_ixor dX7_worth_54 ?_
      refine b_aload_n dX7_worth_55 rfl ?_
      refine b_getr dX7_worth_56 gf_X7_14 rfl rfl ?_
      refine b_geti dX7_worth_59 gf_X7_104 rfl rfl ?_
      refine b_bipush (v := 59) dX7_worth_62 (by decide) ?_
      refine b_callV3 dX7_worth_64 lk_X7_131 rfl rfl rfl ⟨Nat.le_of_ble_eq_true rfl, Nat.le_of_ble_eq_true rfl⟩ (Nat.le_of_ble_eq_true rfl) (s_liveU (g := g) (D := 60) (x := 1 <<< (nI kk &&& 31)) (hh.k2 hk) (by omega) (by decide) (u_not (by omega) (by omega))) (fun r w64 h64 => ?_)
      obtain ⟨rfl, hRD2, hk2⟩ := h64
      have hl2 := hRD2.lv
      refine b_iload_n dX7_worth_67 rfl ?_
      refine b_aload_n dX7_worth_68 rfl ?_
      refine b_getr dX7_worth_69 gf_X7_39 rfl rfl ?_
      refine b_getr dX7_worth_72 gf_X7_135 rfl rfl ?_
      refine b_geti dX7_worth_75 gf_X7_139 rfl rfl ?_
      refine b_topi (y := (mGo n c (kset g 0 20 (1 <<< (nI kk &&& 31))) 60).1 0 28) hl2.m ?_
      refine b_isub dX7_worth_78 ?_
      refine b_sipush (v := 1000) dX7_worth_79 (by decide) ?_
      refine b_iadd dX7_worth_82 ?_
      refine b_iret dX7_worth_83 rfl ⟨?_, ?_⟩
      · simp only [A_worth, if_pos hz] <;> rfl
      · exact hk.tr hk2
    · refine b_iconst (v := (-1)) dX7_worth_15 (by decide) ?_
      refine b_iret dX7_worth_16 rfl ⟨?_, ?_⟩
      · simp only [A_worth, if_neg (show ¬ (¬ k < 0 ∧ k < g.1 0 15) from fun z => h12 z.2)] <;> rfl
      · exact fun _ _ => rfl
set_option maxRecDepth 100000 in
set_option maxHeartbeats 1000000 in
theorem s_X7_many {w g : kW} {n c q : Nat} (hh : Rel n c q w g) {what : Int32} : Spec shC yX7_many cX7_many 2 (some .int) 5 129 [.ref 0, .int what] w (fun r w' => r = some (.int (A_many n c g what)) ∧ cK2 w w') := by
  obtain ⟨hM, hRP, hRI, hRA, hRR, hRS, hRN⟩ := id hh
  obtain ⟨hP, hI, hc8, hRd, hu, hS⟩ := id hM
  have hn := hP.le
  have many3 : (if g.1 0 5 = 0 then 0 else (mGo n c g 60).1 0 28) = (mGo n c g 60).1 0 28 := by
    by_cases h : g.1 0 5 = 0
    · rw [if_pos h]; exact (mGo_n0 hP hI (Nat.le_refl 60) h).symm
    · rw [if_neg h]
  refine k_enter pn_X7 (Nat.le_of_ble_eq_true rfl) ?_
  refine b_iload_n dX7_many_0 rfl ?_
  by_cases hw : (0 : Int32) ≤ what ∧ what ≤ 3
  obtain ⟨x, hx, rfl⟩ := nI_of2 (n := 3) (M := 3) (by decide) (Int32.not_lt.mpr hw.1) hw.2
  rcases (show x = 0 ∨ x = 1 ∨ x = 2 ∨ x = 3 by omega) with rfl | rfl | rfl | rfl
  · refine b_tsIn (off := 31) (tgt := 32) dX7_many_1 (by decide) (by decide) (by decide) (by decide) ?_
    refine b_aload_n dX7_many_32 rfl ?_
    refine b_getr dX7_many_33 gf_X7_14 rfl rfl ?_
    refine b_geti dX7_many_36 gf_X7_84 rfl rfl ?_
    refine b_topi (y := g.1 0 5) hh.hp ?_
    refine b_iret dX7_many_39 rfl ⟨?_, ?_⟩
    · simp only [A_many, if_neg (show ¬ nI 0 = 3 by decide), if_pos (show nI 0 = 0 by decide)] <;> rfl
    · exact fun _ _ => rfl
  · refine b_tsIn (off := 39) (tgt := 40) dX7_many_1 (by decide) (by decide) (by decide) (by decide) ?_
    refine b_aload_n dX7_many_40 rfl ?_
    refine b_getr dX7_many_41 gf_X7_23 rfl rfl ?_
    refine b_geti dX7_many_44 gf_X7_80 rfl rfl ?_
    refine b_topi (y := g.1 0 15) hh.hc ?_
    refine b_iret dX7_many_47 rfl ⟨?_, ?_⟩
    · simp only [A_many, if_neg (show ¬ nI 1 = 3 by decide), if_neg (show ¬ nI 1 = 0 by decide), if_pos (show nI 1 = 1 by decide)] <;> rfl
    · exact fun _ _ => rfl
  · refine b_tsIn (off := 47) (tgt := 48) dX7_many_1 (by decide) (by decide) (by decide) (by decide) ?_
    refine b_aload_n dX7_many_48 rfl ?_
    refine b_getr dX7_many_49 gf_X7_30 rfl rfl ?_
    refine b_geti dX7_many_52 gf_X7_83 rfl rfl ?_
    refine b_topi (y := g.1 0 35) hh.hq ?_
    refine b_iret dX7_many_55 rfl ⟨?_, ?_⟩
    · simp only [A_many, if_neg (show ¬ nI 2 = 3 by decide), if_neg (show ¬ nI 2 = 0 by decide), if_neg (show ¬ nI 2 = 1 by decide), if_pos (show nI 2 = 2 by decide)] <;> rfl
    · exact fun _ _ => rfl
  · refine b_tsIn (off := 55) (tgt := 56) dX7_many_1 (by decide) (by decide) (by decide) (by decide) ?_
    refine b_aload_n dX7_many_56 rfl ?_
    refine b_getr dX7_many_57 gf_X7_39 rfl rfl ?_
    refine b_iconst (v := (-1)) dX7_many_60 (by decide) ?_
    refine b_aload_n dX7_many_61 rfl ?_
    refine b_getr dX7_many_62 gf_X7_14 rfl rfl ?_
    refine b_geti dX7_many_65 gf_X7_104 rfl rfl ?_
    refine b_bipush (v := 59) dX7_many_68 (by decide) ?_
    refine b_callV3 dX7_many_70 lk_X7_131 rfl rfl rfl ⟨Nat.le_of_ble_eq_true rfl, Nat.le_of_ble_eq_true rfl⟩ (Nat.le_of_ble_eq_true rfl) (s_live hh (D := 60) (by omega) (by decide)) (fun r w70 h70 => ?_)
    obtain ⟨rfl, hRD, hk⟩ := h70
    have hl := hRD.lv
    refine b_aload_n dX7_many_73 rfl ?_
    refine b_getr dX7_many_74 gf_X7_39 rfl rfl ?_
    refine b_getr dX7_many_77 gf_X7_135 rfl rfl ?_
    refine b_geti dX7_many_80 gf_X7_139 rfl rfl ?_
    refine b_topi (y := (mGo n c g 60).1 0 28) hl.m ?_
    refine b_iret dX7_many_83 rfl ⟨?_, ?_⟩
    · simp only [A_many, if_pos (show nI 3 = 3 by decide), many3] <;> rfl
    · exact hk
  · refine b_tsOut (tgt := 84) dX7_many_1 (ts_out 3 (by decide) hw) (by decide) ?_
    refine b_bipush (v := (-2)) dX7_many_84 (by decide) ?_
    refine b_iret dX7_many_86 rfl ⟨?_, ?_⟩
    · simp only [A_many, if_neg (show ¬ what = 3 from fun z => hw (by rw [z]; decide)), if_neg (show ¬ what = 0 from fun z => hw (by rw [z]; decide)), if_neg (show ¬ what = 1 from fun z => hw (by rw [z]; decide)), if_neg (show ¬ what = 2 from fun z => hw (by rw [z]; decide))] <;> rfl
    · exact fun _ _ => rfl
