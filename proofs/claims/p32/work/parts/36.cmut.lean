theorem Rel.flip {n c q p : Nat} {w g : kW} {b : Int32} (h : Rel n c q w g) (hp : p < n) (hb : b = 0 ∨ b = 1) (hne : ¬ g.1 7 p = b) : Rel n c q (kset w 1 1 (w.1 1 1 ^^^ 1 <<< (nI p &&& 31))) (kset g 7 p b) := by
  have hn := h.1.1.le
  refine h.arr hb (fun k hk => ?_)
  have h7 := h.2.2.2.1 k hk
  rw [b_xor, bit_one (by omega) (by omega)]
  by_cases e : k = p
  · subst e
    rw [if_pos rfl, decide_eq_true rfl, Bool.xor_true]
    have h01 := h.1.1.2.2.2.2.1 k hk
    rcases hb with rfl | rfl <;> rcases h01 with z | z
    · exact absurd z hne
    · have : bt (w.1 1 1) k = true := by
        cases hbt : bt (w.1 1 1) k
        · rw [h7.mp hbt] at z; exact absurd z (by decide)
        · rfl
      simp [this]
    · rw [h7.mpr z]; simp
    · exact absurd z hne
  · rw [if_neg e, decide_eq_false e, Bool.xor_false]
    exact h7
set_option maxRecDepth 100000 in
set_option maxHeartbeats 1000000 in
theorem s_X7_arrest {w g : kW} {n c q : Nat} (hh : Rel n c q w g) {p b : Int32} (hb : b = 0 ∨ b = 1) : Spec shC yX7_arrest cX7_arrest 3 (some .int) 1 21 [.ref 0, .int p, .int b] w (fun r w' => RQ (R_arrest g p b) r w') := by
  obtain ⟨hM, hRP, hRI, hRA, hRR, hRS, hRN⟩ := id hh
  obtain ⟨hP, hI, hc8, hRd, hu, hS⟩ := id hM
  have hn := hP.le
  refine k_enter pn_X7 (Nat.le_of_ble_eq_true rfl) ?_
  refine b_aload_n dX7_arrest_0 rfl ?_
  refine b_getr dX7_arrest_1 gf_X7_14 rfl rfl ?_
  refine b_iload_n dX7_arrest_4 rfl ?_
  refine b_callV1 dX7_arrest_5 lk_X7_85 rfl rfl rfl ⟨Nat.le_of_ble_eq_true rfl, Nat.le_of_ble_eq_true rfl⟩ (Nat.le_of_ble_eq_true rfl) (s_has hh) (fun r w5 h5 => ?_)
  obtain ⟨rfl, h5⟩ := h5
  rcases h5 with ⟨rfl, h5⟩ | ⟨rfl, h5⟩
  · refine b_if_ne (tgt := 13) dX7_arrest_8 (by decide) (fun h8 => ?_) (fun h8 => absurd h8 (by decide))
    have hq2 : isPr g p := h5
    obtain ⟨pp, hp, rfl⟩ := pers_of hP hq2
    refine b_aload_n dX7_arrest_13 rfl ?_
    refine b_getr dX7_arrest_14 gf_X7_14 rfl rfl ?_
    refine b_geti dX7_arrest_17 gf_X7_104 rfl rfl ?_
    refine b_iload_n dX7_arrest_20 rfl ?_
    refine b_callS2 dX7_arrest_21 lk_X7_107 ⟨Nat.le_of_ble_eq_true rfl, Nat.le_of_ble_eq_true rfl⟩ (Nat.le_of_ble_eq_true rfl) (s_X7_in (k := pp) (by omega)) (fun r w21 h21 => ?_)
    obtain ⟨rfl, h21⟩ := h21
    rcases h21 with ⟨rfl, h21⟩ | ⟨rfl, h21⟩
    · have g7 : g.1 7 pp = 1 := (hP.2.2.2.2.1 pp hp).resolve_left (fun z => absurd (((hRA pp hp).mpr z).symm.trans h21) (by decide))
      refine b_iload_n dX7_arrest_24 rfl ?_
      refine b_icmp_ne (tgt := 30) dX7_arrest_25 (by decide) (fun h25 => ?_) (fun h25 => ?_)
      · refine b_aload_n dX7_arrest_30 rfl ?_
        refine b_getr dX7_arrest_31 gf_X7_14 rfl rfl ?_
        refine b_dup dX7_arrest_34 rfl ?_
        refine b_geti dX7_arrest_35 gf_X7_104 rfl rfl ?_
        refine b_iload_n dX7_arrest_38 rfl ?_
        refine b_callS1 dX7_arrest_39 lk_X7_121 ⟨Nat.le_of_ble_eq_true rfl, Nat.le_of_ble_eq_true rfl⟩ (Nat.le_of_ble_eq_true rfl) (s_X7_bit) (fun r w39 h39 => ?_)
        obtain ⟨rfl, rfl⟩ := h39
        refine b_ixor dX7_arrest_42 ?_
        refine b_puti dX7_arrest_43 gf_X7_104 gs_X2_1 rfl rfl ?_
        refine b_iconst (v := 1) dX7_arrest_46 (by decide) ?_
        refine b_iret dX7_arrest_47 rfl ⟨?_, n, c, q, ?_⟩
        · simp only [R_arrest, if_pos hq2, dn_nI (show pp < 2 ^ 31 by omega), if_neg (fun z => h25 (g7.symm.trans z))] <;> rfl
        · simp only [R_arrest, if_pos hq2, dn_nI (show pp < 2 ^ 31 by omega), if_neg (fun z => h25 (g7.symm.trans z))] <;> exact hh.flip hp hb (fun z => h25 (g7.symm.trans z))
      · refine b_iconst (v := 0) dX7_arrest_28 (by decide) ?_
        refine b_iret dX7_arrest_29 rfl ⟨?_, n, c, q, ?_⟩
        · simp only [R_arrest, if_pos hq2, dn_nI (show pp < 2 ^ 31 by omega), if_pos (g7.trans h25)] <;> rfl
        · simp only [R_arrest, if_pos hq2, dn_nI (show pp < 2 ^ 31 by omega), if_pos (g7.trans h25)] <;> (rw [kset_self (g7.trans h25)]; exact hh)
    · have g7 : g.1 7 pp = 0 := (hRA pp hp).mp (b_f h21)
      refine b_iload_n dX7_arrest_24 rfl ?_
      refine b_icmp_ne (tgt := 30) dX7_arrest_25 (by decide) (fun h25 => ?_) (fun h25 => ?_)
      · refine b_aload_n dX7_arrest_30 rfl ?_
        refine b_getr dX7_arrest_31 gf_X7_14 rfl rfl ?_
        refine b_dup dX7_arrest_34 rfl ?_
        refine b_geti dX7_arrest_35 gf_X7_104 rfl rfl ?_
        refine b_iload_n dX7_arrest_38 rfl ?_
        refine b_callS1 dX7_arrest_39 lk_X7_121 ⟨Nat.le_of_ble_eq_true rfl, Nat.le_of_ble_eq_true rfl⟩ (Nat.le_of_ble_eq_true rfl) (s_X7_bit) (fun r w39 h39 => ?_)
        obtain ⟨rfl, rfl⟩ := h39
        refine b_ixor dX7_arrest_42 ?_
        refine b_puti dX7_arrest_43 gf_X7_104 gs_X2_1 rfl rfl ?_
        refine b_iconst (v := 1) dX7_arrest_46 (by decide) ?_
        refine b_iret dX7_arrest_47 rfl ⟨?_, n, c, q, ?_⟩
        · simp only [R_arrest, if_pos hq2, dn_nI (show pp < 2 ^ 31 by omega), if_neg (fun z => h25 (g7.symm.trans z))] <;> rfl
        · simp only [R_arrest, if_pos hq2, dn_nI (show pp < 2 ^ 31 by omega), if_neg (fun z => h25 (g7.symm.trans z))] <;> exact hh.flip hp hb (fun z => h25 (g7.symm.trans z))
      · refine b_iconst (v := 0) dX7_arrest_28 (by decide) ?_
        refine b_iret dX7_arrest_29 rfl ⟨?_, n, c, q, ?_⟩
        · simp only [R_arrest, if_pos hq2, dn_nI (show pp < 2 ^ 31 by omega), if_pos (g7.trans h25)] <;> rfl
        · simp only [R_arrest, if_pos hq2, dn_nI (show pp < 2 ^ 31 by omega), if_pos (g7.trans h25)] <;> (rw [kset_self (g7.trans h25)]; exact hh)
  · refine b_if_ne (tgt := 13) dX7_arrest_8 (by decide) (fun h8 => absurd h8 (by decide)) (fun h8 => ?_)
    refine b_iconst (v := (-1)) dX7_arrest_11 (by decide) ?_
    refine b_iret dX7_arrest_12 rfl ⟨?_, n, c, q, ?_⟩
    · simp only [R_arrest, if_neg h5] <;> rfl
    · simp only [R_arrest, if_neg h5] <;> exact hh
