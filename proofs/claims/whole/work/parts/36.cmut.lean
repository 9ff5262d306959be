theorem Rel.flip {n c q p : Nat} {w g : kW} {b : Int32} (h : Rel n c q w g) (hp : p < n) (hb : b = 0 ∨ b = 1) (hne : ¬ g.1 7 p = b) : Rel n c q (kset w 1 1 (w.1 1 1 ^^^ 1 <<< (nI p &&& 31))) (kset g 7 p b) := by
  have hn := h.1.1.le
  refine h.arr hb (fun k hk => ?_)
  have h7 := h.2.2.2.1 k hk
  rw [b_xor, bit_one (by omega) (by omega)]
  by_cases e : k = p
  · subst e
    rw [if_pos rfl, decide_eq_true rfl, Bool.xor_true]
    have h01 := h.1.1.2.2.2.2.1 k hk
    rcases hb with rfl | rfl <;> rcases h01 with z | z
    · exact absurd z hne
    · have : bt (w.1 1 1) k = true := by
        cases hbt : bt (w.1 1 1) k
        · rw [h7.mp hbt] at z; exact absurd z (by decide)
        · rfl
      simp [this]
    · rw [h7.mpr z]; simp
    · exact absurd z hne
  · rw [if_neg e, decide_eq_false e, Bool.xor_false]
    exact h7

set_option maxRecDepth 100000 in
set_option maxHeartbeats 1000000 in
theorem s_X7_arrest {w g : kW} {n c q : Nat} (hh : Rel n c q w g) {p b : Int32} (hb : b = 0 ∨ b = 1) : Spec shC yX7_arrest cX7_arrest 3 (some .int) 1 21 [.ref 0, .int p, .int b] w (fun r w' => RQ (R_arrest g p b) r w') := by
  obtain ⟨hM, hRP, hRI, hRA, hRR, hRS, hRN⟩ := id hh
  obtain ⟨hP, hI, hc8, hRd, hu, hS⟩ := id hM
  have hn := hP.le
  refine k_enter pn_X7 (Nat.le_of_ble_eq_true rfl) ?_
  refine b_aload_n dX7_arrest_0 rfl ?_
  refine b_getr dX7_arrest_1 gf_X7_14 rfl rfl ?_
  refine b_iload_n dX7_arrest_4 rfl ?_
  refine b_callV1 dX7_arrest_5 lk_X7_85 rfl rfl rfl ⟨Nat.le_of_ble_eq_true rfl, Nat.le_of_ble_eq_true rfl⟩ (Nat.le_of_ble_eq_true rfl) (s_has hh) (fun r w5 h5 => ?_)
  obtain ⟨rfl, h5⟩ := h5
  rcases h5 with ⟨rfl, h5⟩ | ⟨rfl, h5⟩
  · refine b_if_ne (tgt := 13) dX7_arrest_8 (by decide) (fun h8 => ?_) (fun h8 => absurd h8 (by decide))
    have hq2 : isPr g p := h5
    obtain ⟨pp, hp, rfl⟩ := pers_of hP hq2
    refine b_aload_n dX7_arrest_13 rfl ?_
    refine b_getr dX7_arrest_14 gf_X7_14 rfl rfl ?_
    refine b_geti dX7_arrest_17 gf_X7_104 rfl rfl ?_
    refine b_iload_n dX7_arrest_20 rfl ?_
    refine b_callS2 dX7_arrest_21 lk_X7_107 ⟨Nat.le_of_ble_eq_true rfl, Nat.le_of_ble_eq_true rfl⟩ (Nat.le_of_ble_eq_true rfl) (s_X7_in (k := pp) (by omega)) (fun r w21 h21 => ?_)
    obtain ⟨rfl, h21⟩ := h21
    rcases h21 with ⟨rfl, h21⟩ | ⟨rfl, h21⟩
    · have g7 : g.1 7 pp = 1 := (hP.2.2.2.2.1 pp hp).resolve_left (fun z => absurd (((hRA pp hp).mpr z).symm.trans h21) (by decide))
      refine b_iload_n dX7_arrest_24 rfl ?_
      refine b_icmp_ne (tgt := 30) dX7_arrest_25 (by decide) (fun h25 => ?_) (fun h25 => ?_)
      · refine b_aload_n dX7_arrest_30 rfl ?_
        refine b_getr dX7_arrest_31 gf_X7_14 rfl rfl ?_
        refine b_dup dX7_arrest_34 rfl ?_
        refine b_geti dX7_arrest_35 gf_X7_104 rfl rfl ?_
        refine b_iload_n dX7_arrest_38 rfl ?_
        refine b_callS1 dX7_arrest_39 lk_X7_121 ⟨Nat.le_of_ble_eq_true rfl, Nat.le_of_ble_eq_true rfl⟩ (Nat.le_of_ble_eq_true rfl) (s_X7_bit) (fun r w39 h39 => ?_)
        obtain ⟨rfl, rfl⟩ := h39
        refine b_ixor dX7_arrest_42 ?_
        refine b_puti dX7_arrest_43 gf_X7_104 gs_X2_1 rfl rfl ?_
        refine b_iconst (v := 1) dX7_arrest_46 (by decide) ?_
        refine b_iret dX7_arrest_47 rfl ⟨?_, n, c, q, ?_⟩
        · simp only [R_arrest, if_pos hq2, dn_nI (show pp < 2 ^ 31 by omega), if_neg (fun z => h25 (g7.symm.trans z))] <;> rfl
        · simp only [R_arrest, if_pos hq2, dn_nI (show pp < 2 ^ 31 by omega), if_neg (fun z => h25 (g7.symm.trans z))] <;> exact hh.flip hp hb (fun z => h25 (g7.symm.trans z))
      · refine b_iconst (v := 0) dX7_arrest_28 (by decide) ?_
        refine b_iret dX7_arrest_29 rfl ⟨?_, n, c, q, ?_⟩
        · simp only [R_arrest, if_pos hq2, dn_nI (show pp < 2 ^ 31 by omega), if_pos (g7.trans h25)] <;> rfl
        · simp only [R_arrest, if_pos hq2, dn_nI (show pp < 2 ^ 31 by omega), if_pos (g7.trans h25)] <;> (rw [kset_self (g7.trans h25)]; exact hh)
    · have g7 : g.1 7 pp = 0 := (hRA pp hp).mp (b_f h21)
      refine b_iload_n dX7_arrest_24 rfl ?_
      refine b_icmp_ne (tgt := 30) dX7_arrest_25 (by decide) (fun h25 => ?_) (fun h25 => ?_)
      · refine b_aload_n dX7_arrest_30 rfl ?_
        refine b_getr dX7_arrest_31 gf_X7_14 rfl rfl ?_
        refine b_dup dX7_arrest_34 rfl ?_
        refine b_geti dX7_arrest_35 gf_X7_104 rfl rfl ?_
        refine b_iload_n dX7_arrest_38 rfl ?_
        refine b_callS1 dX7_arrest_39 lk_X7_121 ⟨Nat.le_of_ble_eq_true rfl, Nat.le_of_ble_eq_true rfl⟩ (Nat.le_of_ble_eq_true rfl) (s_X7_bit) (fun r w39 h39 => ?_)
        obtain ⟨rfl, rfl⟩ := h39
        refine b_ixor dX7_arrest_42 ?_
        refine b_puti dX7_arrest_43 gf_X7_104 gs_X2_1 rfl rfl ?_
        refine b_iconst (v := 1) dX7_arrest_46 (by decide) ?_
        refine b_iret dX7_arrest_47 rfl ⟨?_, n, c, q, ?_⟩
        · simp only [R_arrest, if_pos hq2, dn_nI (show pp < 2 ^ 31 by omega), if_neg (fun z => h25 (g7.symm.trans z))] <;> rfl
        · simp only [R_arrest, if_pos hq2, dn_nI (show pp < 2 ^ 31 by omega), if_neg (fun z => h25 (g7.symm.trans z))] <;> exact hh.flip hp hb (fun z => h25 (g7.symm.trans z))
      · refine b_iconst (v := 0) dX7_arrest_28 (by decide) ?_
        refine b_iret dX7_arrest_29 rfl ⟨?_, n, c, q, ?_⟩
        · simp only [R_arrest, if_pos hq2, dn_nI (show pp < 2 ^ 31 by omega), if_pos (g7.trans h25)] <;> rfl
        · simp only [R_arrest, if_pos hq2, dn_nI (show pp < 2 ^ 31 by omega), if_pos (g7.trans h25)] <;> (rw [kset_self (g7.trans h25)]; exact hh)
  · refine b_if_ne (tgt := 13) dX7_arrest_8 (by decide) (fun h8 => absurd h8 (by decide)) (fun h8 => ?_)
    refine b_iconst (v := (-1)) dX7_arrest_11 (by decide) ?_
    refine b_iret dX7_arrest_12 rfl ⟨?_, n, c, q, ?_⟩
    · simp only [R_arrest, if_neg h5] <;> rfl
    · simp only [R_arrest, if_neg h5] <;> exact hh

set_option maxRecDepth 100000 in
set_option maxHeartbeats 1000000 in
theorem s_X3_add {w : kW} {m : Nat} {p d b : Int32} (hm : w.1 11 0 = nI m) (hm2 : m < 8) (hb : b = 0 ∨ b = 1) : Spec shC yX3_add cX3_add 4 none 0 0 [.ref 11, .int p, .int d, .int b] w (fun r w' => r = none ∧ kset (kset (kset (kset w 12 m p) 13 m d) 14 m b) 11 0 (nI m + 1) = w') := by
  refine k_enter pn_X3 (Nat.le_of_ble_eq_true rfl) ?_
  refine b_aload_n dX3_add_0 rfl ?_
  refine b_geti dX3_add_1 gf_X3_22 rfl rfl ?_
  refine b_topi (y := nI m) hm ?_
  refine b_bipush (v := 8) dX3_add_4 (by decide) ?_
  refine b_icmp_ge (tgt := 49) dX3_add_6 (by decide) (fun h6 => ?_) (fun h6 => ?_)
  · exact absurd h6 (nI_ge (a := m) (b := 8) hm2 (by decide))
  · refine b_aload_n dX3_add_9 rfl ?_
    refine b_getr dX3_add_10 gf_X3_9 rfl rfl ?_
    refine b_aload_n dX3_add_13 rfl ?_
    refine b_geti dX3_add_14 gf_X3_22 rfl rfl ?_
    refine b_topi (y := nI m) hm ?_
    refine b_iload_n dX3_add_17 rfl ?_
    refine b_iastN dX3_add_18 rfl ⟨by omega, by decide⟩ ?_
    refine b_aload_n dX3_add_19 rfl ?_
    refine b_getr dX3_add_20 gf_X3_15 rfl rfl ?_
    refine b_aload_n dX3_add_23 rfl ?_
    refine b_geti dX3_add_24 gf_X3_22 rfl rfl ?_
    refine b_topi (y := nI m) hm ?_
    refine b_iload_n dX3_add_27 rfl ?_
    refine b_iastN dX3_add_28 rfl ⟨by omega, by decide⟩ ?_
    refine b_aload_n dX3_add_29 rfl ?_
    refine b_getr dX3_add_30 gf_X3_18 rfl rfl ?_
    refine b_aload_n dX3_add_33 rfl ?_
    refine b_geti dX3_add_34 gf_X3_22 rfl rfl ?_
    refine b_topi (y := nI m) hm ?_
    refine b_iload_n dX3_add_37 rfl ?_
    refine b_zastN dX3_add_38 rfl ⟨by omega, by decide⟩ hb ?_
    refine b_aload_n dX3_add_39 rfl ?_
    refine b_dup dX3_add_40 rfl ?_
    refine b_geti dX3_add_41 gf_X3_22 rfl rfl ?_
    refine b_topi (y := nI m) hm ?_
    refine b_iconst (v := 1) dX3_add_44 (by decide) ?_
    refine b_iadd dX3_add_45 ?_
    refine b_puti dX3_add_46 gf_X3_22 gs_X3_0 rfl rfl ?_
    refine b_vret dX3_add_49 rfl ⟨rfl, ?_⟩
    rfl

set_option maxRecDepth 100000 in
set_option maxHeartbeats 1000000 in
theorem s_X7_reading {w g : kW} {n c q : Nat} (hh : Rel n c q w g) {p d b : Int32} (hb : b = 0 ∨ b = 1) : Spec shC yX7_reading cX7_reading 4 (some .int) 1 23 [.ref 0, .int p, .int d, .int b] w (fun r w' => RQ (R_reading g p d b) r w') := by
  obtain ⟨hM, hRP, hRI, hRA, hRR, hRS, hRN⟩ := id hh
  obtain ⟨hP, hI, hc8, hRd, hu, hS⟩ := id hM
  have hn := hP.le
  have ec := hRR.1
  have egc : g.1 0 35 = nI q := hRd.1
  have hq8 := hRd.2.1
  have dnc : dn (g.1 0 35) = q := by rw [egc]; exact dn_nI (by omega)
  refine k_enter pn_X7 (Nat.le_of_ble_eq_true rfl) ?_
  refine b_aload_n dX7_reading_0 rfl ?_
  refine b_getr dX7_reading_1 gf_X7_14 rfl rfl ?_
  refine b_iload_n dX7_reading_4 rfl ?_
  refine b_callV1 dX7_reading_5 lk_X7_85 rfl rfl rfl ⟨Nat.le_of_ble_eq_true rfl, Nat.le_of_ble_eq_true rfl⟩ (Nat.le_of_ble_eq_true rfl) (s_has hh) (fun r w5 h5 => ?_)
  obtain ⟨rfl, h5⟩ := h5
  rcases h5 with ⟨rfl, h5⟩ | ⟨rfl, h5⟩
  · refine b_if_ne (tgt := 13) dX7_reading_8 (by decide) (fun h8 => ?_) (fun h8 => absurd h8 (by decide))
    refine b_iload_n dX7_reading_13 rfl ?_
    refine b_callS1 dX7_reading_14 lk_X7_124 ⟨Nat.le_of_ble_eq_true rfl, Nat.le_of_ble_eq_true rfl⟩ (Nat.le_of_ble_eq_true rfl) (s_X7_isDawn) (fun r w14 h14 => ?_)
    obtain ⟨rfl, h14⟩ := h14
    rcases h14 with ⟨rfl, h14⟩ | ⟨rfl, h14⟩
    · refine b_if_ne (tgt := 23) dX7_reading_17 (by decide) (fun h17 => ?_) (fun h17 => absurd h17 (by decide))
      refine b_aload_n dX7_reading_23 rfl ?_
      refine b_getr dX7_reading_24 gf_X7_30 rfl rfl ?_
      refine b_geti dX7_reading_27 gf_X7_83 rfl rfl ?_
      refine b_topi (y := nI q) ec ?_
      refine b_bipush (v := 8) dX7_reading_30 (by decide) ?_
      refine b_icmp_lt (tgt := 38) dX7_reading_32 (by decide) (fun h32 => ?_) (fun h32 => ?_)
      · have hc7 : q < 8 := nI_lt2 (by omega) h32
        have hnf : ¬ g.1 0 35 = 8 := fun z => by
          have := nI_inj (b := 8) (by omega) (by decide) (egc.symm.trans z); omega
        have hq2 : isPr g p := h5
        have hdw : isDw d := h14
        obtain ⟨pp, hp, rfl⟩ := pers_of hP hq2
        obtain ⟨dd, hd, rfl⟩ := dawn_of h14
        refine b_aload_n dX7_reading_38 rfl ?_
        refine b_getr dX7_reading_39 gf_X7_30 rfl rfl ?_
        refine b_iload_n dX7_reading_42 rfl ?_
        refine b_iload_n dX7_reading_43 rfl ?_
        refine b_iload_n dX7_reading_44 rfl ?_
        refine b_callV3 dX7_reading_45 lk_X7_170 rfl rfl rfl ⟨Nat.le_of_ble_eq_true rfl, Nat.le_of_ble_eq_true rfl⟩ (Nat.le_of_ble_eq_true rfl) (s_X3_add (m := q) ec (by omega) hb) (fun r w45 h45 => ?_)
        obtain ⟨rfl, rfl⟩ := h45
        refine b_aload_n dX7_reading_48 rfl ?_
        refine b_getr dX7_reading_49 gf_X7_30 rfl rfl ?_
        refine b_geti dX7_reading_52 gf_X7_83 rfl rfl ?_
        refine b_iconst (v := 1) dX7_reading_55 (by decide) ?_
        refine b_isub dX7_reading_56 ?_
        refine b_iret dX7_reading_57 rfl ⟨?_, n, c, q + 1, ?_⟩
        · simp only [R_reading, if_pos hq2, if_pos hdw, if_neg hnf, dnc] <;> (rw [egc]; exact congrArg (fun x => some (Value.int x)) (Int32.add_sub_cancel _ _))
        · simp only [R_reading, if_pos hq2, if_pos hdw, if_neg hnf, dnc] <;> (rw [egc]; exact hh.rdg hc7 hp hd hb)
      · have hfull : g.1 0 35 = 8 := by
          rw [egc, show q = 8 from by have := nI_ge2 h32; omega]; rfl
        refine b_bipush (v := (-4)) dX7_reading_35 (by decide) ?_
        refine b_iret dX7_reading_37 rfl ⟨?_, n, c, q, ?_⟩
        · simp only [R_reading, if_pos h5, if_pos h14, if_pos hfull] <;> rfl
        · simp only [R_reading, if_pos h5, if_pos h14, if_pos hfull] <;> exact hh
    · refine b_if_ne (tgt := 23) dX7_reading_17 (by decide) (fun h17 => absurd h17 (by decide)) (fun h17 => ?_)
      refine b_bipush (v := (-2)) dX7_reading_20 (by decide) ?_
      refine b_iret dX7_reading_22 rfl ⟨?_, n, c, q, ?_⟩
      · simp only [R_reading, if_pos h5, if_neg h14] <;> rfl
      · simp only [R_reading, if_pos h5, if_neg h14] <;> exact hh
  · refine b_if_ne (tgt := 13) dX7_reading_8 (by decide) (fun h8 => absurd h8 (by decide)) (fun h8 => ?_)
    refine b_iconst (v := (-1)) dX7_reading_11 (by decide) ?_
    refine b_iret dX7_reading_12 rfl ⟨?_, n, c, q, ?_⟩
    · simp only [R_reading, if_neg h5] <;> rfl
    · simp only [R_reading, if_neg h5] <;> exact hh

set_option maxRecDepth 100000 in
set_option maxHeartbeats 1000000 in
theorem s_X7_tell {w g : kW} {n c q : Nat} (hh : Rel n c q w g) {p : Int32} : Spec shC yX7_tell cX7_tell 2 (some .int) 4 85 [.ref 0, .int p] w (fun r w' => RQ (R_tell g p) r w') := by
  obtain ⟨hM, hRP, hRI, hRA, hRR, hRS, hRN⟩ := id hh
  obtain ⟨hP, hI, hc8, hRd, hu, hS⟩ := id hM
  have hn := hP.le
  refine k_enter pn_X7 (Nat.le_of_ble_eq_true rfl) ?_
  refine b_aload_n dX7_tell_0 rfl ?_
  refine b_getr dX7_tell_1 gf_X7_14 rfl rfl ?_
  refine b_iload_n dX7_tell_4 rfl ?_
  refine b_callV1 dX7_tell_5 lk_X7_85 rfl rfl rfl ⟨Nat.le_of_ble_eq_true rfl, Nat.le_of_ble_eq_true rfl⟩ (Nat.le_of_ble_eq_true rfl) (s_has hh) (fun r w5 h5 => ?_)
  obtain ⟨rfl, h5⟩ := h5
  rcases h5 with ⟨rfl, h5⟩ | ⟨rfl, h5⟩
  · refine b_if_ne (tgt := 13) dX7_tell_8 (by decide) (fun h8 => ?_) (fun h8 => absurd h8 (by decide))
    have hq2 : isPr g p := h5
    obtain ⟨pp, hp, rfl⟩ := pers_of hP hq2
    obtain ⟨kd, hkd, ek⟩ := hP.2.2.2.2.2 pp hp
    have e3 := (hRP.2.2 pp hp).2.1
    refine b_aload_n dX7_tell_13 rfl ?_
    refine b_getr dX7_tell_14 gf_X7_14 rfl rfl ?_
    refine b_getr dX7_tell_17 gf_X7_88 rfl rfl ?_
    refine b_iload_n dX7_tell_20 rfl ?_
    refine b_ialdN dX7_tell_21 rfl ⟨by omega, by decide⟩ ?_
    refine b_topi (y := nI kd) ((hRP.2.2 pp hp).1.trans ek) ?_
    rcases (show kd = 0 ∨ kd = 1 ∨ kd = 2 by omega) with rfl | rfl | rfl
    · refine b_lsw (off := 38) (tgt := 60) dX7_tell_22 (by decide) (by decide) (by decide) ?_
      refine b_aload_n dX7_tell_60 rfl ?_
      refine b_iload_n dX7_tell_61 rfl ?_
      refine b_callV1 dX7_tell_62 lk_X7_221 rfl rfl rfl ⟨Nat.le_of_ble_eq_true rfl, Nat.le_of_ble_eq_true rfl⟩ (Nat.le_of_ble_eq_true rfl) (s_X7_tellGentleman (by omega)) (fun r w62 h62 => ?_)
      obtain ⟨rfl, rfl⟩ := h62
      refine b_topi (y := g.1 5 pp) e3 ?_
      refine b_iret dX7_tell_65 rfl ⟨?_, n, c, q, ?_⟩
      · simp only [R_tell, if_pos hq2, dn_nI (show pp < 2 ^ 31 by omega), if_neg (show ¬ g.1 4 pp = 1 by rw [ek]; decide), if_neg (show ¬ g.1 4 pp = 2 by rw [ek]; decide)] <;> rfl
      · simp only [R_tell, if_pos hq2, dn_nI (show pp < 2 ^ 31 by omega), if_neg (show ¬ g.1 4 pp = 1 by rw [ek]; decide), if_neg (show ¬ g.1 4 pp = 2 by rw [ek]; decide)] <;> exact hh.tr
    · refine b_lsw (off := 32) (tgt := 54) dX7_tell_22 (by decide) (by decide) (by decide) ?_
      refine b_aload_n dX7_tell_54 rfl ?_
      refine b_iload_n dX7_tell_55 rfl ?_
      refine b_callV1 dX7_tell_56 lk_X7_218 rfl rfl rfl ⟨Nat.le_of_ble_eq_true rfl, Nat.le_of_ble_eq_true rfl⟩ (Nat.le_of_ble_eq_true rfl) (s_X7_tellHothead (by omega)) (fun r w56 h56 => ?_)
      obtain ⟨rfl, rfl⟩ := h56
      refine b_topi (y := g.1 5 pp + 100) (by rw [e3]) ?_
      refine b_iret dX7_tell_59 rfl ⟨?_, n, c, q, ?_⟩
      · simp only [R_tell, if_pos hq2, dn_nI (show pp < 2 ^ 31 by omega), if_pos (show g.1 4 pp = 1 from ek)] <;> rfl
      · simp only [R_tell, if_pos hq2, dn_nI (show pp < 2 ^ 31 by omega), if_pos (show g.1 4 pp = 1 from ek)] <;> exact hh.tr.tr
    · refine b_lsw (off := 26) (tgt := 48) dX7_tell_22 (by decide) (by decide) (by decide) ?_
      refine b_aload_n dX7_tell_48 rfl ?_
      refine b_iload_n dX7_tell_49 rfl ?_
      refine b_callV1 dX7_tell_50 lk_X7_215 rfl rfl rfl ⟨Nat.le_of_ble_eq_true rfl, Nat.le_of_ble_eq_true rfl⟩ (Nat.le_of_ble_eq_true rfl) (s_X7_tellOfficer (by omega)) (fun r w50 h50 => ?_)
      obtain ⟨rfl, rfl⟩ := h50
      refine b_topi (y := 2 * g.1 5 pp + 100) (by rw [e3]) ?_
      refine b_iret dX7_tell_53 rfl ⟨?_, n, c, q, ?_⟩
      · simp only [R_tell, if_pos hq2, dn_nI (show pp < 2 ^ 31 by omega), if_neg (show ¬ g.1 4 pp = 1 by rw [ek]; decide), if_pos (show g.1 4 pp = 2 from ek)] <;> rfl
      · simp only [R_tell, if_pos hq2, dn_nI (show pp < 2 ^ 31 by omega), if_neg (show ¬ g.1 4 pp = 1 by rw [ek]; decide), if_pos (show g.1 4 pp = 2 from ek)] <;> exact hh.tr.tr.tr.tr
  · refine b_if_ne (tgt := 13) dX7_tell_8 (by decide) (fun h8 => absurd h8 (by decide)) (fun h8 => ?_)
    refine b_iconst (v := (-1)) dX7_tell_11 (by decide) ?_
    refine b_iret dX7_tell_12 rfl ⟨?_, n, c, q, ?_⟩
    · simp only [R_tell, if_neg h5] <;> rfl
    · simp only [R_tell, if_neg h5] <;> exact hh

set_option maxRecDepth 100000 in
set_option maxHeartbeats 1000000 in
theorem s_X7_salute {w g : kW} {n c q : Nat} (hh : Rel n c q w g) {p : Int32} : Spec shC yX7_salute cX7_salute 2 (some .int) 2 42 [.ref 0, .int p] w (fun r w' => RQ (R_salute g p) r w') := by
  obtain ⟨hM, hRP, hRI, hRA, hRR, hRS, hRN⟩ := id hh
  obtain ⟨hP, hI, hc8, hRd, hu, hS⟩ := id hM
  have hn := hP.le
  refine k_enter pn_X7 (Nat.le_of_ble_eq_true rfl) ?_
  refine b_aload_n dX7_salute_0 rfl ?_
  refine b_getr dX7_salute_1 gf_X7_14 rfl rfl ?_
  refine b_iload_n dX7_salute_4 rfl ?_
  refine b_callV1 dX7_salute_5 lk_X7_85 rfl rfl rfl ⟨Nat.le_of_ble_eq_true rfl, Nat.le_of_ble_eq_true rfl⟩ (Nat.le_of_ble_eq_true rfl) (s_has hh) (fun r w5 h5 => ?_)
  obtain ⟨rfl, h5⟩ := h5
  rcases h5 with ⟨rfl, h5⟩ | ⟨rfl, h5⟩
  · refine b_if_ne (tgt := 13) dX7_salute_8 (by decide) (fun h8 => ?_) (fun h8 => absurd h8 (by decide))
    have hq2 : isPr g p := h5
    obtain ⟨pp, hp, rfl⟩ := pers_of hP hq2
    refine b_aload_n dX7_salute_13 rfl ?_
    refine b_getr dX7_salute_14 gf_X7_14 rfl rfl ?_
    refine b_getr dX7_salute_17 gf_X7_88 rfl rfl ?_
    refine b_iload_n dX7_salute_20 rfl ?_
    refine b_ialdN dX7_salute_21 rfl ⟨by omega, by decide⟩ ?_
    refine b_topi (y := g.1 4 pp) (hRP.2.2 pp hp).1 ?_
    refine b_iconst (v := 2) dX7_salute_22 (by decide) ?_
    refine b_icmp_ne (tgt := 33) dX7_salute_23 (by decide) (fun h23 => ?_) (fun h23 => ?_)
    · refine b_aload_n dX7_salute_33 rfl ?_
      refine b_iload_n dX7_salute_34 rfl ?_
      refine b_callV1 dX7_salute_35 lk_X7_228 rfl rfl rfl ⟨Nat.le_of_ble_eq_true rfl, Nat.le_of_ble_eq_true rfl⟩ (Nat.le_of_ble_eq_true rfl) (s_X7_saluteByLentBody) (fun r w35 h35 => ?_)
      obtain ⟨rfl, rfl⟩ := h35
      refine b_iret dX7_salute_38 rfl ⟨?_, n, c, q, ?_⟩
      · simp only [R_salute, if_pos hq2, dn_nI (show pp < 2 ^ 31 by omega), if_neg h23] <;> rfl
      · simp only [R_salute, if_pos hq2, dn_nI (show pp < 2 ^ 31 by omega), if_neg h23] <;> exact hh.tr
    · refine b_aload_n dX7_salute_26 rfl ?_
      refine b_callV0 dX7_salute_27 lk_X7_224 rfl rfl rfl ⟨Nat.le_of_ble_eq_true rfl, Nat.le_of_ble_eq_true rfl⟩ (Nat.le_of_ble_eq_true rfl) (s_X7_saluteOfficer) (fun r w27 h27 => ?_)
      obtain ⟨rfl, rfl⟩ := h27
      refine b_goto (tgt := 38) dX7_salute_30 (by decide) ?_
      refine b_iret dX7_salute_38 rfl ⟨?_, n, c, q, ?_⟩
      · simp only [R_salute, if_pos hq2, dn_nI (show pp < 2 ^ 31 by omega), if_pos h23] <;> rfl
      · simp only [R_salute, if_pos hq2, dn_nI (show pp < 2 ^ 31 by omega), if_pos h23] <;> exact hh.tr
  · refine b_if_ne (tgt := 13) dX7_salute_8 (by decide) (fun h8 => absurd h8 (by decide)) (fun h8 => ?_)
    refine b_iconst (v := (-1)) dX7_salute_11 (by decide) ?_
    refine b_iret dX7_salute_12 rfl ⟨?_, n, c, q, ?_⟩
    · simp only [R_salute, if_neg h5] <;> rfl
    · simp only [R_salute, if_neg h5] <;> exact hh

set_option maxRecDepth 100000 in
set_option maxHeartbeats 1000000 in
theorem s_X7_as {w g : kW} {n c q : Nat} (hh : Rel n c q w g) {p k : Int32} : Spec shC yX7_as cX7_as 3 (some .int) 1 21 [.ref 0, .int p, .int k] w (fun r w' => RQ (R_as g p k) r w') := by
  obtain ⟨hM, hRP, hRI, hRA, hRR, hRS, hRN⟩ := id hh
  obtain ⟨hP, hI, hc8, hRd, hu, hS⟩ := id hM
  have hn := hP.le
  refine k_enter pn_X7 (Nat.le_of_ble_eq_true rfl) ?_
  refine b_aload_n dX7_as_0 rfl ?_
  refine b_iconst (v := 0) dX7_as_1 (by decide) ?_
  refine b_puti dX7_as_2 gf_X7_50 gs_X7_6 rfl rfl ?_
  refine b_aload_n dX7_as_5 rfl ?_
  refine b_getr dX7_as_6 gf_X7_14 rfl rfl ?_
  refine b_iload_n dX7_as_9 rfl ?_
  refine b_callV1 dX7_as_10 lk_X7_85 rfl rfl rfl ⟨Nat.le_of_ble_eq_true rfl, Nat.le_of_ble_eq_true rfl⟩ (Nat.le_of_ble_eq_true rfl) (s_has (hh.flt (x := 0))) (fun r w10 h10 => ?_)
  obtain ⟨rfl, h10⟩ := h10
  rcases h10 with ⟨rfl, h10⟩ | ⟨rfl, h10⟩
  · refine b_if_ne (tgt := 18) dX7_as_13 (by decide) (fun h13 => ?_) (fun h13 => absurd h13 (by decide))
    have hq2 : isPr g p := h10
    refine b_iload_n dX7_as_18 rfl ?_
    refine b_if_lt (tgt := 27) dX7_as_19 (by decide) (fun h19 => ?_) (fun h19 => ?_)
    · refine b_bipush (v := (-2)) dX7_as_27 (by decide) ?_
      refine b_iret dX7_as_29 rfl ⟨?_, n, c, q, ?_⟩
      · simp only [R_as, if_pos hq2, if_neg (show ¬ (0 ≤ k ∧ k ≤ 2) from fun z => absurd z.1 (Int32.not_le.mpr h19))] <;> rfl
      · simp only [R_as, if_pos hq2, if_neg (show ¬ (0 ≤ k ∧ k ≤ 2) from fun z => absurd z.1 (Int32.not_le.mpr h19))] <;> exact hh.flt
    · refine b_iload_n dX7_as_22 rfl ?_
      refine b_iconst (v := 3) dX7_as_23 (by decide) ?_
      refine b_icmp_lt (tgt := 30) dX7_as_24 (by decide) (fun h24 => ?_) (fun h24 => ?_)
      · have hz : 0 ≤ k ∧ k ≤ 2 := ⟨Int32.not_lt.mp h19, (lt_le (by decide)).mp h24⟩
        obtain ⟨pp, hp, rfl⟩ := pers_of hP hq2
        refine b_aload_n dX7_as_30 rfl ?_
        refine b_getr dX7_as_31 gf_X7_14 rfl rfl ?_
        refine b_getr dX7_as_34 gf_X7_88 rfl rfl ?_
        refine b_iload_n dX7_as_37 rfl ?_
        refine b_ialdN dX7_as_38 rfl ⟨by omega, by decide⟩ ?_
        refine b_topi (y := g.1 4 pp) (hRP.2.2 pp hp).1 ?_
        refine b_iload_n dX7_as_39 rfl ?_
        refine b_icmp_lt (tgt := 47) dX7_as_40 (by decide) (fun h40 => ?_) (fun h40 => ?_)
        · refine b_aload_n dX7_as_47 rfl ?_
          refine b_iconst (v := 2) dX7_as_48 (by decide) ?_
          refine b_callV1 dX7_as_49 lk_X7_66 rfl rfl rfl ⟨Nat.le_of_ble_eq_true rfl, Nat.le_of_ble_eq_true rfl⟩ (Nat.le_of_ble_eq_true rfl) (s_X7_faulted) (fun r w49 h49 => ?_)
          obtain ⟨rfl, rfl⟩ := h49
          refine b_iret dX7_as_52 rfl ⟨?_, n, c, q, ?_⟩
          · simp only [R_as, if_pos hq2, if_pos hz, dn_nI (show pp < 2 ^ 31 by omega), if_pos h40] <;> rfl
          · simp only [R_as, if_pos hq2, if_pos hz, dn_nI (show pp < 2 ^ 31 by omega), if_pos h40] <;> (rw [kset_kset]; exact hh.flt)
        · refine b_iconst (v := 1) dX7_as_43 (by decide) ?_
          refine b_goto (tgt := 52) dX7_as_44 (by decide) ?_
          refine b_iret dX7_as_52 rfl ⟨?_, n, c, q, ?_⟩
          · simp only [R_as, if_pos hq2, if_pos hz, dn_nI (show pp < 2 ^ 31 by omega), if_neg h40] <;> rfl
          · simp only [R_as, if_pos hq2, if_pos hz, dn_nI (show pp < 2 ^ 31 by omega), if_neg h40] <;> exact hh.flt
      · refine b_bipush (v := (-2)) dX7_as_27 (by decide) ?_
        refine b_iret dX7_as_29 rfl ⟨?_, n, c, q, ?_⟩
        · simp only [R_as, if_pos hq2, if_neg (show ¬ (0 ≤ k ∧ k ≤ 2) from fun z => absurd ((lt_le (a := 2) (b := 3) (by decide)).mpr z.2) h24)] <;> rfl
        · simp only [R_as, if_pos hq2, if_neg (show ¬ (0 ≤ k ∧ k ≤ 2) from fun z => absurd ((lt_le (a := 2) (b := 3) (by decide)).mpr z.2) h24)] <;> exact hh.flt
  · refine b_if_ne (tgt := 18) dX7_as_13 (by decide) (fun h13 => absurd h13 (by decide)) (fun h13 => ?_)
    have hq2 : ¬ isPr g p := h10
    refine b_iconst (v := (-1)) dX7_as_16 (by decide) ?_
    refine b_iret dX7_as_17 rfl ⟨?_, n, c, q, ?_⟩
    · simp only [R_as, if_neg hq2] <;> rfl
    · simp only [R_as, if_neg hq2] <;> exact hh.flt

set_option maxRecDepth 100000 in
set_option maxHeartbeats 1000000 in
theorem s_X7_trace {w g : kW} {n c q : Nat} (hh : Rel n c q w g) : Spec shC yX7_trace cX7_trace 1 (some .int) 0 0 [.ref 0] w (fun r w' => RQ ((g.1 0 1, g)) r w') := by
  obtain ⟨hM, hRP, hRI, hRA, hRR, hRS, hRN⟩ := id hh
  obtain ⟨hP, hI, hc8, hRd, hu, hS⟩ := id hM
  have hn := hP.le
  refine k_enter pn_X7 (Nat.le_of_ble_eq_true rfl) ?_
  refine b_aload_n dX7_trace_0 rfl ?_
  refine b_geti dX7_trace_1 gf_X7_231 rfl rfl ?_
  refine b_topi (y := g.1 0 1) hRN.1 ?_
  exact b_iret dX7_trace_4 rfl ⟨rfl, n, c, q, hh⟩

set_option maxRecDepth 100000 in
set_option maxHeartbeats 1000000 in
theorem s_X7_fault {w g : kW} {n c q : Nat} (hh : Rel n c q w g) : Spec shC yX7_fault cX7_fault 1 (some .int) 0 0 [.ref 0] w (fun r w' => RQ ((g.1 0 0, g)) r w') := by
  obtain ⟨hM, hRP, hRI, hRA, hRR, hRS, hRN⟩ := id hh
  obtain ⟨hP, hI, hc8, hRd, hu, hS⟩ := id hM
  have hn := hP.le
  refine k_enter pn_X7 (Nat.le_of_ble_eq_true rfl) ?_
  refine b_aload_n dX7_fault_0 rfl ?_
  refine b_geti dX7_fault_1 gf_X7_50 rfl rfl ?_
  refine b_topi (y := g.1 0 0) hRN.2 ?_
  exact b_iret dX7_fault_4 rfl ⟨rfl, n, c, q, hh⟩
