theorem s_has {w g : kW} {n c q : Nat} (h : Rel n c q w g) {p : Int32} : Spec shC yX2_has cX2_has 2 (some .boolean) 0 0 [.ref 1, .int p] w (fun r w' => w = w' ∧ ((r = some (.int 1) ∧ isPr g p) ∨ (r = some (.int 0) ∧ ¬ isPr g p))) := by
  have := @s_X2_has w p
  rw [h.hp] at this
  exact this
theorem s_hasTwo {w g : kW} {n c q : Nat} (h : Rel n c q w g) {p o : Int32} : Spec shC yX2_hasTwo cX2_hasTwo 3 (some .boolean) 1 21 [.ref 1, .int p, .int o] w (fun r w' => w = w' ∧ ((r = some (.int 1) ∧ (isPr g p ∧ isPr g o ∧ ¬ p = o)) ∨ (r = some (.int 0) ∧ ¬ (isPr g p ∧ isPr g o ∧ ¬ p = o)))) := by
  have := @s_X2_hasTwo w p o
  rw [h.hp] at this
  exact this
theorem s_empty {w g : kW} {n c q : Nat} (h : Rel n c q w g) : Spec shC yX7_isEmpty cX7_isEmpty 1 (some .boolean) 0 0 [.ref 0] w (fun r w' => w = w' ∧ ((r = some (.int 1) ∧ g.1 0 5 = 0) ∨ (r = some (.int 0) ∧ ¬ g.1 0 5 = 0))) := by
  have := @s_X7_isEmpty w
  rw [h.hp] at this
  exact this
theorem Rel.ins {n c q : Nat} {w g : kW} {a b d e : Nat} (h : Rel n c q w g) (hc : c < 8) (ha : a < n) (hb : b < n) (hab : a ≠ b) (hd : d < 30) (h1 : 1 ≤ e) (h9 : e ≤ 9) : Rel n (c + 1) q (kset (kset (kset (kset (kset w 7 c (nI a)) 8 c (nI b)) 9 c (nI d)) 10 c (nI e)) 6 0 (nI c + 1)) (kset (kset (kset (kset (kset g 11 c (nI a)) 12 c (nI b)) 13 c (nI d)) 14 c (nI e)) 0 15 (nI c + 1)) := by
  obtain ⟨⟨g1, ⟨i1, i2, i3⟩, g3, g4, g5, g6⟩, ⟨h2, h3, h4⟩, ⟨i4, i5⟩, h7, h8, h10, h11, h12⟩ := h
  have e2 : nI c + 1 = nI (c + 1) := nI_1 c
  refine ⟨⟨g1, ⟨e2, by omega, fun k hk => ?_⟩, by omega, g4, g5, g6⟩, ⟨g1, h3, h4⟩, ⟨e2, fun k hk => ?_⟩, h7, h8, fun k hk => (h10 k hk).of ?_ ?_ rfl rfl (fun _ _ => rfl), h11, h12⟩
  · by_cases e : k = c
    · subst e
      refine ⟨a, b, d, _, ha, hb, hab, hd, h1, h9, ?_, ?_, ?_, ?_⟩ <;> simp [kset_1]
    · obtain ⟨a', b', d', e', z1, z2, z3, z4, z5, z6, z7, z8, z9, z10⟩ := i3 k (by omega)
      refine ⟨a', b', d', e', z1, z2, z3, z4, z5, z6, ?_, ?_, ?_, ?_⟩ <;> simp [kset_1, e, z7, z8, z9, z10]
  · by_cases e : k = c
    · subst e
      refine ⟨?_, ?_, ?_, ?_⟩ <;> simp [kset_1]
    · obtain ⟨z1, z2, z3, z4⟩ := i5 k (by omega)
      refine ⟨?_, ?_, ?_, ?_⟩ <;> simp [kset_1, e, z1, z2, z3, z4]
  · rw [kset_row _ _ _ _ (by omega), kset_row _ _ _ _ (by omega), kset_row _ _ _ _ (by omega), kset_row _ _ _ _ (by omega), kset_row _ _ _ _ (by omega)]
  · rw [kset_row _ _ _ _ (by omega), kset_row _ _ _ _ (by omega), kset_row _ _ _ _ (by omega), kset_row _ _ _ _ (by omega), kset_row _ _ _ _ (by omega)]
theorem Rel.sor {n c q k : Nat} {w g : kW} (h : Rel n c q w g) (hk : k ≤ c) : Rel n k q (kset w 6 0 (nI k)) (kset g 0 15 (nI k)) := by
  obtain ⟨⟨g1, ⟨i1, i2, i3⟩, g3, g4, g5, g6⟩, ⟨h2, h3, h4⟩, ⟨i4, i5⟩, h7, h8, h10, h11, h12⟩ := h
  exact ⟨⟨g1, ⟨rfl, by omega, fun k hk => i3 k (by omega)⟩, by omega, g4, g5, g6⟩, ⟨g1, h3, h4⟩, ⟨rfl, fun k hk => i5 k (by omega)⟩, h7, h8, fun k hk => (h10 k hk).of (kset_row _ _ _ _ (by omega)) (kset_row _ _ _ _ (by omega)) rfl rfl (fun _ _ => rfl), h11, h12⟩
theorem Rel.arr {n c q p : Nat} {w g : kW} {s b : Int32} (h : Rel n c q w g) (hb : b = 0 ∨ b = 1) (hs : ∀ k, k < n → (bt s k = false ↔ (if k = p then b else g.1 7 k) = 0)) : Rel n c q (kset w 1 1 s) (kset g 7 p b) := by
  obtain ⟨⟨⟨p1, p2, p3, p4, p5, p6⟩, g2, g3, g4, g5, g6⟩, ⟨h2, h3, h4⟩, h5, h7, h8, h10, h11, h12⟩ := h
  have hP : Pn n (kset g 7 p b) := ⟨p1, p2, p3, p4, fun k hk => by
    rw [kset_1, if_pos rfl]
    by_cases e : k = p
    · rw [if_pos e]; exact hb
    · rw [if_neg e]; exact p5 k hk, p6⟩
  refine ⟨⟨hP, g2, g3, g4, g5, g6⟩, ⟨hP, h3, h4⟩, h5, fun k hk => ?_, h8, fun k hk => (h10 k hk).of (kset_row _ _ _ _ (by omega)) (kset_row _ _ _ _ (by omega)) rfl rfl (fun _ _ => rfl), h11, h12⟩
  have e1 : (kset w 1 1 s).1 1 1 = s := rfl
  rw [e1, kset_1, if_pos rfl]
  exact hs k hk
set_option maxRecDepth 100000 in
set_option maxHeartbeats 1000000 in
theorem s_X7_ofPerson {w g : kW} {n c q : Nat} (hh : Rel n c q w g) {p what : Int32} : Spec shC yX7_ofPerson cX7_ofPerson 3 (some .int) 2 44 [.ref 0, .int p, .int what] w (fun r w' => RQ (R_ofPerson g p what) r w') := by
  obtain ⟨hM, hRP, hRI, hRA, hRR, hRS, hRN⟩ := id hh
  obtain ⟨hP, hI, hc8, hRd, hu, hS⟩ := id hM
  have hn := hP.le
  refine k_enter pn_X7 (Nat.le_of_ble_eq_true rfl) ?_
  refine b_aload_n dX7_ofPerson_0 rfl ?_
  refine b_getr dX7_ofPerson_1 gf_X7_14 rfl rfl ?_
  refine b_iload_n dX7_ofPerson_4 rfl ?_
  refine b_callV1 dX7_ofPerson_5 lk_X7_85 rfl rfl rfl ⟨Nat.le_of_ble_eq_true rfl, Nat.le_of_ble_eq_true rfl⟩ (Nat.le_of_ble_eq_true rfl) (s_has hh) (fun r w5 h5 => ?_)
  obtain ⟨rfl, h5⟩ := h5
  rcases h5 with ⟨rfl, h5⟩ | ⟨rfl, h5⟩
  · refine b_if_ne (tgt := 13) dX7_ofPerson_8 (by decide) (fun h8 => ?_) (fun h8 => absurd h8 (by decide))
    have hq2 : isPr g p := h5
    obtain ⟨pp, hp, rfl⟩ := pers_of hP hq2
    obtain ⟨ho, ho1, ho9, eh⟩ := hP.2.2.1 pp hp
    obtain ⟨kd, hkd, ek⟩ := hP.2.2.2.2.2 pp hp
    refine b_iload_n dX7_ofPerson_13 rfl ?_
    by_cases hw : (0 : Int32) ≤ what ∧ what ≤ 5
    obtain ⟨x, hx, rfl⟩ := nI_of2 (n := 5) (M := 5) (by decide) (Int32.not_lt.mpr hw.1) hw.2
    rcases (show x = 0 ∨ x = 1 ∨ x = 2 ∨ x = 3 ∨ x = 4 ∨ x = 5 by omega) with rfl | rfl | rfl | rfl | rfl | rfl
    · refine b_tsIn (off := 38) (tgt := 52) dX7_ofPerson_14 (by decide) (by decide) (by decide) (by decide) ?_
      refine b_aload_n dX7_ofPerson_52 rfl ?_
      refine b_getr dX7_ofPerson_53 gf_X7_14 rfl rfl ?_
      refine b_getr dX7_ofPerson_56 gf_X7_88 rfl rfl ?_
      refine b_iload_n dX7_ofPerson_59 rfl ?_
      refine b_ialdN dX7_ofPerson_60 rfl ⟨by omega, by decide⟩ ?_
      refine b_topi (y := g.1 4 pp) (hRP.2.2 pp hp).1 ?_
      refine b_iret dX7_ofPerson_61 rfl ⟨?_, n, c, q, ?_⟩
      · simp only [R_ofPerson, if_pos hq2, dn_nI (show pp < 2 ^ 31 by omega), if_pos (show (0 : Int32) ≤ nI 0 ∧ nI 0 ≤ 5 by decide), if_pos (show nI 0 = 0 by decide)] <;> rfl
      · simp only [R_ofPerson, if_pos hq2, dn_nI (show pp < 2 ^ 31 by omega), if_pos (show (0 : Int32) ≤ nI 0 ∧ nI 0 ≤ 5 by decide), if_pos (show nI 0 = 0 by decide)] <;> exact hh
    · refine b_tsIn (off := 48) (tgt := 62) dX7_ofPerson_14 (by decide) (by decide) (by decide) (by decide) ?_
      refine b_aload_n dX7_ofPerson_62 rfl ?_
      refine b_getr dX7_ofPerson_63 gf_X7_14 rfl rfl ?_
      refine b_getr dX7_ofPerson_66 gf_X7_92 rfl rfl ?_
      refine b_iload_n dX7_ofPerson_69 rfl ?_
      refine b_ialdN dX7_ofPerson_70 rfl ⟨by omega, by decide⟩ ?_
      refine b_topi (y := g.1 5 pp) (hRP.2.2 pp hp).2.1 ?_
      refine b_iret dX7_ofPerson_71 rfl ⟨?_, n, c, q, ?_⟩
      · simp only [R_ofPerson, if_pos hq2, dn_nI (show pp < 2 ^ 31 by omega), if_pos (show (0 : Int32) ≤ nI 1 ∧ nI 1 ≤ 5 by decide), if_neg (show ¬ nI 1 = 0 by decide), if_pos (show nI 1 = 1 by decide)] <;> rfl
      · simp only [R_ofPerson, if_pos hq2, dn_nI (show pp < 2 ^ 31 by omega), if_pos (show (0 : Int32) ≤ nI 1 ∧ nI 1 ≤ 5 by decide), if_neg (show ¬ nI 1 = 0 by decide), if_pos (show nI 1 = 1 by decide)] <;> exact hh
    · refine b_tsIn (off := 58) (tgt := 72) dX7_ofPerson_14 (by decide) (by decide) (by decide) (by decide) ?_
      refine b_aload_n dX7_ofPerson_72 rfl ?_
      refine b_getr dX7_ofPerson_73 gf_X7_14 rfl rfl ?_
      refine b_getr dX7_ofPerson_76 gf_X7_95 rfl rfl ?_
      refine b_iload_n dX7_ofPerson_79 rfl ?_
      refine b_ialdN dX7_ofPerson_80 rfl ⟨by omega, by decide⟩ ?_
      refine b_topi (y := g.1 6 (2 * pp)) (hRP.2.2 pp hp).2.2.1 ?_
      refine b_iret dX7_ofPerson_81 rfl ⟨?_, n, c, q, ?_⟩
      · simp only [R_ofPerson, if_pos hq2, dn_nI (show pp < 2 ^ 31 by omega), if_pos (show (0 : Int32) ≤ nI 2 ∧ nI 2 ≤ 5 by decide), if_neg (show ¬ nI 2 = 0 by decide), if_neg (show ¬ nI 2 = 1 by decide), if_pos (show nI 2 = 2 by decide)] <;> rfl
      · simp only [R_ofPerson, if_pos hq2, dn_nI (show pp < 2 ^ 31 by omega), if_pos (show (0 : Int32) ≤ nI 2 ∧ nI 2 ≤ 5 by decide), if_neg (show ¬ nI 2 = 0 by decide), if_neg (show ¬ nI 2 = 1 by decide), if_pos (show nI 2 = 2 by decide)] <;> exact hh
    · refine b_tsIn (off := 68) (tgt := 82) dX7_ofPerson_14 (by decide) (by decide) (by decide) (by decide) ?_
      refine b_aload_n dX7_ofPerson_82 rfl ?_
      refine b_getr dX7_ofPerson_83 gf_X7_14 rfl rfl ?_
      refine b_getr dX7_ofPerson_86 gf_X7_98 rfl rfl ?_
      refine b_iload_n dX7_ofPerson_89 rfl ?_
      refine b_ialdN dX7_ofPerson_90 rfl ⟨by omega, by decide⟩ ?_
      refine b_topi (y := g.1 6 (2 * pp + 1)) (hRP.2.2 pp hp).2.2.2 ?_
      refine b_iret dX7_ofPerson_91 rfl ⟨?_, n, c, q, ?_⟩
      · simp only [R_ofPerson, if_pos hq2, dn_nI (show pp < 2 ^ 31 by omega), if_pos (show (0 : Int32) ≤ nI 3 ∧ nI 3 ≤ 5 by decide), if_neg (show ¬ nI 3 = 0 by decide), if_neg (show ¬ nI 3 = 1 by decide), if_neg (show ¬ nI 3 = 2 by decide), if_pos (show nI 3 = 3 by decide)] <;> rfl
      · simp only [R_ofPerson, if_pos hq2, dn_nI (show pp < 2 ^ 31 by omega), if_pos (show (0 : Int32) ≤ nI 3 ∧ nI 3 ≤ 5 by decide), if_neg (show ¬ nI 3 = 0 by decide), if_neg (show ¬ nI 3 = 1 by decide), if_neg (show ¬ nI 3 = 2 by decide), if_pos (show nI 3 = 3 by decide)] <;> exact hh
    · refine b_tsIn (off := 78) (tgt := 92) dX7_ofPerson_14 (by decide) (by decide) (by decide) (by decide) ?_
      refine b_aload_n dX7_ofPerson_92 rfl ?_
      refine b_getr dX7_ofPerson_93 gf_X7_14 rfl rfl ?_
      refine b_iload_n dX7_ofPerson_96 rfl ?_
      refine b_callV1 dX7_ofPerson_97 lk_X7_101 rfl rfl rfl ⟨Nat.le_of_ble_eq_true rfl, Nat.le_of_ble_eq_true rfl⟩ (Nat.le_of_ble_eq_true rfl) (s_X2_touchiness (p := pp) (h := ho) (kd := kd) (by omega) ho1 ho9 hkd ((hRP.2.2 pp hp).2.1.trans eh) ((hRP.2.2 pp hp).1.trans ek)) (fun r w97 h97 => ?_)
      obtain ⟨rfl, rfl⟩ := h97
      refine b_topi (y := mTouch g pp) (by rw [mTouch_c, eh, ek]) ?_
      refine b_iret dX7_ofPerson_100 rfl ⟨?_, n, c, q, ?_⟩
      · simp only [R_ofPerson, if_pos hq2, dn_nI (show pp < 2 ^ 31 by omega), if_pos (show (0 : Int32) ≤ nI 4 ∧ nI 4 ≤ 5 by decide), if_neg (show ¬ nI 4 = 0 by decide), if_neg (show ¬ nI 4 = 1 by decide), if_neg (show ¬ nI 4 = 2 by decide), if_neg (show ¬ nI 4 = 3 by decide), if_pos (show nI 4 = 4 by decide)] <;> rfl
      · simp only [R_ofPerson, if_pos hq2, dn_nI (show pp < 2 ^ 31 by omega), if_pos (show (0 : Int32) ≤ nI 4 ∧ nI 4 ≤ 5 by decide), if_neg (show ¬ nI 4 = 0 by decide), if_neg (show ¬ nI 4 = 1 by decide), if_neg (show ¬ nI 4 = 2 by decide), if_neg (show ¬ nI 4 = 3 by decide), if_pos (show nI 4 = 4 by decide)] <;> exact hh
    · refine b_tsIn (off := 87) (tgt := 101) dX7_ofPerson_14 (by decide) (by decide) (by decide) (by decide) ?_
      refine b_aload_n dX7_ofPerson_101 rfl ?_
      refine b_getr dX7_ofPerson_102 gf_X7_14 rfl rfl ?_
      refine b_geti dX7_ofPerson_105 gf_X7_104 rfl rfl ?_
      refine b_iload_n dX7_ofPerson_108 rfl ?_
      refine b_callS2 dX7_ofPerson_109 lk_X7_107 ⟨Nat.le_of_ble_eq_true rfl, Nat.le_of_ble_eq_true rfl⟩ (Nat.le_of_ble_eq_true rfl) (s_X7_in (k := pp) (by omega)) (fun r w109 h109 => ?_)
      obtain ⟨rfl, h109⟩ := h109
      rcases h109 with ⟨rfl, h109⟩ | ⟨rfl, h109⟩
      · refine b_if_eq (tgt := 119) dX7_ofPerson_112 (by decide) (fun h112 => absurd h112 (by decide)) (fun h112 => ?_)
        refine b_iconst (v := 1) dX7_ofPerson_115 (by decide) ?_
        refine b_goto (tgt := 120) dX7_ofPerson_116 (by decide) ?_
        refine b_iret dX7_ofPerson_120 rfl ⟨?_, n, c, q, ?_⟩
        · simp only [R_ofPerson, if_pos hq2, dn_nI (show pp < 2 ^ 31 by omega), if_pos (show (0 : Int32) ≤ nI 5 ∧ nI 5 ≤ 5 by decide), if_neg (show ¬ nI 5 = 0 by decide), if_neg (show ¬ nI 5 = 1 by decide), if_neg (show ¬ nI 5 = 2 by decide), if_neg (show ¬ nI 5 = 3 by decide), if_neg (show ¬ nI 5 = 4 by decide), if_neg (fun z => absurd (((hRA pp hp).mpr z).symm.trans h109) (by decide))] <;> rfl
        · simp only [R_ofPerson, if_pos hq2, dn_nI (show pp < 2 ^ 31 by omega), if_pos (show (0 : Int32) ≤ nI 5 ∧ nI 5 ≤ 5 by decide), if_neg (show ¬ nI 5 = 0 by decide), if_neg (show ¬ nI 5 = 1 by decide), if_neg (show ¬ nI 5 = 2 by decide), if_neg (show ¬ nI 5 = 3 by decide), if_neg (show ¬ nI 5 = 4 by decide), if_neg (fun z => absurd (((hRA pp hp).mpr z).symm.trans h109) (by decide))] <;> exact hh
      · refine b_if_eq (tgt := 119) dX7_ofPerson_112 (by decide) (fun h112 => ?_) (fun h112 => absurd h112 (by decide))
        refine b_iconst (v := 0) dX7_ofPerson_119 (by decide) ?_
        refine b_iret dX7_ofPerson_120 rfl ⟨?_, n, c, q, ?_⟩
        · simp only [R_ofPerson, if_pos hq2, dn_nI (show pp < 2 ^ 31 by omega), if_pos (show (0 : Int32) ≤ nI 5 ∧ nI 5 ≤ 5 by decide), if_neg (show ¬ nI 5 = 0 by decide), if_neg (show ¬ nI 5 = 1 by decide), if_neg (show ¬ nI 5 = 2 by decide), if_neg (show ¬ nI 5 = 3 by decide), if_neg (show ¬ nI 5 = 4 by decide), if_pos ((hRA pp hp).mp (b_f h109))] <;> rfl
        · simp only [R_ofPerson, if_pos hq2, dn_nI (show pp < 2 ^ 31 by omega), if_pos (show (0 : Int32) ≤ nI 5 ∧ nI 5 ≤ 5 by decide), if_neg (show ¬ nI 5 = 0 by decide), if_neg (show ¬ nI 5 = 1 by decide), if_neg (show ¬ nI 5 = 2 by decide), if_neg (show ¬ nI 5 = 3 by decide), if_neg (show ¬ nI 5 = 4 by decide), if_pos ((hRA pp hp).mp (b_f h109))] <;> exact hh
    · refine b_tsOut (tgt := 121) dX7_ofPerson_14 (ts_out 5 (by decide) hw) (by decide) ?_
      refine b_bipush (v := (-2)) dX7_ofPerson_121 (by decide) ?_
      refine b_iret dX7_ofPerson_123 rfl ⟨?_, n, c, q, ?_⟩
      · simp only [R_ofPerson, if_pos hq2, if_neg hw] <;> rfl
      · simp only [R_ofPerson, if_pos hq2, if_neg hw] <;> exact hh
  · refine b_if_ne (tgt := 13) dX7_ofPerson_8 (by decide) (fun h8 => absurd h8 (by decide)) (fun h8 => ?_)
    refine b_iconst (v := (-1)) dX7_ofPerson_11 (by decide) ?_
    refine b_iret dX7_ofPerson_12 rfl ⟨?_, n, c, q, ?_⟩
    · simp only [R_ofPerson, if_neg h5] <;> rfl
    · simp only [R_ofPerson, if_neg h5] <;> exact hh
theorem nI_ge2 {c : Nat} (h : ¬ nI c < 8) : 8 ≤ c := by
  rcases Nat.lt_or_ge c 8 with h1 | h1
  · exact absurd (nI_lt (b := 8) h1 (by decide)) h
  · exact h1
theorem nI_lt2 {c : Nat} (hc : c ≤ 100) (h : nI c < 8) : c < 8 := by
  rcases Nat.lt_or_ge c 8 with h1 | h1
  · exact h1
  · exact absurd (nI_le (a := 8) h1 (by omega)) (Int32.not_le.mpr h)
theorem deg_of {x : Int32} (h : 1 ≤ x ∧ x ≤ 9) : ∃ d, 1 ≤ d ∧ d ≤ 9 ∧ x = nI d := by
  have h0 : ¬ x < 0 := fun z => absurd h.1 (Int32.not_le.mpr (Int32.lt_trans z (by decide)))
  obtain ⟨d, hd, rfl⟩ := nI_of2 (n := 9) (M := 9) (by decide) h0 h.2
  refine ⟨d, ?_, hd, rfl⟩
  rcases Nat.eq_zero_or_pos d with rfl | h1
  · exact absurd h.1 (by decide)
  · exact h1
set_option maxRecDepth 100000 in
set_option maxHeartbeats 1000000 in
theorem s_X7_insult {w g : kW} {n c q : Nat} (hh : Rel n c q w g) {a b d e : Int32} : Spec shC yX7_insult cX7_insult 5 (some .int) 2 43 [.ref 0, .int a, .int b, .int d, .int e] w (fun r w' => RQ (R_insult g a b d e) r w') := by
  obtain ⟨hM, hRP, hRI, hRA, hRR, hRS, hRN⟩ := id hh
  obtain ⟨hP, hI, hc8, hRd, hu, hS⟩ := id hM
  have hn := hP.le
  have ec := hRI.1
  have dnc : dn (g.1 0 15) = c := by rw [hI.1]; exact dn_nI (by omega)
  have egc : g.1 0 15 = nI c := hI.1
  refine k_enter pn_X7 (Nat.le_of_ble_eq_true rfl) ?_
  refine b_aload_n dX7_insult_0 rfl ?_
  refine b_getr dX7_insult_1 gf_X7_14 rfl rfl ?_
  refine b_iload_n dX7_insult_4 rfl ?_
  refine b_iload_n dX7_insult_5 rfl ?_
  refine b_callV2 dX7_insult_6 lk_X7_111 rfl rfl rfl ⟨Nat.le_of_ble_eq_true rfl, Nat.le_of_ble_eq_true rfl⟩ (Nat.le_of_ble_eq_true rfl) (s_hasTwo hh) (fun r w6 h6 => ?_)
  obtain ⟨rfl, h6⟩ := h6
  rcases h6 with ⟨rfl, h6⟩ | ⟨rfl, h6⟩
  · refine b_if_ne (tgt := 14) dX7_insult_9 (by decide) (fun h9 => ?_) (fun h9 => absurd h9 (by decide))
    refine b_iload_n dX7_insult_14 rfl ?_
    refine b_callS1 dX7_insult_15 lk_X7_114 ⟨Nat.le_of_ble_eq_true rfl, Nat.le_of_ble_eq_true rfl⟩ (Nat.le_of_ble_eq_true rfl) (s_X7_isDay) (fun r w15 h15 => ?_)
    obtain ⟨rfl, h15⟩ := h15
    rcases h15 with ⟨rfl, h15⟩ | ⟨rfl, h15⟩
    · refine b_if_eq (tgt := 34) dX7_insult_18 (by decide) (fun h18 => absurd h18 (by decide)) (fun h18 => ?_)
      refine b_iload dX7_insult_21 rfl ?_
      refine b_iconst (v := 1) dX7_insult_23 (by decide) ?_
      refine b_icmp_lt (tgt := 34) dX7_insult_24 (by decide) (fun h24 => ?_) (fun h24 => ?_)
      · refine b_bipush (v := (-2)) dX7_insult_34 (by decide) ?_
        refine b_iret dX7_insult_36 rfl ⟨?_, n, c, q, ?_⟩
        · simp only [R_insult, if_pos h6, if_neg (show ¬ isDayDeg d e from fun z => absurd z.2.1 (Int32.not_le.mpr h24))] <;> rfl
        · simp only [R_insult, if_pos h6, if_neg (show ¬ isDayDeg d e from fun z => absurd z.2.1 (Int32.not_le.mpr h24))] <;> exact hh
      · refine b_iload dX7_insult_27 rfl ?_
        refine b_bipush (v := 9) dX7_insult_29 (by decide) ?_
        refine b_icmp_le (tgt := 37) dX7_insult_31 (by decide) (fun h31 => ?_) (fun h31 => ?_)
        · refine b_aload_n dX7_insult_37 rfl ?_
          refine b_getr dX7_insult_38 gf_X7_23 rfl rfl ?_
          refine b_geti dX7_insult_41 gf_X7_80 rfl rfl ?_
          refine b_topi (y := nI c) ec ?_
          refine b_bipush (v := 8) dX7_insult_44 (by decide) ?_
          refine b_icmp_lt (tgt := 52) dX7_insult_46 (by decide) (fun h46 => ?_) (fun h46 => ?_)
          · have hc7 : c < 8 := nI_lt2 (by omega) h46
            have hnf : ¬ g.1 0 15 = 8 := fun z => by
              have := nI_inj (b := 8) (by omega) (by decide) (egc.symm.trans z); omega
            have hq3 := h6
            have hdd : isDayDeg d e := ⟨h15, Int32.not_lt.mp h24, h31⟩
            obtain ⟨hpa, hpb, hab⟩ := h6
            obtain ⟨aa, ha, rfl⟩ := pers_of hP hpa
            obtain ⟨bb, hb, rfl⟩ := pers_of hP hpb
            obtain ⟨dd, hd, rfl⟩ := day_of h15
            obtain ⟨ee, he1, he9, rfl⟩ := deg_of hdd.2
            refine b_aload_n dX7_insult_52 rfl ?_
            refine b_getr dX7_insult_53 gf_X7_23 rfl rfl ?_
            refine b_iload_n dX7_insult_56 rfl ?_
            refine b_iload_n dX7_insult_57 rfl ?_
            refine b_iload_n dX7_insult_58 rfl ?_
            refine b_iload dX7_insult_59 rfl ?_
            refine b_callV4 dX7_insult_61 lk_X7_117 rfl rfl rfl ⟨Nat.le_of_ble_eq_true rfl, Nat.le_of_ble_eq_true rfl⟩ (Nat.le_of_ble_eq_true rfl) (s_X0_add_6 (m := c) ec (by omega)) (fun r w61 h61 => ?_)
            obtain ⟨rfl, rfl⟩ := h61
            refine b_aload_n dX7_insult_64 rfl ?_
            refine b_getr dX7_insult_65 gf_X7_23 rfl rfl ?_
            refine b_geti dX7_insult_68 gf_X7_80 rfl rfl ?_
            refine b_iconst (v := 1) dX7_insult_71 (by decide) ?_
            refine b_isub dX7_insult_72 ?_
            refine b_iret dX7_insult_73 rfl ⟨?_, n, c + 1, q, ?_⟩
            · simp only [R_insult, if_pos hq3, if_pos hdd, if_neg hnf, dnc] <;> (rw [egc]; exact congrArg (fun x => some (Value.int x)) (Int32.add_sub_cancel _ _))
            · simp only [R_insult, if_pos hq3, if_pos hdd, if_neg hnf, dnc] <;> (rw [egc]; exact hh.ins hc7 ha hb (fun z => hab (by rw [z])) hd he1 he9)
          · have hfull : g.1 0 15 = 8 := by
              rw [egc, show c = 8 from by have := nI_ge2 h46; omega]; rfl
            refine b_bipush (v := (-4)) dX7_insult_49 (by decide) ?_
            refine b_iret dX7_insult_51 rfl ⟨?_, n, c, q, ?_⟩
            · simp only [R_insult, if_pos h6, if_pos (show isDayDeg d e from ⟨h15, Int32.not_lt.mp h24, h31⟩), if_pos hfull] <;> rfl
            · simp only [R_insult, if_pos h6, if_pos (show isDayDeg d e from ⟨h15, Int32.not_lt.mp h24, h31⟩), if_pos hfull] <;> exact hh
        · refine b_bipush (v := (-2)) dX7_insult_34 (by decide) ?_
          refine b_iret dX7_insult_36 rfl ⟨?_, n, c, q, ?_⟩
          · simp only [R_insult, if_pos h6, if_neg (show ¬ isDayDeg d e from fun z => h31 z.2.2)] <;> rfl
          · simp only [R_insult, if_pos h6, if_neg (show ¬ isDayDeg d e from fun z => h31 z.2.2)] <;> exact hh
    · refine b_if_eq (tgt := 34) dX7_insult_18 (by decide) (fun h18 => ?_) (fun h18 => absurd h18 (by decide))
      refine b_bipush (v := (-2)) dX7_insult_34 (by decide) ?_
      refine b_iret dX7_insult_36 rfl ⟨?_, n, c, q, ?_⟩
      · simp only [R_insult, if_pos h6, if_neg (show ¬ isDayDeg d e from fun z => h15 z.1)] <;> rfl
      · simp only [R_insult, if_pos h6, if_neg (show ¬ isDayDeg d e from fun z => h15 z.1)] <;> exact hh
  · refine b_if_ne (tgt := 14) dX7_insult_9 (by decide) (fun h9 => absurd h9 (by decide)) (fun h9 => ?_)
    refine b_iconst (v := (-1)) dX7_insult_12 (by decide) ?_
    refine b_iret dX7_insult_13 rfl ⟨?_, n, c, q, ?_⟩
    · simp only [R_insult, if_neg h6] <;> rfl
    · simp only [R_insult, if_neg h6] <;> exact hh
set_option maxRecDepth 100000 in
set_option maxHeartbeats 1000000 in
theorem s_X7_sorry {w g : kW} {n c q : Nat} (hh : Rel n c q w g) {k : Int32} : Spec shC yX7_sorry cX7_sorry 2 (some .int) 0 0 [.ref 0, .int k] w (fun r w' => RQ (R_sorry g k) r w') := by
  obtain ⟨hM, hRP, hRI, hRA, hRR, hRS, hRN⟩ := id hh
  obtain ⟨hP, hI, hc8, hRd, hu, hS⟩ := id hM
  have hn := hP.le
  have ec : w.1 6 0 = g.1 0 15 := hh.hc
  have eg : g.1 0 15 = nI c := hI.1
  refine k_enter pn_X7 (Nat.le_of_ble_eq_true rfl) ?_
  refine b_iload_n dX7_sorry_0 rfl ?_
  refine b_if_lt (tgt := 15) dX7_sorry_1 (by decide) (fun h1 => ?_) (fun h1 => ?_)
  · refine b_bipush (v := (-2)) dX7_sorry_15 (by decide) ?_
    refine b_iret dX7_sorry_17 rfl ⟨?_, n, c, q, ?_⟩
    · simp only [R_sorry, if_neg (show ¬ (0 ≤ k ∧ k ≤ g.1 0 15) from fun z => absurd z.1 (Int32.not_le.mpr h1))] <;> rfl
    · simp only [R_sorry, if_neg (show ¬ (0 ≤ k ∧ k ≤ g.1 0 15) from fun z => absurd z.1 (Int32.not_le.mpr h1))] <;> exact hh
  · refine b_iload_n dX7_sorry_4 rfl ?_
    refine b_aload_n dX7_sorry_5 rfl ?_
    refine b_getr dX7_sorry_6 gf_X7_23 rfl rfl ?_
    refine b_geti dX7_sorry_9 gf_X7_80 rfl rfl ?_
    refine b_topi (y := g.1 0 15) ec ?_
    refine b_icmp_le (tgt := 18) dX7_sorry_12 (by decide) (fun h12 => ?_) (fun h12 => ?_)
    · have hz : 0 ≤ k ∧ k ≤ g.1 0 15 := ⟨Int32.not_lt.mp h1, h12⟩
      obtain ⟨kk, hk, rfl⟩ := nle_of (l := c) (by have := hRd.2.1; omega) h1 (eg ▸ h12)
      have ed : g.1 0 15 - nI kk = nI (c - kk) := by rw [eg, nI_sub hk]
      refine b_aload_n dX7_sorry_18 rfl ?_
      refine b_getr dX7_sorry_19 gf_X7_23 rfl rfl ?_
      refine b_dup dX7_sorry_22 rfl ?_
      refine b_geti dX7_sorry_23 gf_X7_80 rfl rfl ?_
      refine b_topi (y := g.1 0 15) ec ?_
      refine b_iload_n dX7_sorry_26 rfl ?_
      refine b_isub dX7_sorry_27 ?_
      refine b_puti dX7_sorry_28 gf_X7_80 gs_X0_0 rfl rfl ?_
      refine b_aload_n dX7_sorry_31 rfl ?_
      refine b_getr dX7_sorry_32 gf_X7_23 rfl rfl ?_
      refine b_geti dX7_sorry_35 gf_X7_80 rfl rfl ?_
      refine b_iret dX7_sorry_38 rfl ⟨?_, n, c - kk, q, ?_⟩
      · simp only [R_sorry, if_pos hz] <;> rfl
      · simp only [R_sorry, if_pos hz] <;> (rw [ed]; exact hh.sor (by omega))
    · refine b_bipush (v := (-2)) dX7_sorry_15 (by decide) ?_
      refine b_iret dX7_sorry_17 rfl ⟨?_, n, c, q, ?_⟩
      · simp only [R_sorry, if_neg (show ¬ (0 ≤ k ∧ k ≤ g.1 0 15) from fun z => h12 z.2)] <;> rfl
      · simp only [R_sorry, if_neg (show ¬ (0 ≤ k ∧ k ≤ g.1 0 15) from fun z => h12 z.2)] <;> exact hh
