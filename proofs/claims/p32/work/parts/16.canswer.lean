theorem mAnswer_no {g : kW} {i j : Nat} {deg d : Int32} (h : ¬ mTouch g j ≤ deg) : mAnswer g i j deg d = g := by
  simp only [mAnswer, if_neg h]
theorem mAnswer_n1 {g : kW} {i j : Nat} {deg d : Int32} (h : mTouch g j ≤ deg) (h1 : mSec g j (nI i) (-9) d = none) : mAnswer g i j deg d = g := by
  simp only [mAnswer, if_pos h, h1]
theorem mAnswer_n2 {g : kW} {i j a : Nat} {deg d : Int32} (h : mTouch g j ≤ deg) (h1 : mSec g j (nI i) (-9) d = some a) (h2 : mSec g i (nI j) (nI a) d = none) : mAnswer g i j deg d = g := by
  simp only [mAnswer, if_pos h, h1, h2]
theorem mAnswer_y {g : kW} {i j a b : Nat} {deg d : Int32} (h : mTouch g j ≤ deg) (h1 : mSec g j (nI i) (-9) d = some a) (h2 : mSec g i (nI j) (nI a) d = some b) : mAnswer g i j deg d = mMeet g a b (nI j) (nI i) d := by
  simp only [mAnswer, if_pos h, h1, h2]
theorem nI_neq {a b : Nat} (ha : a < 2 ^ 31) (hb : b < 2 ^ 31) : ¬ nI a = nI b ↔ ¬ a = b := not_congr (nI_eq ha hb)
theorem sec1_eq {n i j : Nat} {d : Int32} {w g : kW} (hP : Pn n g) (hi : i < n) (hj : j < n) (hf : RF n d w g) : (mCh g j).find? (fun x => bt (w.1 15 10 &&& ((1 <<< (nI i &&& 31) ||| 1 <<< (nI j &&& 31)) ^^^ -1)) x) = mSec g j (nI i) (-9) d := by
  have hn := hP.le
  apply f_cg
  intro x hx
  have hl := mCh_lt hP hj hx
  rw [bt_off _ (by omega) (by omega) (by omega)]
  rw [Bool.eq_iff_iff, Bool.and_eq_true, hf x (by omega), decide_eq_true_eq]
  unfold mMay
  rw [nI_neq (by omega) (by omega), nI_neq (by omega) (by omega)]
  have h9 : ¬ nI x = -9 := nI_ne9 (by omega)
  simp only [h9, not_false_eq_true, true_and, Bool.not_eq_true', Bool.or_eq_false_iff, decide_eq_false_iff_not, hl]
  constructor
  · rintro ⟨h1, h2, h3⟩; exact ⟨h3, h2, h1⟩
  · rintro ⟨h1, h2, h3⟩; exact ⟨h3, h2, h1⟩
theorem sec2_eq {n i j a : Nat} {d : Int32} {w g : kW} (hP : Pn n g) (hi : i < n) (hj : j < n) (ha : a < n) (hf : RF n d w g) : (mCh g i).find? (fun x => bt (w.1 15 10 &&& ((1 <<< (nI i &&& 31) ||| 1 <<< (nI j &&& 31)) ^^^ -1) &&& (((1 : Int32) <<< (nI a &&& 31)) ^^^ -1)) x) = mSec g i (nI j) (nI a) d := by
  have hn := hP.le
  apply f_cg
  intro x hx
  have hl := mCh_lt hP hi hx
  rw [bt_off1 _ (by omega) (by omega), bt_off _ (by omega) (by omega) (by omega)]
  rw [Bool.eq_iff_iff, Bool.and_eq_true, Bool.and_eq_true, hf x (by omega), decide_eq_true_eq]
  unfold mMay
  rw [nI_neq (by omega) (by omega), nI_neq (by omega) (by omega), nI_neq (by omega) (by omega)]
  simp only [Bool.not_eq_true', Bool.or_eq_false_iff, decide_eq_false_iff_not, hl, true_and]
  constructor
  · rintro ⟨⟨h1, h2, h3⟩, h4⟩; exact ⟨h2, h3, h4, h1⟩
  · rintro ⟨h1, h2, h3, h4⟩; exact ⟨⟨h4, h1, h2⟩, h3⟩
theorem SInv.two {g : kW} {n m0 a b m t : Nat} (hS : SInv n m0 g) (hm0 : m0 ≤ 177) (ha : a < n) (hb : b < n) (hab : a ≠ b) (h1 : bt (g.1 0 22) a = false) (h2 : bt (g.1 0 22) b = false) (hm : g.1 0 28 = nI m) (ht : g.1 0 23 = nI t) (hm2 : m < 200) (ht2 : t < 200) : m < 180 ∧ t < 180 := by
  obtain ⟨hP, m', t', e1, e2, e3, e4, e5⟩ := hS
  have hn := hP.le
  have b0 := bs6_le (g.1 0 22)
  have q1 := nI_inj (by omega) (by omega) (e1.symm.trans hm)
  have q2 := nI_inj (by omega) (by omega) (e2.symm.trans ht)
  have b1 := bs6_two (by omega) (by omega) hab h1 h2
  have b2 := bs6_le (g.1 0 22 ||| (1 <<< (nI a &&& 31) ||| 1 <<< (nI b &&& 31)))
  omega
set_option maxRecDepth 100000 in
set_option maxHeartbeats 4000000 in
theorem s_X4_answer_6 {w g : kW} {n m0 i j k d : Nat} (hR : RP n w g) (hS : SInv n m0 g) (hm0 : m0 ≤ 177) (hL : RLg n w g) (hF : RF n (nI d) w g) (hk : k < 9) (hi : i < n) (hj : j < n) (ei : w.1 7 k = nI i) (ej : w.1 8 k = nI j) : Spec shC yX4_answer cX4_answer 10 none 2 52 [.ref 15, .ref 6, .int (nI k), .int (nI d)] w (fun r w' => r = none ∧ RLg n w' (mAnswer g i j (w.1 10 k) (nI d)) ∧ RF n (nI d) w' (mAnswer g i j (w.1 10 k) (nI d)) ∧ cKeep w w') := by
  have hn := hR.1.le
  obtain ⟨m, t, hm2, ht2, mg, mw, tg, tw, hb, hh⟩ := id hL
  obtain ⟨hh1, hh2, hh3, ehh⟩ := hR.1.2.2.1 j hj
  obtain ⟨kd, hkd, ekd⟩ := hR.1.2.2.2.2.2 j hj
  refine k_enter pn_X4 (Nat.le_of_ble_eq_true rfl) ?_
  refine b_aload_n dX4_answer_0 rfl ?_
  refine b_getr dX4_answer_1 gf_X4_96 rfl rfl ?_
  refine b_iload_n dX4_answer_4 rfl ?_
  refine b_ialdN dX4_answer_5 rfl ⟨by omega, by decide⟩ ?_
  refine b_topi (y := nI i) ei ?_
  refine b_istore dX4_answer_6 (by decide) ?_
  refine b_aload_n dX4_answer_8 rfl ?_
  refine b_getr dX4_answer_9 gf_X4_99 rfl rfl ?_
  refine b_iload_n dX4_answer_12 rfl ?_
  refine b_ialdN dX4_answer_13 rfl ⟨by omega, by decide⟩ ?_
  refine b_topi (y := nI j) ej ?_
  refine b_istore dX4_answer_14 (by decide) ?_
  refine b_aload_n dX4_answer_16 rfl ?_
  refine b_getr dX4_answer_17 gf_X4_102 rfl rfl ?_
  refine b_iload_n dX4_answer_20 rfl ?_
  refine b_ialdN dX4_answer_21 rfl ⟨by omega, by decide⟩ ?_
  refine b_aload_n dX4_answer_22 rfl ?_
  refine b_getr dX4_answer_23 gf_X4_31 rfl rfl ?_
  refine b_iload dX4_answer_26 rfl ?_
  refine b_callV1 dX4_answer_28 lk_X4_105 rfl rfl rfl ⟨Nat.le_of_ble_eq_true rfl, Nat.le_of_ble_eq_true rfl⟩ (Nat.le_of_ble_eq_true rfl) (s_X2_touchiness (by omega) hh2 hh3 hkd ((hR.2.2 j hj).2.1.trans ehh) ((hR.2.2 j hj).1.trans ekd)) (fun r w28 h28 => ?_)
  obtain ⟨rfl, rfl⟩ := h28
  refine b_topi (y := mTouch g j) (by rw [mTouch_c, ehh, ekd]) ?_
  refine b_icmp_ge (tgt := 35) dX4_answer_31 (by decide) (fun h31 => ?_) (fun h31 => ?_)
  · refine b_aload_n dX4_answer_35 rfl ?_
    refine b_geti dX4_answer_36 gf_X4_83 rfl rfl ?_
    refine b_iload dX4_answer_39 rfl ?_
    refine b_callSN1 dX4_answer_41 lk_X4_93 ⟨Nat.le_of_ble_eq_true rfl, Nat.le_of_ble_eq_true rfl⟩ (Nat.le_of_ble_eq_true rfl) (s_X7_bit) (fun r w41 h41 => ?_)
    obtain ⟨rfl, rfl⟩ := h41
    refine b_iload dX4_answer_44 rfl ?_
    refine b_callSN1 dX4_answer_46 lk_X4_93 ⟨Nat.le_of_ble_eq_true rfl, Nat.le_of_ble_eq_true rfl⟩ (Nat.le_of_ble_eq_true rfl) (s_X7_bit) (fun r w46 h46 => ?_)
    obtain ⟨rfl, rfl⟩ := h46
    refine b_ior dX4_answer_49 ?_
    refine b_iconst (v := (-1)) dX4_answer_50 (by decide) ?_
    refine b_ixor dX4_answer_51 ?_
    refine b_iand dX4_answer_52 ?_
    refine b_istore dX4_answer_53 (by decide) ?_
    refine b_aload_n dX4_answer_55 rfl ?_
    refine b_getr dX4_answer_56 gf_X4_31 rfl rfl ?_
    refine b_iload dX4_answer_59 rfl ?_
    refine b_iload dX4_answer_61 rfl ?_
    refine b_callV2 dX4_answer_63 lk_X4_108 rfl rfl rfl ⟨Nat.le_of_ble_eq_true rfl, Nat.le_of_ble_eq_true rfl⟩ (Nat.le_of_ble_eq_true rfl) (s_X2_secondAmong hR hj) (fun r w63 h63 => ?_)
    obtain ⟨rfl, rfl⟩ := h63
    rw [sec1_eq hR.1 hi hj hF]
    rcases hs63 : mSec g j (nI i) (-9) (nI d) with _ | a
    · refine b_topi (y := -9) rfl ?_
      refine b_istore dX4_answer_66 (by decide) ?_
      refine b_iload dX4_answer_68 rfl ?_
      refine b_bipush (v := (-9)) dX4_answer_70 (by decide) ?_
      refine b_icmp_ne (tgt := 76) dX4_answer_72 (by decide) (fun h72 => ?_) (fun h72 => ?_)
      · exact absurd rfl h72
      · refine b_vret dX4_answer_75 rfl ⟨rfl, ?_⟩
        rw [mAnswer_n1 h31 hs63]
        exact ⟨hL, hF, cKeep.rf⟩
    · have hs63b := mSec_some hR.1 hj hs63
      refine b_topi (y := nI a) rfl ?_
      refine b_istore dX4_answer_66 (by decide) ?_
      refine b_iload dX4_answer_68 rfl ?_
      refine b_bipush (v := (-9)) dX4_answer_70 (by decide) ?_
      refine b_icmp_ne (tgt := 76) dX4_answer_72 (by decide) (fun h72 => ?_) (fun h72 => ?_)
      · refine b_aload_n dX4_answer_76 rfl ?_
        refine b_getr dX4_answer_77 gf_X4_31 rfl rfl ?_
        refine b_iload dX4_answer_80 rfl ?_
        refine b_iload dX4_answer_82 rfl ?_
        refine b_iload dX4_answer_84 rfl ?_
        refine b_callSN1 dX4_answer_86 lk_X4_93 ⟨Nat.le_of_ble_eq_true rfl, Nat.le_of_ble_eq_true rfl⟩ (Nat.le_of_ble_eq_true rfl) (s_X7_bit) (fun r w86 h86 => ?_)
        obtain ⟨rfl, rfl⟩ := h86
        refine b_iconst (v := (-1)) dX4_answer_89 (by decide) ?_
        refine b_ixor dX4_answer_90 ?_
        refine b_iand dX4_answer_91 ?_
        refine b_callV2 dX4_answer_92 lk_X4_108 rfl rfl rfl ⟨Nat.le_of_ble_eq_true rfl, Nat.le_of_ble_eq_true rfl⟩ (Nat.le_of_ble_eq_true rfl) (s_X2_secondAmong hR hi) (fun r w92 h92 => ?_)
        obtain ⟨rfl, rfl⟩ := h92
        rw [sec2_eq hR.1 hi hj hs63b.1 hF]
        rcases hs92 : mSec g i (nI j) (nI a) (nI d) with _ | b
        · refine b_topi (y := -9) rfl ?_
          refine b_istore dX4_answer_95 (by decide) ?_
          refine b_iload dX4_answer_97 rfl ?_
          refine b_bipush (v := (-9)) dX4_answer_99 (by decide) ?_
          refine b_icmp_ne (tgt := 105) dX4_answer_101 (by decide) (fun h101 => ?_) (fun h101 => ?_)
          · exact absurd rfl h101
          · refine b_vret dX4_answer_104 rfl ⟨rfl, ?_⟩
            rw [mAnswer_n2 h31 hs63 hs92]
            exact ⟨hL, hF, cKeep.rf⟩
        · have hs92b := mSec_some hR.1 hi hs92
          obtain ⟨x, x1, x9, ex⟩ := hR.1.2.2.1 a hs63b.1
          obtain ⟨y, y1, y9, ey⟩ := hR.1.2.2.1 b hs92b.1
          have hab : a ≠ b := fun e => hs92b.2.2.2.1 (by rw [e])
          have hbs := SInv.two hS hm0 hs63b.1 hs92b.1 hab hs63b.2.2.2.2.2.2 hs92b.2.2.2.2.2.2 mg tg hm2 ht2
          refine b_topi (y := nI b) rfl ?_
          refine b_istore dX4_answer_95 (by decide) ?_
          refine b_iload dX4_answer_97 rfl ?_
          refine b_bipush (v := (-9)) dX4_answer_99 (by decide) ?_
          refine b_icmp_ne (tgt := 105) dX4_answer_101 (by decide) (fun h101 => ?_) (fun h101 => ?_)
          · refine b_aload_n dX4_answer_105 rfl ?_
            refine b_dup dX4_answer_106 rfl ?_
            refine b_geti dX4_answer_107 gf_X4_83 rfl rfl ?_
            refine b_iload dX4_answer_110 rfl ?_
            refine b_callSN1 dX4_answer_112 lk_X4_93 ⟨Nat.le_of_ble_eq_true rfl, Nat.le_of_ble_eq_true rfl⟩ (Nat.le_of_ble_eq_true rfl) (s_X7_bit) (fun r w112 h112 => ?_)
            obtain ⟨rfl, rfl⟩ := h112
            refine b_iload dX4_answer_115 rfl ?_
            refine b_callSN1 dX4_answer_117 lk_X4_93 ⟨Nat.le_of_ble_eq_true rfl, Nat.le_of_ble_eq_true rfl⟩ (Nat.le_of_ble_eq_true rfl) (s_X7_bit) (fun r w117 h117 => ?_)
            obtain ⟨rfl, rfl⟩ := h117
            refine b_ior dX4_answer_120 ?_
            refine b_iconst (v := (-1)) dX4_answer_121 (by decide) ?_
            refine b_ixor dX4_answer_122 ?_
            refine b_iand dX4_answer_123 ?_
            refine b_puti dX4_answer_124 gf_X4_83 gs_X4_10 rfl rfl ?_
            refine b_aload_n dX4_answer_127 rfl ?_
            refine b_iload dX4_answer_128 rfl ?_
            refine b_iload dX4_answer_130 rfl ?_
            refine b_iload_n dX4_answer_132 rfl ?_
            refine b_callV3 dX4_answer_133 lk_X4_112 rfl rfl rfl ⟨Nat.le_of_ble_eq_true rfl, Nat.le_of_ble_eq_true rfl⟩ (Nat.le_of_ble_eq_true rfl) (s_X4_shoot (a := a) (b := b) (x := x) (y := y) (t := t) (by omega) (by omega) x9 y9 (((hR.2.2 a hs63b.1).2.1).trans ex) (((hR.2.2 b hs92b.1).2.1).trans ey) tw hbs.2) (fun r w133 h133 => ?_)
            obtain ⟨rfl, rfl⟩ := h133
            refine b_istore dX4_answer_136 (by decide) ?_
            refine b_aload_n dX4_answer_138 rfl ?_
            refine b_getr dX4_answer_139 gf_X4_12 rfl rfl ?_
            refine b_iload_n dX4_answer_142 rfl ?_
            refine b_iload dX4_answer_143 rfl ?_
            refine b_iload dX4_answer_145 rfl ?_
            refine b_iload dX4_answer_147 rfl ?_
            refine b_iload dX4_answer_149 rfl ?_
            refine b_iload dX4_answer_151 rfl ?_
            refine b_callV6 dX4_answer_153 lk_X4_116 rfl rfl rfl ⟨Nat.le_of_ble_eq_true rfl, Nat.le_of_ble_eq_true rfl⟩ (Nat.le_of_ble_eq_true rfl) (s_X1_add (m := m) ((cMeet_16 ..).trans mw) hbs.1) (fun r w153 h153 => ?_)
            obtain ⟨rfl, rfl⟩ := h153
            refine b_vret dX4_answer_156 rfl ⟨rfl, ?_⟩
            rw [mAnswer_y h31 hs63 hs92]
            exact cMeet_rel hR.1 hs63b.1 hs92b.1 hab x9 y9 ex ey (fun p hp => (hR.2.2 p hp).2.1) (fun p hp => (hR.2.2 p hp).2.2.1) mg (by omega) tg tw (by omega) hb hh hF
          · exact absurd h101 (nI_ne9 (by omega))
      · exact absurd h72 (nI_ne9 (by omega))
  · refine b_vret dX4_answer_34 rfl ⟨rfl, ?_⟩
    rw [mAnswer_no h31]
    exact ⟨hL, hF, cKeep.rf⟩
set_option maxRecDepth 100000 in
set_option maxHeartbeats 4000000 in
theorem s_X4_answer_24 {w g : kW} {n m0 i j k d : Nat} (hR : RP n w g) (hS : SInv n m0 g) (hm0 : m0 ≤ 177) (hL : RLg n w g) (hF : RF n (nI d) w g) (hk : k < 180) (hi : i < n) (hj : j < n) (ei : w.1 25 k = nI i) (ej : w.1 26 k = nI j) : Spec shC yX4_answer cX4_answer 10 none 2 52 [.ref 15, .ref 24, .int (nI k), .int (nI d)] w (fun r w' => r = none ∧ RLg n w' (mAnswer g i j (w.1 28 k) (nI d)) ∧ RF n (nI d) w' (mAnswer g i j (w.1 28 k) (nI d)) ∧ cKeep w w') := by
  have hn := hR.1.le
  obtain ⟨m, t, hm2, ht2, mg, mw, tg, tw, hb, hh⟩ := id hL
  obtain ⟨hh1, hh2, hh3, ehh⟩ := hR.1.2.2.1 j hj
  obtain ⟨kd, hkd, ekd⟩ := hR.1.2.2.2.2.2 j hj
  refine k_enter pn_X4 (Nat.le_of_ble_eq_true rfl) ?_
  refine b_aload_n dX4_answer_0 rfl ?_
  refine b_getr dX4_answer_1 gf_X4_96 rfl rfl ?_
  refine b_iload_n dX4_answer_4 rfl ?_
  refine b_ialdN dX4_answer_5 rfl ⟨by omega, by decide⟩ ?_
  refine b_topi (y := nI i) ei ?_
  refine b_istore dX4_answer_6 (by decide) ?_
  refine b_aload_n dX4_answer_8 rfl ?_
  refine b_getr dX4_answer_9 gf_X4_99 rfl rfl ?_
  refine b_iload_n dX4_answer_12 rfl ?_
  refine b_ialdN dX4_answer_13 rfl ⟨by omega, by decide⟩ ?_
  refine b_topi (y := nI j) ej ?_
  refine b_istore dX4_answer_14 (by decide) ?_
  refine b_aload_n dX4_answer_16 rfl ?_
  refine b_getr dX4_answer_17 gf_X4_102 rfl rfl ?_
  refine b_iload_n dX4_answer_20 rfl ?_
  refine b_ialdN dX4_answer_21 rfl ⟨by omega, by decide⟩ ?_
  refine b_aload_n dX4_answer_22 rfl ?_
  refine b_getr dX4_answer_23 gf_X4_31 rfl rfl ?_
  refine b_iload dX4_answer_26 rfl ?_
  refine b_callV1 dX4_answer_28 lk_X4_105 rfl rfl rfl ⟨Nat.le_of_ble_eq_true rfl, Nat.le_of_ble_eq_true rfl⟩ (Nat.le_of_ble_eq_true rfl) (s_X2_touchiness (by omega) hh2 hh3 hkd ((hR.2.2 j hj).2.1.trans ehh) ((hR.2.2 j hj).1.trans ekd)) (fun r w28 h28 => ?_)
  obtain ⟨rfl, rfl⟩ := h28
  refine b_topi (y := mTouch g j) (by rw [mTouch_c, ehh, ekd]) ?_
  refine b_icmp_ge (tgt := 35) dX4_answer_31 (by decide) (fun h31 => ?_) (fun h31 => ?_)
  · refine b_aload_n dX4_answer_35 rfl ?_
    refine b_geti dX4_answer_36 gf_X4_83 rfl rfl ?_
    refine b_iload dX4_answer_39 rfl ?_
    refine b_callSN1 dX4_answer_41 lk_X4_93 ⟨Nat.le_of_ble_eq_true rfl, Nat.le_of_ble_eq_true rfl⟩ (Nat.le_of_ble_eq_true rfl) (s_X7_bit) (fun r w41 h41 => ?_)
    obtain ⟨rfl, rfl⟩ := h41
    refine b_iload dX4_answer_44 rfl ?_
    refine b_callSN1 dX4_answer_46 lk_X4_93 ⟨Nat.le_of_ble_eq_true rfl, Nat.le_of_ble_eq_true rfl⟩ (Nat.le_of_ble_eq_true rfl) (s_X7_bit) (fun r w46 h46 => ?_)
    obtain ⟨rfl, rfl⟩ := h46
    refine b_ior dX4_answer_49 ?_
    refine b_iconst (v := (-1)) dX4_answer_50 (by decide) ?_
    refine b_ixor dX4_answer_51 ?_
    refine b_iand dX4_answer_52 ?_
    refine b_istore dX4_answer_53 (by decide) ?_
    refine b_aload_n dX4_answer_55 rfl ?_
    refine b_getr dX4_answer_56 gf_X4_31 rfl rfl ?_
    refine b_iload dX4_answer_59 rfl ?_
    refine b_iload dX4_answer_61 rfl ?_
    refine b_callV2 dX4_answer_63 lk_X4_108 rfl rfl rfl ⟨Nat.le_of_ble_eq_true rfl, Nat.le_of_ble_eq_true rfl⟩ (Nat.le_of_ble_eq_true rfl) (s_X2_secondAmong hR hj) (fun r w63 h63 => ?_)
    obtain ⟨rfl, rfl⟩ := h63
    rw [sec1_eq hR.1 hi hj hF]
    rcases hs63 : mSec g j (nI i) (-9) (nI d) with _ | a
    · refine b_topi (y := -9) rfl ?_
      refine b_istore dX4_answer_66 (by decide) ?_
      refine b_iload dX4_answer_68 rfl ?_
      refine b_bipush (v := (-9)) dX4_answer_70 (by decide) ?_
      refine b_icmp_ne (tgt := 76) dX4_answer_72 (by decide) (fun h72 => ?_) (fun h72 => ?_)
      · exact absurd rfl h72
      · refine b_vret dX4_answer_75 rfl ⟨rfl, ?_⟩
        rw [mAnswer_n1 h31 hs63]
        exact ⟨hL, hF, cKeep.rf⟩
    · have hs63b := mSec_some hR.1 hj hs63
      refine b_topi (y := nI a) rfl ?_
      refine b_istore dX4_answer_66 (by decide) ?_
      refine b_iload dX4_answer_68 rfl ?_
      refine b_bipush (v := (-9)) dX4_answer_70 (by decide) ?_
      refine b_icmp_ne (tgt := 76) dX4_answer_72 (by decide) (fun h72 => ?_) (fun h72 => ?_)
      · refine b_aload_n dX4_answer_76 rfl ?_
        refine b_getr dX4_answer_77 gf_X4_31 rfl rfl ?_
        refine b_iload dX4_answer_80 rfl ?_
        refine b_iload dX4_answer_82 rfl ?_
        refine b_iload dX4_answer_84 rfl ?_
        refine b_callSN1 dX4_answer_86 lk_X4_93 ⟨Nat.le_of_ble_eq_true rfl, Nat.le_of_ble_eq_true rfl⟩ (Nat.le_of_ble_eq_true rfl) (s_X7_bit) (fun r w86 h86 => ?_)
        obtain ⟨rfl, rfl⟩ := h86
        refine b_iconst (v := (-1)) dX4_answer_89 (by decide) ?_
        refine b_ixor dX4_answer_90 ?_
        refine b_iand dX4_answer_91 ?_
        refine b_callV2 dX4_answer_92 lk_X4_108 rfl rfl rfl ⟨Nat.le_of_ble_eq_true rfl, Nat.le_of_ble_eq_true rfl⟩ (Nat.le_of_ble_eq_true rfl) (s_X2_secondAmong hR hi) (fun r w92 h92 => ?_)
        obtain ⟨rfl, rfl⟩ := h92
        rw [sec2_eq hR.1 hi hj hs63b.1 hF]
        rcases hs92 : mSec g i (nI j) (nI a) (nI d) with _ | b
        · refine b_topi (y := -9) rfl ?_
          refine b_istore dX4_answer_95 (by decide) ?_
          refine b_iload dX4_answer_97 rfl ?_
          refine b_bipush (v := (-9)) dX4_answer_99 (by decide) ?_
          refine b_icmp_ne (tgt := 105) dX4_answer_101 (by decide) (fun h101 => ?_) (fun h101 => ?_)
          · exact absurd rfl h101
          · refine b_vret dX4_answer_104 rfl ⟨rfl, ?_⟩
            rw [mAnswer_n2 h31 hs63 hs92]
            exact ⟨hL, hF, cKeep.rf⟩
        · have hs92b := mSec_some hR.1 hi hs92
          obtain ⟨x, x1, x9, ex⟩ := hR.1.2.2.1 a hs63b.1
          obtain ⟨y, y1, y9, ey⟩ := hR.1.2.2.1 b hs92b.1
          have hab : a ≠ b := fun e => hs92b.2.2.2.1 (by rw [e])
          have hbs := SInv.two hS hm0 hs63b.1 hs92b.1 hab hs63b.2.2.2.2.2.2 hs92b.2.2.2.2.2.2 mg tg hm2 ht2
          refine b_topi (y := nI b) rfl ?_
          refine b_istore dX4_answer_95 (by decide) ?_
          refine b_iload dX4_answer_97 rfl ?_
          refine b_bipush (v := (-9)) dX4_answer_99 (by decide) ?_
          refine b_icmp_ne (tgt := 105) dX4_answer_101 (by decide) (fun h101 => ?_) (fun h101 => ?_)
          · refine b_aload_n dX4_answer_105 rfl ?_
            refine b_dup dX4_answer_106 rfl ?_
            refine b_geti dX4_answer_107 gf_X4_83 rfl rfl ?_
            refine b_iload dX4_answer_110 rfl ?_
            refine b_callSN1 dX4_answer_112 lk_X4_93 ⟨Nat.le_of_ble_eq_true rfl, Nat.le_of_ble_eq_true rfl⟩ (Nat.le_of_ble_eq_true rfl) (s_X7_bit) (fun r w112 h112 => ?_)
            obtain ⟨rfl, rfl⟩ := h112
            refine b_iload dX4_answer_115 rfl ?_
            refine b_callSN1 dX4_answer_117 lk_X4_93 ⟨Nat.le_of_ble_eq_true rfl, Nat.le_of_ble_eq_true rfl⟩ (Nat.le_of_ble_eq_true rfl) (s_X7_bit) (fun r w117 h117 => ?_)
            obtain ⟨rfl, rfl⟩ := h117
            refine b_ior dX4_answer_120 ?_
            refine b_iconst (v := (-1)) dX4_answer_121 (by decide) ?_
            refine b_ixor dX4_answer_122 ?_
            refine b_iand dX4_answer_123 ?_
            refine b_puti dX4_answer_124 gf_X4_83 gs_X4_10 rfl rfl ?_
            refine b_aload_n dX4_answer_127 rfl ?_
            refine b_iload dX4_answer_128 rfl ?_
            refine b_iload dX4_answer_130 rfl ?_
            refine b_iload_n dX4_answer_132 rfl ?_
            refine b_callV3 dX4_answer_133 lk_X4_112 rfl rfl rfl ⟨Nat.le_of_ble_eq_true rfl, Nat.le_of_ble_eq_true rfl⟩ (Nat.le_of_ble_eq_true rfl) (s_X4_shoot (a := a) (b := b) (x := x) (y := y) (t := t) (by omega) (by omega) x9 y9 (((hR.2.2 a hs63b.1).2.1).trans ex) (((hR.2.2 b hs92b.1).2.1).trans ey) tw hbs.2) (fun r w133 h133 => ?_)
            obtain ⟨rfl, rfl⟩ := h133
            refine b_istore dX4_answer_136 (by decide) ?_
            refine b_aload_n dX4_answer_138 rfl ?_
            refine b_getr dX4_answer_139 gf_X4_12 rfl rfl ?_
            refine b_iload_n dX4_answer_142 rfl ?_
            refine b_iload dX4_answer_143 rfl ?_
            refine b_iload dX4_answer_145 rfl ?_
            refine b_iload dX4_answer_147 rfl ?_
            refine b_iload dX4_answer_149 rfl ?_
            refine b_iload dX4_answer_151 rfl ?_
            refine b_callV6 dX4_answer_153 lk_X4_116 rfl rfl rfl ⟨Nat.le_of_ble_eq_true rfl, Nat.le_of_ble_eq_true rfl⟩ (Nat.le_of_ble_eq_true rfl) (s_X1_add (m := m) ((cMeet_16 ..).trans mw) hbs.1) (fun r w153 h153 => ?_)
            obtain ⟨rfl, rfl⟩ := h153
            refine b_vret dX4_answer_156 rfl ⟨rfl, ?_⟩
            rw [mAnswer_y h31 hs63 hs92]
            exact cMeet_rel hR.1 hs63b.1 hs92b.1 hab x9 y9 ex ey (fun p hp => (hR.2.2 p hp).2.1) (fun p hp => (hR.2.2 p hp).2.2.1) mg (by omega) tg tw (by omega) hb hh hF
          · exact absurd h101 (nI_ne9 (by omega))
      · exact absurd h72 (nI_ne9 (by omega))
  · refine b_vret dX4_answer_34 rfl ⟨rfl, ?_⟩
    rw [mAnswer_no h31]
    exact ⟨hL, hF, cKeep.rf⟩
