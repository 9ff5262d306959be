theorem mSec_some {w : kW} {n p a : Nat} {other no dawn : Int32} (hP : Pn n w) (hp : p < n) (h : mSec w p other no dawn = some a) : a < n ∧ mMay w a (nI p) other no dawn := by
  have h1 := List.mem_of_find?_eq_some h
  have h2 := List.find?_some h
  refine ⟨?_, of_decide_eq_true h2⟩
  have hn := hP.le
  have g1 := (hP.frd (k := 2 * p) (by omega)).1
  have g2 := (hP.frd (k := 2 * p + 1) (by omega)).1
  simp only [mCh, List.mem_cons, List.not_mem_nil, or_false] at h1
  rcases h1 with rfl | rfl | rfl | rfl | rfl | rfl
  · exact g1
  · exact g2
  · exact (hP.frd (by omega)).1
  · exact (hP.frd (by omega)).1
  · exact (hP.frd (by omega)).1
  · exact (hP.frd (by omega)).1
theorem mHurtF_met (w : kW) (hu y : Nat) (dawn : Int32) : (mHurtF w hu y dawn).1 0 28 = w.1 0 28 := by
  simp only [mHurtF]
  split <;> rfl

set_option maxRecDepth 100000 in
set_option maxHeartbeats 4000000 in
theorem s_X8_hurt {w : kW} {hu y t : Nat} {dawn : Int32} (hh : hu < 6) (hy : y < 6) (ht : w.1 0 23 = nI t) (ht2 : t < 200) : Spec shM yX8_hurt cX8_hurt 5 none 0 0 [.ref 0, .int (nI hu), .int (nI y), .int dawn] w (fun r w' => r = none ∧ mHurtF w hu y dawn = w') := by
  have ht3 := cl_of ht (by omega)
  refine k_enter pn_X8 (Nat.le_of_ble_eq_true rfl) ?_
  refine b_aload_n dX8_hurt_0 rfl ?_
  refine b_getr dX8_hurt_1 gf_X8_22 rfl rfl ?_
  refine b_iload_n dX8_hurt_4 rfl ?_
  refine b_ialdN dX8_hurt_5 rfl ⟨by omega, by decide⟩ ?_
  refine b_aload_n dX8_hurt_6 rfl ?_
  refine b_getr dX8_hurt_7 gf_X8_22 rfl rfl ?_
  refine b_iload_n dX8_hurt_10 rfl ?_
  refine b_ialdN dX8_hurt_11 rfl ⟨by omega, by decide⟩ ?_
  refine b_isub dX8_hurt_12 ?_
  refine b_istore dX8_hurt_13 (by decide) ?_
  refine b_aload_n dX8_hurt_15 rfl ?_
  refine b_getr dX8_hurt_16 gf_X8_53 rfl rfl ?_
  refine b_iload_n dX8_hurt_19 rfl ?_
  refine b_iload_n dX8_hurt_20 rfl ?_
  refine b_iload dX8_hurt_21 rfl ?_
  refine b_iadd dX8_hurt_23 ?_
  refine b_iconst (v := 2) dX8_hurt_24 (by decide) ?_
  refine b_iadd dX8_hurt_25 ?_
  refine b_iastN dX8_hurt_26 rfl ⟨by omega, by decide⟩ ?_
  refine b_aload_n dX8_hurt_27 rfl ?_
  refine b_getr dX8_hurt_28 gf_X8_25 rfl rfl ?_
  refine b_iconst (v := 2) dX8_hurt_31 (by decide) ?_
  refine b_iload_n dX8_hurt_32 rfl ?_
  refine b_imul dX8_hurt_33 ?_
  refine b_topi (y := nI (2 * hu)) (nI_two _) ?_
  refine b_ialdN dX8_hurt_34 rfl ⟨by omega, by decide⟩ ?_
  refine b_topi (y := w.1 6 (2 * hu)) rfl ?_
  refine b_iload_n dX8_hurt_35 rfl ?_
  refine b_icmp_eq (tgt := 97) dX8_hurt_36 (by decide) (fun h36 => ?_) (fun h36 => ?_)
  · refine b_vret dX8_hurt_97 rfl ⟨rfl, ?_⟩
    simp only [mHurtF, ht3, if_pos h36] <;> rfl
  · refine b_aload_n dX8_hurt_39 rfl ?_
    refine b_getr dX8_hurt_40 gf_X8_56 rfl rfl ?_
    refine b_aload_n dX8_hurt_43 rfl ?_
    refine b_geti dX8_hurt_44 gf_X8_172 rfl rfl ?_
    refine b_topi (y := nI t) ht ?_
    refine b_iload_n dX8_hurt_47 rfl ?_
    refine b_iastN dX8_hurt_48 rfl ⟨by omega, by decide⟩ ?_
    refine b_aload_n dX8_hurt_49 rfl ?_
    refine b_getr dX8_hurt_50 gf_X8_59 rfl rfl ?_
    refine b_aload_n dX8_hurt_53 rfl ?_
    refine b_geti dX8_hurt_54 gf_X8_172 rfl rfl ?_
    refine b_topi (y := nI t) ht ?_
    refine b_aload_n dX8_hurt_57 rfl ?_
    refine b_getr dX8_hurt_58 gf_X8_25 rfl rfl ?_
    refine b_iconst (v := 2) dX8_hurt_61 (by decide) ?_
    refine b_iload_n dX8_hurt_62 rfl ?_
    refine b_imul dX8_hurt_63 ?_
    refine b_topi (y := nI (2 * hu)) (nI_two _) ?_
    refine b_ialdN dX8_hurt_64 rfl ⟨by omega, by decide⟩ ?_
    refine b_iastN dX8_hurt_65 rfl ⟨by omega, by decide⟩ ?_
    refine b_aload_n dX8_hurt_66 rfl ?_
    refine b_getr dX8_hurt_67 gf_X8_62 rfl rfl ?_
    refine b_aload_n dX8_hurt_70 rfl ?_
    refine b_geti dX8_hurt_71 gf_X8_172 rfl rfl ?_
    refine b_topi (y := nI t) ht ?_
    refine b_iload dX8_hurt_74 rfl ?_
    refine b_iastN dX8_hurt_76 rfl ⟨by omega, by decide⟩ ?_
    refine b_aload_n dX8_hurt_77 rfl ?_
    refine b_getr dX8_hurt_78 gf_X8_65 rfl rfl ?_
    refine b_aload_n dX8_hurt_81 rfl ?_
    refine b_geti dX8_hurt_82 gf_X8_172 rfl rfl ?_
    refine b_topi (y := nI t) ht ?_
    refine b_iload_n dX8_hurt_85 rfl ?_
    refine b_iastN dX8_hurt_86 rfl ⟨by omega, by decide⟩ ?_
    refine b_aload_n dX8_hurt_87 rfl ?_
    refine b_dup dX8_hurt_88 rfl ?_
    refine b_geti dX8_hurt_89 gf_X8_172 rfl rfl ?_
    refine b_iconst (v := 1) dX8_hurt_92 (by decide) ?_
    refine b_iadd dX8_hurt_93 ?_
    refine b_puti dX8_hurt_94 gf_X8_172 gs_X8_23 rfl rfl ?_
    refine b_vret dX8_hurt_97 rfl ⟨rfl, ?_⟩
    simp only [mHurtF, ht3, if_neg h36] <;> rfl

set_option maxRecDepth 100000 in
set_option maxHeartbeats 4000000 in
theorem s_X8_meet {w : kW} {a b t m : Nat} {insd insr dawn : Int32} (ha : a < 6) (hb : b < 6) (hab : a ≠ b) (hm : w.1 0 28 = nI m) (hm2 : m < 200) (ht : w.1 0 23 = nI t) (ht2 : t < 200) : Spec shM yX8_meet cX8_meet 7 none 1 24 [.ref 0, .int (nI a), .int (nI b), .int insd, .int insr, .int dawn] w (fun r w' => r = none ∧ mMeet w a b insd insr dawn = w') := by
  have hm3 := cl_of hm (by omega)
  refine k_enter pn_X8 (Nat.le_of_ble_eq_true rfl) ?_
  refine b_aload_n dX8_meet_0 rfl ?_
  refine b_dup dX8_meet_1 rfl ?_
  refine b_geti dX8_meet_2 gf_X8_155 rfl rfl ?_
  refine b_iconst (v := 1) dX8_meet_5 (by decide) ?_
  refine b_iload_n dX8_meet_6 rfl ?_
  refine b_ishl dX8_meet_7 ?_
  refine b_iconst (v := 1) dX8_meet_8 (by decide) ?_
  refine b_iload_n dX8_meet_9 rfl ?_
  refine b_ishl dX8_meet_10 ?_
  refine b_ior dX8_meet_11 ?_
  refine b_ior dX8_meet_12 ?_
  refine b_puti dX8_meet_13 gf_X8_155 gs_X8_22 rfl rfl ?_
  refine b_aload_n dX8_meet_16 rfl ?_
  refine b_getr dX8_meet_17 gf_X8_68 rfl rfl ?_
  refine b_aload_n dX8_meet_20 rfl ?_
  refine b_geti dX8_meet_21 gf_X8_165 rfl rfl ?_
  refine b_topi (y := nI m) hm ?_
  refine b_iload dX8_meet_24 rfl ?_
  refine b_iastN dX8_meet_26 rfl ⟨by omega, by decide⟩ ?_
  refine b_aload_n dX8_meet_27 rfl ?_
  refine b_getr dX8_meet_28 gf_X8_71 rfl rfl ?_
  refine b_aload_n dX8_meet_31 rfl ?_
  refine b_geti dX8_meet_32 gf_X8_165 rfl rfl ?_
  refine b_topi (y := nI m) hm ?_
  refine b_iload_n dX8_meet_35 rfl ?_
  refine b_iastN dX8_meet_36 rfl ⟨by omega, by decide⟩ ?_
  refine b_aload_n dX8_meet_37 rfl ?_
  refine b_getr dX8_meet_38 gf_X8_74 rfl rfl ?_
  refine b_aload_n dX8_meet_41 rfl ?_
  refine b_geti dX8_meet_42 gf_X8_165 rfl rfl ?_
  refine b_topi (y := nI m) hm ?_
  refine b_iload_n dX8_meet_45 rfl ?_
  refine b_iastN dX8_meet_46 rfl ⟨by omega, by decide⟩ ?_
  refine b_aload_n dX8_meet_47 rfl ?_
  refine b_getr dX8_meet_48 gf_X8_77 rfl rfl ?_
  refine b_aload_n dX8_meet_51 rfl ?_
  refine b_geti dX8_meet_52 gf_X8_165 rfl rfl ?_
  refine b_topi (y := nI m) hm ?_
  refine b_iload_n dX8_meet_55 rfl ?_
  refine b_iastN dX8_meet_56 rfl ⟨by omega, by decide⟩ ?_
  refine b_aload_n dX8_meet_57 rfl ?_
  refine b_getr dX8_meet_58 gf_X8_80 rfl rfl ?_
  refine b_aload_n dX8_meet_61 rfl ?_
  refine b_geti dX8_meet_62 gf_X8_165 rfl rfl ?_
  refine b_topi (y := nI m) hm ?_
  refine b_iload dX8_meet_65 rfl ?_
  refine b_iastN dX8_meet_67 rfl ⟨by omega, by decide⟩ ?_
  refine b_aload_n dX8_meet_68 rfl ?_
  refine b_getr dX8_meet_69 gf_X8_83 rfl rfl ?_
  refine b_aload_n dX8_meet_72 rfl ?_
  refine b_geti dX8_meet_73 gf_X8_165 rfl rfl ?_
  refine b_topi (y := nI m) hm ?_
  refine b_bipush (v := (-9)) dX8_meet_76 (by decide) ?_
  refine b_iastN dX8_meet_78 rfl ⟨by omega, by decide⟩ ?_
  refine b_aload_n dX8_meet_79 rfl ?_
  refine b_getr dX8_meet_80 gf_X8_22 rfl rfl ?_
  refine b_iload_n dX8_meet_83 rfl ?_
  refine b_ialdN dX8_meet_84 rfl ⟨by omega, by decide⟩ ?_
  refine b_topi (y := w.1 5 a) rfl ?_
  refine b_aload_n dX8_meet_85 rfl ?_
  refine b_getr dX8_meet_86 gf_X8_22 rfl rfl ?_
  refine b_iload_n dX8_meet_89 rfl ?_
  refine b_ialdN dX8_meet_90 rfl ⟨by omega, by decide⟩ ?_
  refine b_topi (y := w.1 5 b) rfl ?_
  refine b_icmp_eq (tgt := 146) dX8_meet_91 (by decide) (fun h91 => ?_) (fun h91 => ?_)
  · refine b_aload_n dX8_meet_146 rfl ?_
    refine b_dup dX8_meet_147 rfl ?_
    refine b_geti dX8_meet_148 gf_X8_165 rfl rfl ?_
    refine b_iconst (v := 1) dX8_meet_151 (by decide) ?_
    refine b_iadd dX8_meet_152 ?_
    refine b_puti dX8_meet_153 gf_X8_165 gs_X8_28 rfl rfl ?_
    refine b_vret dX8_meet_156 rfl ⟨rfl, ?_⟩
    simp only [mMeet, mMeet0, hm3, if_pos h91] <;> rfl
  · refine b_aload_n dX8_meet_94 rfl ?_
    refine b_getr dX8_meet_95 gf_X8_22 rfl rfl ?_
    refine b_iload_n dX8_meet_98 rfl ?_
    refine b_ialdN dX8_meet_99 rfl ⟨by omega, by decide⟩ ?_
    refine b_topi (y := w.1 5 a) rfl ?_
    refine b_aload_n dX8_meet_100 rfl ?_
    refine b_getr dX8_meet_101 gf_X8_22 rfl rfl ?_
    refine b_iload_n dX8_meet_104 rfl ?_
    refine b_ialdN dX8_meet_105 rfl ⟨by omega, by decide⟩ ?_
    refine b_topi (y := w.1 5 b) rfl ?_
    refine b_icmp_ge (tgt := 113) dX8_meet_106 (by decide) (fun h106 => ?_) (fun h106 => ?_)
    · refine b_iload_n dX8_meet_113 rfl ?_
      refine b_istore dX8_meet_114 (by decide) ?_
      refine b_aload_n dX8_meet_116 rfl ?_
      refine b_iload dX8_meet_117 rfl ?_
      refine b_iload dX8_meet_119 rfl ?_
      refine b_iload_n dX8_meet_121 rfl ?_
      refine b_icmp_ne (tgt := 129) dX8_meet_122 (by decide) (fun h122 => ?_) (fun h122 => ?_)
      · refine b_iload_n dX8_meet_129 rfl ?_
        refine b_iload dX8_meet_130 rfl ?_
        refine b_callV3 dX8_meet_132 lk_X8_168 rfl rfl rfl ⟨Nat.le_of_ble_eq_true rfl, Nat.le_of_ble_eq_true rfl⟩ (Nat.le_of_ble_eq_true rfl) (s_X8_hurt (t := t) (by omega) (by omega) ht ht2) (fun r w132 h132 => ?_)
        obtain ⟨rfl, rfl⟩ := h132
        refine b_aload_n dX8_meet_135 rfl ?_
        refine b_getr dX8_meet_136 gf_X8_83 rfl rfl ?_
        refine b_aload_n dX8_meet_139 rfl ?_
        refine b_geti dX8_meet_140 gf_X8_165 rfl rfl ?_
        refine b_topi (y := nI m) ((mHurtF_met _ _ _ _).trans hm) ?_
        refine b_iload dX8_meet_143 rfl ?_
        refine b_iastN dX8_meet_145 rfl ⟨by omega, by decide⟩ ?_
        refine b_aload_n dX8_meet_146 rfl ?_
        refine b_dup dX8_meet_147 rfl ?_
        refine b_geti dX8_meet_148 gf_X8_165 rfl rfl ?_
        refine b_iconst (v := 1) dX8_meet_151 (by decide) ?_
        refine b_iadd dX8_meet_152 ?_
        refine b_puti dX8_meet_153 gf_X8_165 gs_X8_28 rfl rfl ?_
        refine b_vret dX8_meet_156 rfl ⟨rfl, ?_⟩
        simp only [mMeet, mMeet0, hm3, if_neg h91, if_pos h106] <;> rfl
      · exact absurd (nI_inj (by omega) (by omega) h122) (by omega)
    · refine b_iload_n dX8_meet_109 rfl ?_
      refine b_goto (tgt := 114) dX8_meet_110 (by decide) ?_
      refine b_istore dX8_meet_114 (by decide) ?_
      refine b_aload_n dX8_meet_116 rfl ?_
      refine b_iload dX8_meet_117 rfl ?_
      refine b_iload dX8_meet_119 rfl ?_
      refine b_iload_n dX8_meet_121 rfl ?_
      refine b_icmp_ne (tgt := 129) dX8_meet_122 (by decide) (fun h122 => ?_) (fun h122 => ?_)
      · exact absurd rfl h122
      · refine b_iload_n dX8_meet_125 rfl ?_
        refine b_goto (tgt := 130) dX8_meet_126 (by decide) ?_
        refine b_iload dX8_meet_130 rfl ?_
        refine b_callV3 dX8_meet_132 lk_X8_168 rfl rfl rfl ⟨Nat.le_of_ble_eq_true rfl, Nat.le_of_ble_eq_true rfl⟩ (Nat.le_of_ble_eq_true rfl) (s_X8_hurt (t := t) (by omega) (by omega) ht ht2) (fun r w132 h132 => ?_)
        obtain ⟨rfl, rfl⟩ := h132
        refine b_aload_n dX8_meet_135 rfl ?_
        refine b_getr dX8_meet_136 gf_X8_83 rfl rfl ?_
        refine b_aload_n dX8_meet_139 rfl ?_
        refine b_geti dX8_meet_140 gf_X8_165 rfl rfl ?_
        refine b_topi (y := nI m) ((mHurtF_met _ _ _ _).trans hm) ?_
        refine b_iload dX8_meet_143 rfl ?_
        refine b_iastN dX8_meet_145 rfl ⟨by omega, by decide⟩ ?_
        refine b_aload_n dX8_meet_146 rfl ?_
        refine b_dup dX8_meet_147 rfl ?_
        refine b_geti dX8_meet_148 gf_X8_165 rfl rfl ?_
        refine b_iconst (v := 1) dX8_meet_151 (by decide) ?_
        refine b_iadd dX8_meet_152 ?_
        refine b_puti dX8_meet_153 gf_X8_165 gs_X8_28 rfl rfl ?_
        refine b_vret dX8_meet_156 rfl ⟨rfl, ?_⟩
        simp only [mMeet, mMeet0, hm3, if_neg h91, if_neg h106] <;> rfl
