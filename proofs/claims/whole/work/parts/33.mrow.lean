theorem mAg_0 {w : kW} {j l : Nat} {sort i n : Int32} (h : mAg w j sort i n = 0) (hl : w.1 2 j = nI l) (hl5 : l ≤ 50) : ∃ ii m, i = nI ii ∧ n = nI m ∧ ii + m ≤ l ∧ w.1 1 j = sort := by
  unfold mAg at h
  by_cases c1 : ¬ w.1 1 j = -9 ∧ ¬ w.1 1 j = sort
  · rw [if_pos c1] at h; exact absurd h (by decide)
  · rw [if_neg c1] at h
    by_cases c2 : w.1 1 j = -9
    · rw [if_pos c2] at h; exact absurd h (by decide)
    · rw [if_neg c2] at h
      by_cases c3 : 0 ≤ n
      · rw [if_pos c3] at h
        by_cases c4 : ¬ i < 0 ∧ i ≤ w.1 2 j ∧ n ≤ w.1 2 j - i
        · obtain ⟨d1, d2, d3⟩ := c4
          rw [hl] at d2 d3
          obtain ⟨ii, hi, rfl⟩ := nle_of (by omega) d1 d2
          rw [nI_sub hi] at d3
          obtain ⟨m, hm, rfl⟩ := nle_of (l := l - ii) (by omega) (Int32.not_lt.mpr c3) d3
          refine ⟨ii, m, rfl, rfl, by omega, ?_⟩
          rcases Classical.em (w.1 1 j = sort) with e | e
          · exact e
          · exact absurd ⟨c2, e⟩ c1
        · rw [if_neg c4] at h; exact absurd h (by decide)
      · rw [if_neg c3] at h; exact absurd h (by decide)
/-- a person's rows, as the text tells -/
def pRow (u : kW) (p k h a b : Nat) : Prop := u.1 4 p = nI k ∧ u.1 5 p = nI h ∧ u.1 6 (2 * p) = nI a ∧ u.1 6 (2 * p + 1) = nI b ∧ u.1 7 p = 0
def CoOK (f : Nat → Int32) (nn : Nat) (w w' : kW) : Prop := w'.1 0 5 = nI nn ∧ w'.1 0 15 = 0 ∧ w'.1 0 35 = 0 ∧ w'.1 0 0 = 0 ∧ w'.1 0 1 = w.1 0 1 ∧ w'.1 0 20 = w.1 0 20 ∧ w'.1 1 = w.1 1 ∧ w'.1 2 = w.1 2 ∧ w'.1 3 = w.1 3 ∧ ∀ p, p < nn → ∃ k h a b, TP f nn p k h a b ∧ pRow w' p k h a b
def txt (w : kW) (k i : Int32) : Nat → Int32 := fun x => w.1 3 (50 * dn k + dn i + x)
def PCo (w : kW) (k sort i n : Int32) (r : Option Value) (w' : kW) : Prop :=
  (¬ isS k ∧ r = some (.int (-1)) ∧ kset w 0 0 0 = w') ∨ (isS k ∧ ¬ isT sort ∧ r = some (.int (-2)) ∧ kset w 0 0 0 = w') ∨
  (isS k ∧ isT sort ∧ ¬ mAg w (dn k) sort i n = 0 ∧ r = some (.int (-10 - mAg w (dn k) sort i n)) ∧ kset w 0 0 (mAg w (dn k) sort i n) = w') ∨
  (isS k ∧ isT sort ∧ mAg w (dn k) sort i n = 0 ∧ ((∃ t, FF (txt w k i) (dn n) t ∧ r = some (.int (-100 - nI t)) ∧ mKc (kset w 0 0 0) w') ∨ (∃ nn, OKT (txt w k i) (dn n) nn ∧ r = some (.int (nI nn)) ∧ CoOK (txt w k i) nn w w')))
theorem mAg_k0 (w : kW) (x : Int32) (j : Nat) (sort i n : Int32) : mAg (kset w 0 0 x) j sort i n = mAg w j sort i n := rfl
def CS (f : Nat → Int32) (nn k : Nat) (w u : kW) : Prop := u.1 0 5 = nI nn ∧ u.1 0 0 = 0 ∧ u.1 0 1 = w.1 0 1 ∧ u.1 0 20 = w.1 0 20 ∧ u.1 1 = w.1 1 ∧ u.1 2 = w.1 2 ∧ u.1 3 = w.1 3 ∧ allTP f nn nn u ∧ ∀ p, p < k → ∃ kk h a b, TP f nn p kk h a b ∧ pRow u p kk h a b
theorem TP_inj {f : Nat → Int32} {nn p k h a b k' h' a' b' : Nat} (hn : nn ≤ 6) (h1 : TP f nn p k h a b) (h2 : TP f nn p k' h' a' b') : k = k' ∧ h = h' ∧ a = a' ∧ b = b' := by
  obtain ⟨p1, ⟨p2, p3, p4⟩, ⟨p5, p6, p7⟩, p8, p9, p10⟩ := h1
  obtain ⟨q1, ⟨q2, q3, q4⟩, ⟨q5, q6, q7⟩, q8, q9, q10⟩ := h2
  have e1 := nI_inj (by omega) (by omega) (p4.symm.trans q4)
  have e2 := nI_inj (by omega) (by omega) (p7.symm.trans q7)
  have e3 := nI_inj (by omega) (by omega) (p10.symm.trans q10)
  exact ⟨kcode_inj p1 q1, by omega, by omega, by omega⟩
theorem CS_step {f : Nat → Int32} {nn k : Nat} {w u : kW} (hn : nn ≤ 6) (hk : k < nn) (h : CS f nn k w u) : CS f nn (k + 1) w (kset (kset (kset (kset (kset u 4 k (u.1 8 k)) 5 k (u.1 9 k)) 6 (2 * k) (u.1 10 (2 * k))) 6 (2 * k + 1) (u.1 10 (2 * k + 1))) 7 k 0) := by
  obtain ⟨h1, h2, h3, h4, h5, h6, h7, h8, h9⟩ := h
  refine ⟨h1, h2, h3, h4, h5, h6, h7, h8, fun p hp => ?_⟩
  by_cases e : p = k
  · subst e
    obtain ⟨kk, hh, a, b, z1, z2, z3, z4, z5⟩ := h8 p hk
    refine ⟨kk, hh, a, b, z1, ?_, ?_, ?_, ?_, ?_⟩
    · simp [kset_1, z2]
    · simp [kset_1, z3]
    · simp [kset_1, z4]
    · simp [kset_1, z5]
    · simp [kset_1]
  · obtain ⟨kk, hh, a, b, z1, z2, z3, z4, z5, z6⟩ := h9 p (by omega)
    refine ⟨kk, hh, a, b, z1, ?_, ?_, ?_, ?_, ?_⟩
    · simp [kset_1, z2, e]
    · simp [kset_1, z3, e]
    · have e1 : ¬ 2 * p = 2 * k := by omega
      have e2 : ¬ 2 * p = 2 * k + 1 := by omega
      simp [kset_1, z4, e1, e2]
    · have e1 : ¬ 2 * p + 1 = 2 * k := by omega
      have e3 : ¬ 2 * p = 2 * k := by omega
      simp [kset_1, z5, e1, e3]
    · simp [kset_1, z6, e]

set_option maxRecDepth 100000 in
set_option maxHeartbeats 1000000 in
theorem s_X8_coast_lp {w : kW} {f : Nat → Int32} {nn : Nat} (hn : nn ≤ 6) : ∀ q k, k + q = nn → ∀ u : kW, CS f nn k w u → BS shM RX8 cX8_coast 8 (some .int) 4 92 (fun r w' => r = some (.int (nI nn)) ∧ CoOK f nn w w') 95 [(0, .ref 0), (7, .int (nI k))] [] u := by
  intro q
  induction q with
  | zero =>
    intro k hk u hu
    refine b_iload dX8_coast_95 rfl ?_
    refine b_aload_n dX8_coast_97 rfl ?_
    refine b_geti dX8_coast_98 gf_X8_105 rfl rfl ?_
    refine b_topi (y := nI nn) hu.1 ?_
    refine b_icmp_ge (tgt := 186) dX8_coast_101 (by decide) (fun h101 => ?_) (fun h101 => ?_)
    · refine b_aload_n dX8_coast_186 rfl ?_
      refine b_iconst (v := 0) dX8_coast_187 (by decide) ?_
      refine b_puti dX8_coast_188 gf_X8_132 gs_X8_15 rfl rfl ?_
      refine b_aload_n dX8_coast_191 rfl ?_
      refine b_iconst (v := 0) dX8_coast_192 (by decide) ?_
      refine b_puti dX8_coast_193 gf_X8_135 gs_X8_35 rfl rfl ?_
      refine b_aload_n dX8_coast_196 rfl ?_
      refine b_geti dX8_coast_197 gf_X8_105 rfl rfl ?_
      refine b_topi (y := nI nn) hu.1 ?_
      have e : k = nn := by omega
      subst e
      exact b_iret dX8_coast_200 rfl ⟨rfl, hu.1, rfl, rfl, hu.2.1, hu.2.2.1, hu.2.2.2.1, hu.2.2.2.2.1, hu.2.2.2.2.2.1, hu.2.2.2.2.2.2.1, hu.2.2.2.2.2.2.2.2⟩
    · exact absurd (nI_le (by omega) (by omega)) h101
  | succ q ih =>
    intro k hk u hu
    have hk2 : k < nn := by omega
    refine b_iload dX8_coast_95 rfl ?_
    refine b_aload_n dX8_coast_97 rfl ?_
    refine b_geti dX8_coast_98 gf_X8_105 rfl rfl ?_
    refine b_topi (y := nI nn) hu.1 ?_
    refine b_icmp_ge (tgt := 186) dX8_coast_101 (by decide) (fun h101 => ?_) (fun h101 => ?_)
    · exact absurd h101 (nI_ge (by omega) (by omega))
    · refine b_aload_n dX8_coast_104 rfl ?_
      refine b_getr dX8_coast_105 gf_X8_19 rfl rfl ?_
      refine b_iload dX8_coast_108 rfl ?_
      refine b_aload_n dX8_coast_110 rfl ?_
      refine b_getr dX8_coast_111 gf_X8_32 rfl rfl ?_
      refine b_iload dX8_coast_114 rfl ?_
      refine b_ialdN dX8_coast_116 rfl ⟨by omega, by decide⟩ ?_
      refine b_topi (y := u.1 8 k) rfl ?_
      refine b_iastN dX8_coast_117 rfl ⟨by omega, by decide⟩ ?_
      refine b_aload_n dX8_coast_118 rfl ?_
      refine b_getr dX8_coast_119 gf_X8_22 rfl rfl ?_
      refine b_iload dX8_coast_122 rfl ?_
      refine b_aload_n dX8_coast_124 rfl ?_
      refine b_getr dX8_coast_125 gf_X8_35 rfl rfl ?_
      refine b_iload dX8_coast_128 rfl ?_
      refine b_ialdN dX8_coast_130 rfl ⟨by omega, by decide⟩ ?_
      refine b_topi (y := u.1 9 k) rfl ?_
      refine b_iastN dX8_coast_131 rfl ⟨by omega, by decide⟩ ?_
      refine b_aload_n dX8_coast_132 rfl ?_
      refine b_getr dX8_coast_133 gf_X8_25 rfl rfl ?_
      refine b_iconst (v := 2) dX8_coast_136 (by decide) ?_
      refine b_iload dX8_coast_137 rfl ?_
      refine b_imul dX8_coast_139 ?_
      refine b_topi (y := nI (2 * k)) (nI_two _) ?_
      refine b_aload_n dX8_coast_140 rfl ?_
      refine b_getr dX8_coast_141 gf_X8_38 rfl rfl ?_
      refine b_iconst (v := 2) dX8_coast_144 (by decide) ?_
      refine b_iload dX8_coast_145 rfl ?_
      refine b_imul dX8_coast_147 ?_
      refine b_topi (y := nI (2 * k)) (nI_two _) ?_
      refine b_ialdN dX8_coast_148 rfl ⟨by omega, by decide⟩ ?_
      refine b_topi (y := u.1 10 (2 * k)) rfl ?_
      refine b_iastN dX8_coast_149 rfl ⟨by omega, by decide⟩ ?_
      refine b_aload_n dX8_coast_150 rfl ?_
      refine b_getr dX8_coast_151 gf_X8_25 rfl rfl ?_
      refine b_iconst (v := 2) dX8_coast_154 (by decide) ?_
      refine b_iload dX8_coast_155 rfl ?_
      refine b_imul dX8_coast_157 ?_
      refine b_topi (y := nI (2 * k)) (nI_two _) ?_
      refine b_iconst (v := 1) dX8_coast_158 (by decide) ?_
      refine b_iadd dX8_coast_159 ?_
      refine b_topi (y := nI (2 * k + 1)) (nI_add _ 1) ?_
      refine b_aload_n dX8_coast_160 rfl ?_
      refine b_getr dX8_coast_161 gf_X8_38 rfl rfl ?_
      refine b_iconst (v := 2) dX8_coast_164 (by decide) ?_
      refine b_iload dX8_coast_165 rfl ?_
      refine b_imul dX8_coast_167 ?_
      refine b_topi (y := nI (2 * k)) (nI_two _) ?_
      refine b_iconst (v := 1) dX8_coast_168 (by decide) ?_
      refine b_iadd dX8_coast_169 ?_
      refine b_topi (y := nI (2 * k + 1)) (nI_add _ 1) ?_
      refine b_ialdN dX8_coast_170 rfl ⟨by omega, by decide⟩ ?_
      refine b_topi (y := u.1 10 (2 * k + 1)) rfl ?_
      refine b_iastN dX8_coast_171 rfl ⟨by omega, by decide⟩ ?_
      refine b_aload_n dX8_coast_172 rfl ?_
      refine b_getr dX8_coast_173 gf_X8_28 rfl rfl ?_
      refine b_iload dX8_coast_176 rfl ?_
      refine b_iconst (v := 0) dX8_coast_178 (by decide) ?_
      refine b_zastN dX8_coast_179 rfl ⟨by omega, by decide⟩ (Or.inl rfl) ?_
      refine b_iinc dX8_coast_180 rfl (nI_inc k) (by decide) ?_
      refine b_goto (tgt := 95) dX8_coast_183 (by decide) ?_
      refine b_sub [1, 0] rfl ?_
      exact ih (k + 1) (by omega) _ (CS_step hn hk2 hu)

set_option maxRecDepth 100000 in
set_option maxHeartbeats 1000000 in
theorem s_X8_coast {w : kW} {k sort i n : Int32} (hS : Shv w) : Spec shM yX8_coast cX8_coast 8 (some .int) 4 92 [.ref 0, .int k, .int sort, .int i, .int n] w (fun r w' => PCo w k sort i n r w') := by
  refine k_enter pn_X8 (Nat.le_of_ble_eq_true rfl) ?_
  refine b_aload_n dX8_coast_0 rfl ?_
  refine b_iconst (v := 0) dX8_coast_1 (by decide) ?_
  refine b_puti dX8_coast_2 gf_X8_95 gs_X8_0 rfl rfl ?_
  refine b_iload_n dX8_coast_5 rfl ?_
  refine b_callS1 dX8_coast_6 lk_X8_111 ⟨Nat.le_of_ble_eq_true rfl, Nat.le_of_ble_eq_true rfl⟩ (Nat.le_of_ble_eq_true rfl) (s_X8_isSheet) (fun r w6 h6 => ?_)
  obtain ⟨rfl, h6⟩ := h6
  rcases h6 with ⟨rfl, h6⟩ | ⟨rfl, h6⟩
  · refine b_if_ne (tgt := 14) dX8_coast_9 (by decide) (fun h9 => ?_) (fun h9 => absurd h9 (by decide))
    have hq2 : isS k := h6
    obtain ⟨jj, hj, rfl⟩ := sheet_of h6
    obtain ⟨hso, l, hl50, hl⟩ := hS jj hj
    refine b_iload_n dX8_coast_14 rfl ?_
    refine b_callS1 dX8_coast_15 lk_X8_115 ⟨Nat.le_of_ble_eq_true rfl, Nat.le_of_ble_eq_true rfl⟩ (Nat.le_of_ble_eq_true rfl) (s_X8_isSort) (fun r w15 h15 => ?_)
    obtain ⟨rfl, h15⟩ := h15
    rcases h15 with ⟨rfl, h15⟩ | ⟨rfl, h15⟩
    · refine b_if_ne (tgt := 24) dX8_coast_18 (by decide) (fun h18 => ?_) (fun h18 => absurd h18 (by decide))
      refine b_aload_n dX8_coast_24 rfl ?_
      refine b_iload_n dX8_coast_25 rfl ?_
      refine b_iload_n dX8_coast_26 rfl ?_
      refine b_iload_n dX8_coast_27 rfl ?_
      refine b_iload dX8_coast_28 rfl ?_
      refine b_callV4 dX8_coast_30 lk_X8_118 rfl rfl rfl ⟨Nat.le_of_ble_eq_true rfl, Nat.le_of_ble_eq_true rfl⟩ (Nat.le_of_ble_eq_true rfl) (s_X8_against (w := kset w 0 0 0) (by omega)) (fun r w30 h30 => ?_)
      obtain ⟨rfl, rfl⟩ := h30
      refine b_istore dX8_coast_33 (by decide) ?_
      refine b_iload dX8_coast_35 rfl ?_
      refine b_if_eq (tgt := 47) dX8_coast_37 (by decide) (fun h37 => ?_) (fun h37 => ?_)
      · obtain ⟨ii, m, rfl, rfl, him, hso2⟩ := mAg_0 (w := kset w 0 0 0) h37 hl hl50
        obtain ⟨S, hSd⟩ : ∃ S, S = 50 * jj + ii := ⟨_, rfl⟩
        have hSl : S + m ≤ 200 := by omega
        have etxt : txt w (nI jj) (nI ii) = (fun x => w.1 3 (S + x)) := by
          unfold txt
          rw [dn_nI (by omega), dn_nI (by omega), hSd]
        refine b_bipush (v := 50) dX8_coast_47 (by decide) ?_
        refine b_iload_n dX8_coast_49 rfl ?_
        refine b_imul dX8_coast_50 ?_
        refine b_topi (y := nI (50 * jj)) (nI_50 _) ?_
        refine b_iload_n dX8_coast_51 rfl ?_
        refine b_iadd dX8_coast_52 ?_
        refine b_topi (y := nI S) (by rw [hSd]; exact nI_add _ _) ?_
        refine b_istore dX8_coast_53 (by decide) ?_
        refine b_aload_n dX8_coast_55 rfl ?_
        refine b_iload dX8_coast_56 rfl ?_
        refine b_puti dX8_coast_58 gf_X8_108 gs_X8_10 rfl rfl ?_
        refine b_aload_n dX8_coast_61 rfl ?_
        refine b_iload dX8_coast_62 rfl ?_
        refine b_iload dX8_coast_64 rfl ?_
        refine b_iadd dX8_coast_66 ?_
        refine b_topi (y := nI (S + m)) (nI_add _ _) ?_
        refine b_callV1 dX8_coast_67 lk_X8_126 rfl rfl rfl ⟨Nat.le_of_ble_eq_true rfl, Nat.le_of_ble_eq_true rfl⟩ (Nat.le_of_ble_eq_true rfl) (s_X8_readCoast (w := kset (kset w 0 0 0) 0 10 (nI S)) (S := S) (n := m) hSl rfl) (fun r w67 h67 => ?_)
        rcases h67 with ⟨rfl, h67⟩ | ⟨rfl, h67⟩
        · obtain ⟨nn, h8, h9, h10, h11⟩ := h67
          refine b_if_ne (tgt := 84) dX8_coast_70 (by decide) (fun h70 => ?_) (fun h70 => absurd h70 (by decide))
          refine b_aload_n dX8_coast_84 rfl ?_
          refine b_aload_n dX8_coast_85 rfl ?_
          refine b_geti dX8_coast_86 gf_X8_129 rfl rfl ?_
          refine b_topi (y := nI nn) h9 ?_
          refine b_puti dX8_coast_89 gf_X8_105 gs_X8_5 rfl rfl ?_
          refine b_iconst (v := 0) dX8_coast_92 (by decide) ?_
          refine b_istore dX8_coast_93 (by decide) ?_
          refine b_sub [3, 0] rfl ?_
          refine (s_X8_coast_lp (w := w) (f := fun x => w.1 3 (S + x)) (nn := nn) (by have := h8.1.2.1; omega) nn 0 (by omega) _ ?_).mono (fun r w1 h => ?_)
          · refine ⟨rfl, h11.2 0 (by decide) (by decide), h11.2 1 (by decide) (by decide), h11.2 20 (by decide) (by decide), h11.1 1 (by decide) (by decide) (by decide) (by decide), h11.1 2 (by decide) (by decide) (by decide) (by decide), h11.1 3 (by decide) (by decide) (by decide) (by decide), h10, fun p hp => absurd hp (Nat.not_lt_zero _)⟩
          · refine Or.inr (Or.inr (Or.inr ⟨hq2, h15, ?_, Or.inr ⟨nn, ?_, h.1, ?_⟩⟩))
            · rw [dn_nI (show jj < 2 ^ 31 by omega)]; exact h37
            · rw [etxt, dn_nI (by omega)]; exact h8
            · rw [etxt]; exact h.2
        · refine b_if_ne (tgt := 84) dX8_coast_70 (by decide) (fun h70 => absurd h70 (by decide)) (fun h70 => ?_)
          refine b_bipush (v := (-100)) dX8_coast_73 (by decide) ?_
          refine b_aload_n dX8_coast_75 rfl ?_
          refine b_geti dX8_coast_76 gf_X8_108 rfl rfl ?_
          refine b_iload dX8_coast_79 rfl ?_
          refine b_isub dX8_coast_81 ?_
          refine b_isub dX8_coast_82 ?_
          obtain ⟨t, t1, t2, t3⟩ := h67
          refine b_iret dX8_coast_83 rfl (Or.inr (Or.inr (Or.inr ⟨hq2, h15, ?_, Or.inl ⟨t, ?_, ?_, ?_⟩⟩)))
          · rw [dn_nI (show jj < 2 ^ 31 by omega)]; exact h37
          · rw [etxt, dn_nI (by omega)]; exact t1
          · rw [t2, Nat.add_comm S t, ← nI_add, Int32.add_sub_cancel]
          · exact mKc.tr (mKc.rf.num (by decide)) t3
      · refine b_aload_n dX8_coast_40 rfl ?_
        refine b_iload dX8_coast_41 rfl ?_
        refine b_callV1 dX8_coast_43 lk_X8_122 rfl rfl rfl ⟨Nat.le_of_ble_eq_true rfl, Nat.le_of_ble_eq_true rfl⟩ (Nat.le_of_ble_eq_true rfl) (s_X8_fails) (fun r w43 h43 => ?_)
        obtain ⟨rfl, rfl⟩ := h43
        refine b_iret dX8_coast_46 rfl (Or.inr (Or.inr (Or.inl ⟨hq2, h15, ?_, ?_, ?_⟩)))
        · rw [dn_nI (show jj < 2 ^ 31 by omega)]; exact h37
        · rw [dn_nI (show jj < 2 ^ 31 by omega)]; rfl
        · rw [dn_nI (show jj < 2 ^ 31 by omega)]; exact (kset_kset _ _ _ _ _).symm
    · refine b_if_ne (tgt := 24) dX8_coast_18 (by decide) (fun h18 => absurd h18 (by decide)) (fun h18 => ?_)
      refine b_bipush (v := (-2)) dX8_coast_21 (by decide) ?_
      exact b_iret dX8_coast_23 rfl (Or.inr (Or.inl ⟨hq2, h15, rfl, rfl⟩))
  · refine b_if_ne (tgt := 14) dX8_coast_9 (by decide) (fun h9 => absurd h9 (by decide)) (fun h9 => ?_)
    refine b_iconst (v := (-1)) dX8_coast_12 (by decide) ?_
    exact b_iret dX8_coast_13 rfl (Or.inl ⟨h6, rfl, rfl⟩)

theorem PEq.k00 {c : Nat} {w v : kW} (h : PEq c (kset w 0 0 0) v) : PEq c w v := ⟨fun j a b => (h.1 j a b).trans (kset_row _ _ _ _ (by omega)), fun j k a b hk => (h.2.1 j k a b hk).trans (kset_ne _ _ (Or.inl (by omega))), h.2.2.1, h.2.2.2.1, h.2.2.2.2⟩
def FstP (P : Nat → Prop) (m t : Nat) : Prop := t ≤ m ∧ (∀ s, s < t → P s) ∧ (t < m → ¬ P t)
theorem FstP_inj {P : Nat → Prop} {m a b : Nat} (h1 : FstP P m a) (h2 : FstP P m b) : a = b := by
  rcases Nat.lt_trichotomy a b with h | h | h
  · exact absurd (h2.2.1 a h) (h1.2.2 (by have := h2.1; omega))
  · exact h
  · exact absurd (h1.2.1 b h) (h2.2.2 (by have := h1.1; omega))
def frAt (n c : Nat) (w : kW) (f : Nat → Int32) (s : Nat) : Prop := mFree (mGo n c w s) (dn (f s)) (nI s)
def PRow (nn c : Nat) (w : kW) (k sort i n : Int32) (r : Option Value) (w' : kW) : Prop :=
  (¬ isS k ∧ r = some (.int (-1)) ∧ kset w 0 0 0 = w') ∨ (isS k ∧ ¬ isT sort ∧ r = some (.int (-2)) ∧ kset w 0 0 0 = w') ∨
  (isS k ∧ isT sort ∧ ¬ mAg w (dn k) sort i n = 0 ∧ r = some (.int (-10 - mAg w (dn k) sort i n)) ∧ kset w 0 0 (mAg w (dn k) sort i n) = w') ∨
  (isS k ∧ isT sort ∧ mAg w (dn k) sort i n = 0 ∧ w.1 0 5 = 0 ∧ r = some (.int (-3)) ∧ kset w 0 0 0 = w') ∨
  (isS k ∧ isT sort ∧ mAg w (dn k) sort i n = 0 ∧ ¬ w.1 0 5 = 0 ∧ (∃ s, s < dn n ∧ ¬ isPr w (txt w k i s)) ∧ r = some (.int (-1)) ∧ kset w 0 0 0 = w') ∨
  (isS k ∧ isT sort ∧ mAg w (dn k) sort i n = 0 ∧ ¬ w.1 0 5 = 0 ∧ (∀ s, s < dn n → isPr w (txt w k i s)) ∧ ∃ t, FstP (frAt nn c w (txt w k i)) (dn n) t ∧ r = some (.int (nI t)) ∧ mKp c (kset w 0 0 0) w')

set_option maxRecDepth 100000 in
set_option maxHeartbeats 1000000 in
theorem s_X8_row_l2 {w : kW} {n c qq : Nat} (hM : MInv n c qq w) {S m : Nat} {f : Nat → Int32} (hSm : S + m ≤ 200) (hm5 : m ≤ 50) (hf : ∀ x, w.1 3 (S + x) = f x) (hpr : ∀ s, s < m → isPr w (f s)) : ∀ q k, k + q = m → ∀ v : kW, mKp c (kset w 0 0 0) v → (∀ s, s < k → frAt n c w f s) → BS shM RX8 cX8_row 8 (some .int) 6 146 (fun r w' => ∃ t, FstP (frAt n c w f) m t ∧ r = some (.int (nI t)) ∧ mKp c (kset w 0 0 0) w') 103 [(0, .ref 0), (4, .int (nI m)), (6, .int (nI S)), (7, .int (nI k))] [] v := by
  intro q
  obtain ⟨hP, hI, hc8, hR, hu, hS⟩ := id hM
  have hn := hP.le
  have hP0 : Pn n (kset w 0 0 0) := hP
  have hI0 : Ins n c (kset w 0 0 0) := hI
  induction q with
  | zero =>
    intro k hk v hv hfr
    refine b_iload dX8_row_103 rfl ?_
    refine b_iload dX8_row_105 rfl ?_
    refine b_icmp_ge (tgt := 144) dX8_row_107 (by decide) (fun h107 => ?_) (fun h107 => ?_)
    · refine b_iload dX8_row_144 rfl ?_
      have e : k = m := by omega
      subst e
      exact b_iret dX8_row_146 rfl ⟨k, ⟨Nat.le_refl _, hfr, fun z => absurd z (Nat.lt_irrefl _)⟩, rfl, hv⟩
    · exact absurd (nI_le (by omega) (by omega)) h107
  | succ q ih =>
    intro k hk v hv hfr
    obtain ⟨p, hp, ep⟩ := pers_of hP (hpr k (by omega))
    have hkg := mGo_keep (d := k) (hv.pn hP0) (hv.ins hI0) (by omega)
    have hsq := mGo_sq (d := k) hP hI (PEq.k00 hv.peq) (by omega)
    have hiff : mFree (mGo n c v k) p (nI k) ↔ frAt n c w f k := by
      obtain ⟨t9, m9, z1, z2, z3, z4, z5, z6, z7⟩ := hsq
      unfold frAt mFree
      rw [ep, dn_nI (by omega), z7.1, z7.2.1 p hp, hkg.1 7 (by decide) (by decide), (mGo_keep (d := k) hP hI (by omega)).1 7 (by decide) (by decide), hv.1 7 (by decide) (by decide)]
      rfl
    refine b_iload dX8_row_103 rfl ?_
    refine b_iload dX8_row_105 rfl ?_
    refine b_icmp_ge (tgt := 144) dX8_row_107 (by decide) (fun h107 => ?_) (fun h107 => ?_)
    · exact absurd h107 (nI_ge (by omega) (by omega))
    · refine b_aload_n dX8_row_110 rfl ?_
      refine b_iload dX8_row_111 rfl ?_
      refine b_callV1 dX8_row_113 lk_X8_198 rfl rfl rfl ⟨Nat.le_of_ble_eq_true rfl, Nat.le_of_ble_eq_true rfl⟩ (Nat.le_of_ble_eq_true rfl) (s_X8_goAhead (w := v) (D := k) (hv.pn hP0) (hv.ins hI0) (by omega)) (fun r w113 h113 => ?_)
      obtain ⟨rfl, rfl⟩ := h113
      refine b_aload_n dX8_row_116 rfl ?_
      refine b_aload_n dX8_row_117 rfl ?_
      refine b_getr dX8_row_118 gf_X8_16 rfl rfl ?_
      refine b_iload dX8_row_121 rfl ?_
      refine b_iload dX8_row_123 rfl ?_
      refine b_iadd dX8_row_125 ?_
      refine b_topi (y := nI (S + k)) (nI_add _ _) ?_
      refine b_ialdN dX8_row_126 rfl ⟨by omega, by decide⟩ ?_
      refine b_topi (y := nI p) (((congrFun (hkg.1 3 (by decide) (by decide)) (S + k)).trans ((congrFun (hv.1 3 (by decide) (by decide)) (S + k)).trans (hf k))).trans ep) ?_
      refine b_iload dX8_row_127 rfl ?_
      refine b_callV2 dX8_row_129 lk_X8_158 rfl rfl rfl ⟨Nat.le_of_ble_eq_true rfl, Nat.le_of_ble_eq_true rfl⟩ (Nat.le_of_ble_eq_true rfl) (s_X8_isFree (x := p) (dawn := nI k) (by omega)) (fun r w129 h129 => ?_)
      obtain ⟨rfl, h129⟩ := h129
      rcases h129 with ⟨rfl, h129⟩ | ⟨rfl, h129⟩
      · refine b_if_ne (tgt := 138) dX8_row_132 (by decide) (fun h132 => ?_) (fun h132 => absurd h132 (by decide))
        refine b_iinc dX8_row_138 rfl (nI_inc k) (by decide) ?_
        refine b_goto (tgt := 103) dX8_row_141 (by decide) ?_
        refine b_sub [1, 2, 3, 0] rfl ?_
        refine ih (k + 1) (by omega) _ (hv.tr (mKp.of hkg)) (fun s hs => ?_)
        by_cases e : s = k
        · subst e; exact hiff.mp h129
        · exact hfr s (by omega)
      · refine b_if_ne (tgt := 138) dX8_row_132 (by decide) (fun h132 => absurd h132 (by decide)) (fun h132 => ?_)
        refine b_iload dX8_row_135 rfl ?_
        exact b_iret dX8_row_137 rfl ⟨k, ⟨by omega, hfr, fun _ z => h129 (hiff.mpr z)⟩, rfl, hv.tr (mKp.of hkg)⟩

set_option maxRecDepth 100000 in
set_option maxHeartbeats 1000000 in
theorem s_X8_row_l1 {w : kW} {n c qq : Nat} (hM : MInv n c qq w) {S m : Nat} {f : Nat → Int32} (hSm : S + m ≤ 200) (hm5 : m ≤ 50) (hf : ∀ x, w.1 3 (S + x) = f x) : ∀ q k, k + q = m → (∀ s, s < k → isPr w (f s)) → BS shM RX8 cX8_row 8 (some .int) 6 146 (fun r w' => ((∃ s, s < m ∧ ¬ isPr w (f s)) ∧ r = some (.int (-1)) ∧ kset w 0 0 0 = w') ∨ ((∀ s, s < m → isPr w (f s)) ∧ ∃ t, FstP (frAt n c w f) m t ∧ r = some (.int (nI t)) ∧ mKp c (kset w 0 0 0) w')) 68 [(0, .ref 0), (4, .int (nI m)), (6, .int (nI S)), (7, .int (nI k))] [] (kset w 0 0 0) := by
  intro q
  obtain ⟨hP, hI, hc8, hR, hu, hS⟩ := id hM
  have hn := hP.le
  induction q with
  | zero =>
    intro k hk hpr
    refine b_iload dX8_row_68 rfl ?_
    refine b_iload dX8_row_70 rfl ?_
    refine b_icmp_ge (tgt := 100) dX8_row_72 (by decide) (fun h72 => ?_) (fun h72 => ?_)
    · refine b_iconst (v := 0) dX8_row_100 (by decide) ?_
      refine b_istore dX8_row_101 (by decide) ?_
      refine b_sub [1, 2, 3, 0] rfl ?_
      have e : k = m := by omega
      subst e
      exact (s_X8_row_l2 hM hSm hm5 hf hpr k 0 (by omega) _ mKp.rf (fun s hs => absurd hs (Nat.not_lt_zero _))).mono (fun r w1 h => Or.inr ⟨hpr, h⟩)
    · exact absurd (nI_le (by omega) (by omega)) h72
  | succ q ih =>
    intro k hk hpr
    refine b_iload dX8_row_68 rfl ?_
    refine b_iload dX8_row_70 rfl ?_
    refine b_icmp_ge (tgt := 100) dX8_row_72 (by decide) (fun h72 => ?_) (fun h72 => ?_)
    · exact absurd h72 (nI_ge (by omega) (by omega))
    · refine b_aload_n dX8_row_75 rfl ?_
      refine b_aload_n dX8_row_76 rfl ?_
      refine b_getr dX8_row_77 gf_X8_16 rfl rfl ?_
      refine b_iload dX8_row_80 rfl ?_
      refine b_iload dX8_row_82 rfl ?_
      refine b_iadd dX8_row_84 ?_
      refine b_topi (y := nI (S + k)) (nI_add _ _) ?_
      refine b_ialdN dX8_row_85 rfl ⟨by omega, by decide⟩ ?_
      refine b_topi (y := f k) (hf k) ?_
      refine b_callV1 dX8_row_86 lk_X8_145 rfl rfl rfl ⟨Nat.le_of_ble_eq_true rfl, Nat.le_of_ble_eq_true rfl⟩ (Nat.le_of_ble_eq_true rfl) (s_X8_isPerson) (fun r w86 h86 => ?_)
      obtain ⟨rfl, h86⟩ := h86
      rcases h86 with ⟨rfl, h86⟩ | ⟨rfl, h86⟩
      · refine b_if_ne (tgt := 94) dX8_row_89 (by decide) (fun h89 => ?_) (fun h89 => absurd h89 (by decide))
        refine b_iinc dX8_row_94 rfl (nI_inc k) (by decide) ?_
        refine b_goto (tgt := 68) dX8_row_97 (by decide) ?_
        refine b_sub [1, 2, 3, 0] rfl ?_
        refine ih (k + 1) (by omega) (fun s hs => ?_)
        by_cases e : s = k
        · subst e; exact h86
        · exact hpr s (by omega)
      · refine b_if_ne (tgt := 94) dX8_row_89 (by decide) (fun h89 => absurd h89 (by decide)) (fun h89 => ?_)
        refine b_iconst (v := (-1)) dX8_row_92 (by decide) ?_
        exact b_iret dX8_row_93 rfl (Or.inl ⟨⟨k, by omega, h86⟩, rfl, rfl⟩)

set_option maxRecDepth 100000 in
set_option maxHeartbeats 1000000 in
theorem s_X8_row {w : kW} {n c qq : Nat} (hM : MInv n c qq w) {k sort i m0 : Int32} : Spec shM yX8_row cX8_row 8 (some .int) 6 146 [.ref 0, .int k, .int sort, .int i, .int m0] w (fun r w' => PRow n c w k sort i m0 r w') := by
  obtain ⟨hP, hI, hc8, hR, hu, hS⟩ := id hM
  have hn := hP.le
  refine k_enter pn_X8 (Nat.le_of_ble_eq_true rfl) ?_
  refine b_aload_n dX8_row_0 rfl ?_
  refine b_iconst (v := 0) dX8_row_1 (by decide) ?_
  refine b_puti dX8_row_2 gf_X8_95 gs_X8_0 rfl rfl ?_
  refine b_iload_n dX8_row_5 rfl ?_
  refine b_callS1 dX8_row_6 lk_X8_111 ⟨Nat.le_of_ble_eq_true rfl, Nat.le_of_ble_eq_true rfl⟩ (Nat.le_of_ble_eq_true rfl) (s_X8_isSheet) (fun r w6 h6 => ?_)
  obtain ⟨rfl, h6⟩ := h6
  rcases h6 with ⟨rfl, h6⟩ | ⟨rfl, h6⟩
  · refine b_if_ne (tgt := 14) dX8_row_9 (by decide) (fun h9 => ?_) (fun h9 => absurd h9 (by decide))
    have hq2 : isS k := h6
    obtain ⟨jj, hj, rfl⟩ := sheet_of h6
    obtain ⟨hso, l, hl50, hl⟩ := hS jj hj
    refine b_iload_n dX8_row_14 rfl ?_
    refine b_callS1 dX8_row_15 lk_X8_115 ⟨Nat.le_of_ble_eq_true rfl, Nat.le_of_ble_eq_true rfl⟩ (Nat.le_of_ble_eq_true rfl) (s_X8_isSort) (fun r w15 h15 => ?_)
    obtain ⟨rfl, h15⟩ := h15
    rcases h15 with ⟨rfl, h15⟩ | ⟨rfl, h15⟩
    · refine b_if_ne (tgt := 24) dX8_row_18 (by decide) (fun h18 => ?_) (fun h18 => absurd h18 (by decide))
      refine b_aload_n dX8_row_24 rfl ?_
      refine b_iload_n dX8_row_25 rfl ?_
      refine b_iload_n dX8_row_26 rfl ?_
      refine b_iload_n dX8_row_27 rfl ?_
      refine b_iload dX8_row_28 rfl ?_
      refine b_callV4 dX8_row_30 lk_X8_118 rfl rfl rfl ⟨Nat.le_of_ble_eq_true rfl, Nat.le_of_ble_eq_true rfl⟩ (Nat.le_of_ble_eq_true rfl) (s_X8_against (w := kset w 0 0 0) (by omega)) (fun r w30 h30 => ?_)
      obtain ⟨rfl, rfl⟩ := h30
      refine b_istore dX8_row_33 (by decide) ?_
      refine b_iload dX8_row_35 rfl ?_
      refine b_if_eq (tgt := 47) dX8_row_37 (by decide) (fun h37 => ?_) (fun h37 => ?_)
      · refine b_aload_n dX8_row_47 rfl ?_
        refine b_geti dX8_row_48 gf_X8_105 rfl rfl ?_
        refine b_if_ne (tgt := 57) dX8_row_51 (by decide) (fun h51 => ?_) (fun h51 => ?_)
        · obtain ⟨ii, m, rfl, rfl, him, hso2⟩ := mAg_0 (w := kset w 0 0 0) h37 hl hl50
          obtain ⟨S, hSd⟩ : ∃ S, S = 50 * jj + ii := ⟨_, rfl⟩
          have hSl : S + m ≤ 200 := by omega
          have etxt : txt w (nI jj) (nI ii) = (fun x => w.1 3 (S + x)) := by
            unfold txt
            rw [dn_nI (by omega), dn_nI (by omega), hSd]
          refine b_bipush (v := 50) dX8_row_57 (by decide) ?_
          refine b_iload_n dX8_row_59 rfl ?_
          refine b_imul dX8_row_60 ?_
          refine b_topi (y := nI (50 * jj)) (nI_50 _) ?_
          refine b_iload_n dX8_row_61 rfl ?_
          refine b_iadd dX8_row_62 ?_
          refine b_topi (y := nI S) (by rw [hSd]; exact nI_add _ _) ?_
          refine b_istore dX8_row_63 (by decide) ?_
          refine b_iconst (v := 0) dX8_row_65 (by decide) ?_
          refine b_istore dX8_row_66 (by decide) ?_
          refine b_sub [3, 7, 1, 0] rfl ?_
          refine (s_X8_row_l1 hM (S := S) (m := m) (f := fun x => w.1 3 (S + x)) hSl (by omega) (fun _ => rfl) m 0 (by omega) (fun s hs => absurd hs (Nat.not_lt_zero _))).mono (fun r w1 h => ?_)
          unfold PRow
          rw [etxt, dn_nI (show jj < 2 ^ 31 by omega), dn_nI (show m < 2 ^ 31 by omega)]
          rcases h with h | h
          · exact Or.inr (Or.inr (Or.inr (Or.inr (Or.inl ⟨hq2, h15, h37, h51, h⟩))))
          · exact Or.inr (Or.inr (Or.inr (Or.inr (Or.inr ⟨hq2, h15, h37, h51, h⟩))))
        · refine b_bipush (v := (-3)) dX8_row_54 (by decide) ?_
          exact b_iret dX8_row_56 rfl (Or.inr (Or.inr (Or.inr (Or.inl ⟨hq2, h15, by rw [dn_nI (show jj < 2 ^ 31 by omega)]; exact h37, h51, rfl, rfl⟩))))
      · refine b_aload_n dX8_row_40 rfl ?_
        refine b_iload dX8_row_41 rfl ?_
        refine b_callV1 dX8_row_43 lk_X8_122 rfl rfl rfl ⟨Nat.le_of_ble_eq_true rfl, Nat.le_of_ble_eq_true rfl⟩ (Nat.le_of_ble_eq_true rfl) (s_X8_fails) (fun r w43 h43 => ?_)
        obtain ⟨rfl, rfl⟩ := h43
        refine b_iret dX8_row_46 rfl (Or.inr (Or.inr (Or.inl ⟨hq2, h15, ?_, ?_, ?_⟩)))
        · rw [dn_nI (show jj < 2 ^ 31 by omega)]; exact h37
        · rw [dn_nI (show jj < 2 ^ 31 by omega)]; rfl
        · rw [dn_nI (show jj < 2 ^ 31 by omega)]; exact (kset_kset _ _ _ _ _).symm
    · refine b_if_ne (tgt := 24) dX8_row_18 (by decide) (fun h18 => absurd h18 (by decide)) (fun h18 => ?_)
      refine b_bipush (v := (-2)) dX8_row_21 (by decide) ?_
      exact b_iret dX8_row_23 rfl (Or.inr (Or.inl ⟨hq2, h15, rfl, rfl⟩))
  · refine b_if_ne (tgt := 14) dX8_row_9 (by decide) (fun h9 => absurd h9 (by decide)) (fun h9 => ?_)
    refine b_iconst (v := (-1)) dX8_row_12 (by decide) ?_
    exact b_iret dX8_row_13 rfl (Or.inl ⟨h6, rfl, rfl⟩)
