theorem nle_of {x : Int32} {l : Nat} (hl : l ≤ 200) (h0 : ¬ x < 0) (h : x ≤ nI l) : ∃ j, j ≤ l ∧ x = nI j := nI_of2 (nI_toInt (by omega)) h0 h
def cpB (f : Nat → Nat → Int32) (S D n q : Nat) : Nat → Nat → Int32 := fun c x => if c = 3 then (if D + (n - q) ≤ x ∧ x < D + n then f 3 (S + (x - D)) else f c x) else f c x
theorem cpF_step {f : Nat → Nat → Int32} {S D q : Nat} (h : ¬ (D ≤ S + q ∧ S + q < D + q)) : k_up (k_cpy f 3 3 S D q) 3 (D + q) (k_cpy f 3 3 S D q 3 (S + q)) = k_cpy f 3 3 S D (q + 1) := by
  funext c x
  simp only [k_up, k_cpy]
  by_cases hc : c = 3
  · subst hc
    simp only [if_true, if_neg h]
    by_cases hx : x = D + q
    · subst hx
      rw [if_pos rfl, if_pos (by omega), Nat.add_sub_cancel_left]
    · rw [if_neg hx]
      by_cases h2 : D ≤ x ∧ x < D + q
      · rw [if_pos h2, if_pos (by omega)]
      · rw [if_neg h2, if_neg (by omega)]
  · simp only [if_neg hc]
theorem cpB_step {f : Nat → Nat → Int32} {S D n q : Nat} (hq : q < n) (h : ¬ (D + (n - q) ≤ S + (n - 1 - q) ∧ S + (n - 1 - q) < D + n)) : k_up (cpB f S D n q) 3 (D + (n - 1 - q)) (cpB f S D n q 3 (S + (n - 1 - q))) = cpB f S D n (q + 1) := by
  funext c x
  simp only [k_up, cpB]
  by_cases hc : c = 3
  · subst hc
    simp only [if_true, if_neg h]
    by_cases hx : x = D + (n - 1 - q)
    · subst hx
      rw [if_pos rfl, if_pos (by omega), Nat.add_sub_cancel_left]
    · rw [if_neg hx]
      by_cases h2 : D + (n - q) ≤ x ∧ x < D + n
      · rw [if_pos h2, if_pos (by omega)]
      · rw [if_neg h2, if_neg (by omega)]
  · simp only [if_neg hc]
theorem cpF_0 (f : Nat → Nat → Int32) (S D : Nat) : k_cpy f 3 3 S D 0 = f := by
  funext c x
  simp only [k_cpy]
  split
  · rw [if_neg (by omega)]
  · rfl
theorem cpB_0 (f : Nat → Nat → Int32) (S D n : Nat) : cpB f S D n 0 = f := by
  funext c x
  simp only [cpB]
  split
  · rw [if_neg (by omega)]
  · rfl
theorem cpB_n (f : Nat → Nat → Int32) (S D n : Nat) : cpB f S D n n = k_cpy f 3 3 S D n := by
  funext c x
  simp only [cpB, k_cpy, Nat.sub_self, Nat.add_zero]

set_option maxRecDepth 100000 in
set_option maxHeartbeats 4000000 in
theorem s_X8_copy_f {w : kW} {kk oo ii jx nn : Nat} (hk : kk < 4) (ho : oo < 4) (h1 : ii + nn ≤ 50) (h2 : jx + nn ≤ 50) (hd : kk = oo → jx ≤ ii) : ∀ q k, k + q = nn → BS shM RX8 cX8_copy 10 (some .int) 2 42 (fun r w' => r = some (.int (nI nn)) ∧ (k_cpy w.1 3 3 (50 * kk + ii) (50 * oo + jx) nn, w.2) = w') 166 [(1, .int (nI kk)), (0, .ref 0), (2, .int (nI ii)), (3, .int (nI oo)), (4, .int (nI jx)), (5, .int (nI nn)), (7, .int 0), (8, .int (nI k))] [] (k_cpy w.1 3 3 (50 * kk + ii) (50 * oo + jx) k, w.2) := by
  intro q
  have hd2 : kk < oo ∨ oo < kk ∨ (kk = oo ∧ jx ≤ ii) := by
    rcases Nat.lt_trichotomy kk oo with h | h | h
    · exact Or.inl h
    · exact Or.inr (Or.inr ⟨h, hd h⟩)
    · exact Or.inr (Or.inl h)
  induction q with
  | zero =>
    intro k hk
    refine b_iload dX8_copy_166 rfl ?_
    refine b_iload dX8_copy_168 rfl ?_
    refine b_icmp_ge (tgt := 227) dX8_copy_170 (by decide) (fun h170 => ?_) (fun h170 => ?_)
    · refine b_iload dX8_copy_227 rfl ?_
      have e : k = nn := by omega
      subst e
      exact b_iret dX8_copy_229 rfl ⟨rfl, rfl⟩
    · exact absurd (nI_le (by omega) (by omega)) h170
  | succ q ih =>
    intro k hk
    refine b_iload dX8_copy_166 rfl ?_
    refine b_iload dX8_copy_168 rfl ?_
    refine b_icmp_ge (tgt := 227) dX8_copy_170 (by decide) (fun h170 => ?_) (fun h170 => ?_)
    · exact absurd h170 (nI_ge (by omega) (by omega))
    · refine b_iload dX8_copy_173 rfl ?_
      refine b_if_eq (tgt := 188) dX8_copy_175 (by decide) (fun h175 => ?_) (fun h175 => absurd h175 (by decide))
      refine b_iload dX8_copy_188 rfl ?_
      refine b_istore dX8_copy_190 (by decide) ?_
      refine b_aload_n dX8_copy_192 rfl ?_
      refine b_getr dX8_copy_193 gf_X8_16 rfl rfl ?_
      refine b_bipush (v := 50) dX8_copy_196 (by decide) ?_
      refine b_iload_n dX8_copy_198 rfl ?_
      refine b_imul dX8_copy_199 ?_
      refine b_topi (y := nI (50 * oo)) (nI_50 _) ?_
      refine b_iload dX8_copy_200 rfl ?_
      refine b_iadd dX8_copy_202 ?_
      refine b_topi (y := nI (50 * oo + jx)) (nI_add _ _) ?_
      refine b_iload dX8_copy_203 rfl ?_
      refine b_iadd dX8_copy_205 ?_
      refine b_topi (y := nI ((50 * oo + jx) + k)) (nI_add _ _) ?_
      refine b_aload_n dX8_copy_206 rfl ?_
      refine b_getr dX8_copy_207 gf_X8_16 rfl rfl ?_
      refine b_bipush (v := 50) dX8_copy_210 (by decide) ?_
      refine b_iload_n dX8_copy_212 rfl ?_
      refine b_imul dX8_copy_213 ?_
      refine b_topi (y := nI (50 * kk)) (nI_50 _) ?_
      refine b_iload_n dX8_copy_214 rfl ?_
      refine b_iadd dX8_copy_215 ?_
      refine b_topi (y := nI (50 * kk + ii)) (nI_add _ _) ?_
      refine b_iload dX8_copy_216 rfl ?_
      refine b_iadd dX8_copy_218 ?_
      refine b_topi (y := nI ((50 * kk + ii) + k)) (nI_add _ _) ?_
      refine b_ialdN dX8_copy_219 rfl ⟨by omega, by decide⟩ ?_
      refine b_iastN dX8_copy_220 rfl ⟨by omega, by decide⟩ ?_
      refine b_iinc dX8_copy_221 rfl (nI_inc k) (by decide) ?_
      refine b_goto (tgt := 166) dX8_copy_224 (by decide) ?_
      refine b_sub [2, 3, 4, 5, 6, 7, 8, 0] rfl ?_
      refine b_wd (w' := (k_cpy w.1 3 3 (50 * kk + ii) (50 * oo + jx) (k + 1), w.2)) (Prod.ext (cpF_step (by omega)) rfl) ?_
      exact ih (k + 1) (by omega)

set_option maxRecDepth 100000 in
set_option maxHeartbeats 4000000 in
theorem s_X8_copy_b {w : kW} {kk oo ii jx nn : Nat} (hk : kk < 4) (ho : oo < 4) (h1 : ii + nn ≤ 50) (h2 : jx + nn ≤ 50) (hd : kk = oo → ii < jx) : ∀ q k, k + q = nn → BS shM RX8 cX8_copy 10 (some .int) 2 42 (fun r w' => r = some (.int (nI nn)) ∧ (k_cpy w.1 3 3 (50 * kk + ii) (50 * oo + jx) nn, w.2) = w') 166 [(1, .int (nI kk)), (0, .ref 0), (2, .int (nI ii)), (3, .int (nI oo)), (4, .int (nI jx)), (5, .int (nI nn)), (7, .int 1), (8, .int (nI k))] [] (cpB w.1 (50 * kk + ii) (50 * oo + jx) nn k, w.2) := by
  intro q
  have hd2 : kk < oo ∨ oo < kk ∨ (kk = oo ∧ ii < jx) := by
    rcases Nat.lt_trichotomy kk oo with h | h | h
    · exact Or.inl h
    · exact Or.inr (Or.inr ⟨h, hd h⟩)
    · exact Or.inr (Or.inl h)
  induction q with
  | zero =>
    intro k hk
    refine b_iload dX8_copy_166 rfl ?_
    refine b_iload dX8_copy_168 rfl ?_
    refine b_icmp_ge (tgt := 227) dX8_copy_170 (by decide) (fun h170 => ?_) (fun h170 => ?_)
    · refine b_iload dX8_copy_227 rfl ?_
      have e : k = nn := by omega
      subst e
      exact b_iret dX8_copy_229 rfl ⟨rfl, by rw [cpB_n]⟩
    · exact absurd (nI_le (by omega) (by omega)) h170
  | succ q ih =>
    intro k hk
    refine b_iload dX8_copy_166 rfl ?_
    refine b_iload dX8_copy_168 rfl ?_
    refine b_icmp_ge (tgt := 227) dX8_copy_170 (by decide) (fun h170 => ?_) (fun h170 => ?_)
    · exact absurd h170 (nI_ge (by omega) (by omega))
    · refine b_iload dX8_copy_173 rfl ?_
      refine b_if_eq (tgt := 188) dX8_copy_175 (by decide) (fun h175 => absurd h175 (by decide)) (fun h175 => ?_)
      refine b_iload dX8_copy_178 rfl ?_
      refine b_iconst (v := 1) dX8_copy_180 (by decide) ?_
      refine b_isub dX8_copy_181 ?_
      refine b_topi (y := nI (nn - 1)) (nI_sub (b := 1) (by omega)) ?_
      refine b_iload dX8_copy_182 rfl ?_
      refine b_isub dX8_copy_184 ?_
      refine b_topi (y := nI (nn - 1 - k)) (nI_sub (by omega)) ?_
      refine b_goto (tgt := 190) dX8_copy_185 (by decide) ?_
      refine b_istore dX8_copy_190 (by decide) ?_
      refine b_aload_n dX8_copy_192 rfl ?_
      refine b_getr dX8_copy_193 gf_X8_16 rfl rfl ?_
      refine b_bipush (v := 50) dX8_copy_196 (by decide) ?_
      refine b_iload_n dX8_copy_198 rfl ?_
      refine b_imul dX8_copy_199 ?_
      refine b_topi (y := nI (50 * oo)) (nI_50 _) ?_
      refine b_iload dX8_copy_200 rfl ?_
      refine b_iadd dX8_copy_202 ?_
      refine b_topi (y := nI (50 * oo + jx)) (nI_add _ _) ?_
      refine b_iload dX8_copy_203 rfl ?_
      refine b_iadd dX8_copy_205 ?_
      refine b_topi (y := nI ((50 * oo + jx) + (nn - 1 - k))) (nI_add _ _) ?_
      refine b_aload_n dX8_copy_206 rfl ?_
      refine b_getr dX8_copy_207 gf_X8_16 rfl rfl ?_
      refine b_bipush (v := 50) dX8_copy_210 (by decide) ?_
      refine b_iload_n dX8_copy_212 rfl ?_
      refine b_imul dX8_copy_213 ?_
      refine b_topi (y := nI (50 * kk)) (nI_50 _) ?_
      refine b_iload_n dX8_copy_214 rfl ?_
      refine b_iadd dX8_copy_215 ?_
      refine b_topi (y := nI (50 * kk + ii)) (nI_add _ _) ?_
      refine b_iload dX8_copy_216 rfl ?_
      refine b_iadd dX8_copy_218 ?_
      refine b_topi (y := nI ((50 * kk + ii) + (nn - 1 - k))) (nI_add _ _) ?_
      refine b_ialdN dX8_copy_219 rfl ⟨by omega, by decide⟩ ?_
      refine b_iastN dX8_copy_220 rfl ⟨by omega, by decide⟩ ?_
      refine b_iinc dX8_copy_221 rfl (nI_inc k) (by decide) ?_
      refine b_goto (tgt := 166) dX8_copy_224 (by decide) ?_
      refine b_sub [2, 3, 4, 5, 6, 7, 8, 0] rfl ?_
      refine b_wd (w' := (cpB w.1 (50 * kk + ii) (50 * oo + jx) nn (k + 1), w.2)) (Prod.ext (cpB_step (by omega) (by omega)) rfl) ?_
      exact ih (k + 1) (by omega)

set_option maxRecDepth 100000 in
set_option maxHeartbeats 4000000 in
theorem s_X8_copy {w : kW} {k i o j n : Int32} (hS : Shv w) : Spec shM yX8_copy cX8_copy 10 (some .int) 2 42 [.ref 0, .int k, .int i, .int o, .int j, .int n] w (fun r w' => r = some (.int ((R_copy w k i o j n).1)) ∧ (R_copy w k i o j n).2 = w') := by
  refine k_enter pn_X8 (Nat.le_of_ble_eq_true rfl) ?_
  refine b_aload_n dX8_copy_0 rfl ?_
  refine b_iconst (v := 0) dX8_copy_1 (by decide) ?_
  refine b_puti dX8_copy_2 gf_X8_95 gs_X8_0 rfl rfl ?_
  refine b_iload_n dX8_copy_5 rfl ?_
  refine b_callS1 dX8_copy_6 lk_X8_111 ⟨Nat.le_of_ble_eq_true rfl, Nat.le_of_ble_eq_true rfl⟩ (Nat.le_of_ble_eq_true rfl) (s_X8_isSheet) (fun r w6 h6 => ?_)
  obtain ⟨rfl, h6⟩ := h6
  rcases h6 with ⟨rfl, h6⟩ | ⟨rfl, h6⟩
  · refine b_if_eq (tgt := 19) dX8_copy_9 (by decide) (fun h9 => absurd h9 (by decide)) (fun h9 => ?_)
    refine b_iload_n dX8_copy_12 rfl ?_
    refine b_callS1 dX8_copy_13 lk_X8_111 ⟨Nat.le_of_ble_eq_true rfl, Nat.le_of_ble_eq_true rfl⟩ (Nat.le_of_ble_eq_true rfl) (s_X8_isSheet) (fun r w13 h13 => ?_)
    obtain ⟨rfl, h13⟩ := h13
    rcases h13 with ⟨rfl, h13⟩ | ⟨rfl, h13⟩
    · refine b_if_ne (tgt := 21) dX8_copy_16 (by decide) (fun h16 => ?_) (fun h16 => absurd h16 (by decide))
      have hq2 : isS k ∧ isS o := ⟨h6, h13⟩
      obtain ⟨kk, hj, rfl⟩ := sheet_of h6
      obtain ⟨oo, ho, rfl⟩ := sheet_of h13
      obtain ⟨hso, l, hl50, hl⟩ := hS kk hj
      obtain ⟨hso2, l2, hl502, hl2⟩ := hS oo ho
      refine b_aload_n dX8_copy_21 rfl ?_
      refine b_getr dX8_copy_22 gf_X8_9 rfl rfl ?_
      refine b_iload_n dX8_copy_25 rfl ?_
      refine b_ialdN dX8_copy_26 rfl ⟨by omega, by decide⟩ ?_
      refine b_bipush (v := (-9)) dX8_copy_27 (by decide) ?_
      refine b_icmp_eq (tgt := 43) dX8_copy_29 (by decide) (fun h29 => ?_) (fun h29 => ?_)
      · refine b_aload_n dX8_copy_43 rfl ?_
        refine b_iconst (v := 1) dX8_copy_44 (by decide) ?_
        refine b_callV1 dX8_copy_45 lk_X8_122 rfl rfl rfl ⟨Nat.le_of_ble_eq_true rfl, Nat.le_of_ble_eq_true rfl⟩ (Nat.le_of_ble_eq_true rfl) (s_X8_fails) (fun r w45 h45 => ?_)
        obtain ⟨rfl, rfl⟩ := h45
        refine b_iret dX8_copy_48 rfl ⟨?_, ?_⟩
        · simp only [R_copy, if_pos hq2, dn_nI (show kk < 2 ^ 31 by omega), dn_nI (show oo < 2 ^ 31 by omega), if_pos (show w.1 1 kk = -9 ∨ w.1 1 oo = -9 from Or.inl h29)] <;> rfl
        · simp only [R_copy, if_pos hq2, dn_nI (show kk < 2 ^ 31 by omega), dn_nI (show oo < 2 ^ 31 by omega), if_pos (show w.1 1 kk = -9 ∨ w.1 1 oo = -9 from Or.inl h29)] <;> first | rfl | exact (kset_kset _ _ _ _ _).symm
      · refine b_aload_n dX8_copy_32 rfl ?_
        refine b_getr dX8_copy_33 gf_X8_9 rfl rfl ?_
        refine b_iload_n dX8_copy_36 rfl ?_
        refine b_ialdN dX8_copy_37 rfl ⟨by omega, by decide⟩ ?_
        refine b_bipush (v := (-9)) dX8_copy_38 (by decide) ?_
        refine b_icmp_ne (tgt := 49) dX8_copy_40 (by decide) (fun h40 => ?_) (fun h40 => ?_)
        · refine b_aload_n dX8_copy_49 rfl ?_
          refine b_getr dX8_copy_50 gf_X8_9 rfl rfl ?_
          refine b_iload_n dX8_copy_53 rfl ?_
          refine b_ialdN dX8_copy_54 rfl ⟨by omega, by decide⟩ ?_
          refine b_aload_n dX8_copy_55 rfl ?_
          refine b_getr dX8_copy_56 gf_X8_9 rfl rfl ?_
          refine b_iload_n dX8_copy_59 rfl ?_
          refine b_ialdN dX8_copy_60 rfl ⟨by omega, by decide⟩ ?_
          refine b_icmp_eq (tgt := 70) dX8_copy_61 (by decide) (fun h61 => ?_) (fun h61 => ?_)
          · refine b_iload_n dX8_copy_70 rfl ?_
            refine b_if_lt (tgt := 109) dX8_copy_71 (by decide) (fun h71 => ?_) (fun h71 => ?_)
            · refine b_iconst (v := 0) dX8_copy_109 (by decide) ?_
              refine b_istore dX8_copy_110 (by decide) ?_
              refine b_iload dX8_copy_112 rfl ?_
              refine b_if_eq (tgt := 144) dX8_copy_114 (by decide) (fun h114 => ?_) (fun h114 => absurd h114 (by decide))
              refine b_aload_n dX8_copy_144 rfl ?_
              refine b_iconst (v := 3) dX8_copy_145 (by decide) ?_
              refine b_callV1 dX8_copy_146 lk_X8_122 rfl rfl rfl ⟨Nat.le_of_ble_eq_true rfl, Nat.le_of_ble_eq_true rfl⟩ (Nat.le_of_ble_eq_true rfl) (s_X8_fails) (fun r w146 h146 => ?_)
              obtain ⟨rfl, rfl⟩ := h146
              refine b_iret dX8_copy_149 rfl ⟨?_, ?_⟩
              · simp only [R_copy, if_pos hq2, dn_nI (show kk < 2 ^ 31 by omega), dn_nI (show oo < 2 ^ 31 by omega), if_neg (show ¬ (w.1 1 kk = -9 ∨ w.1 1 oo = -9) from fun z => z.elim h29 h40), if_pos (show w.1 1 kk = w.1 1 oo from h61), if_neg (show ¬ cpOk w kk oo i j n from fun z => z.1 h71)] <;> rfl
              · simp only [R_copy, if_pos hq2, dn_nI (show kk < 2 ^ 31 by omega), dn_nI (show oo < 2 ^ 31 by omega), if_neg (show ¬ (w.1 1 kk = -9 ∨ w.1 1 oo = -9) from fun z => z.elim h29 h40), if_pos (show w.1 1 kk = w.1 1 oo from h61), if_neg (show ¬ cpOk w kk oo i j n from fun z => z.1 h71)] <;> first | rfl | exact (kset_kset _ _ _ _ _).symm
            · refine b_iload dX8_copy_74 rfl ?_
              refine b_if_lt (tgt := 109) dX8_copy_76 (by decide) (fun h76 => ?_) (fun h76 => ?_)
              · refine b_iconst (v := 0) dX8_copy_109 (by decide) ?_
                refine b_istore dX8_copy_110 (by decide) ?_
                refine b_iload dX8_copy_112 rfl ?_
                refine b_if_eq (tgt := 144) dX8_copy_114 (by decide) (fun h114 => ?_) (fun h114 => absurd h114 (by decide))
                refine b_aload_n dX8_copy_144 rfl ?_
                refine b_iconst (v := 3) dX8_copy_145 (by decide) ?_
                refine b_callV1 dX8_copy_146 lk_X8_122 rfl rfl rfl ⟨Nat.le_of_ble_eq_true rfl, Nat.le_of_ble_eq_true rfl⟩ (Nat.le_of_ble_eq_true rfl) (s_X8_fails) (fun r w146 h146 => ?_)
                obtain ⟨rfl, rfl⟩ := h146
                refine b_iret dX8_copy_149 rfl ⟨?_, ?_⟩
                · simp only [R_copy, if_pos hq2, dn_nI (show kk < 2 ^ 31 by omega), dn_nI (show oo < 2 ^ 31 by omega), if_neg (show ¬ (w.1 1 kk = -9 ∨ w.1 1 oo = -9) from fun z => z.elim h29 h40), if_pos (show w.1 1 kk = w.1 1 oo from h61), if_neg (show ¬ cpOk w kk oo i j n from fun z => z.2.1 h76)] <;> rfl
                · simp only [R_copy, if_pos hq2, dn_nI (show kk < 2 ^ 31 by omega), dn_nI (show oo < 2 ^ 31 by omega), if_neg (show ¬ (w.1 1 kk = -9 ∨ w.1 1 oo = -9) from fun z => z.elim h29 h40), if_pos (show w.1 1 kk = w.1 1 oo from h61), if_neg (show ¬ cpOk w kk oo i j n from fun z => z.2.1 h76)] <;> first | rfl | exact (kset_kset _ _ _ _ _).symm
              · refine b_iload dX8_copy_79 rfl ?_
                refine b_if_lt (tgt := 109) dX8_copy_81 (by decide) (fun h81 => ?_) (fun h81 => ?_)
                · refine b_iconst (v := 0) dX8_copy_109 (by decide) ?_
                  refine b_istore dX8_copy_110 (by decide) ?_
                  refine b_iload dX8_copy_112 rfl ?_
                  refine b_if_eq (tgt := 144) dX8_copy_114 (by decide) (fun h114 => ?_) (fun h114 => absurd h114 (by decide))
                  refine b_aload_n dX8_copy_144 rfl ?_
                  refine b_iconst (v := 3) dX8_copy_145 (by decide) ?_
                  refine b_callV1 dX8_copy_146 lk_X8_122 rfl rfl rfl ⟨Nat.le_of_ble_eq_true rfl, Nat.le_of_ble_eq_true rfl⟩ (Nat.le_of_ble_eq_true rfl) (s_X8_fails) (fun r w146 h146 => ?_)
                  obtain ⟨rfl, rfl⟩ := h146
                  refine b_iret dX8_copy_149 rfl ⟨?_, ?_⟩
                  · simp only [R_copy, if_pos hq2, dn_nI (show kk < 2 ^ 31 by omega), dn_nI (show oo < 2 ^ 31 by omega), if_neg (show ¬ (w.1 1 kk = -9 ∨ w.1 1 oo = -9) from fun z => z.elim h29 h40), if_pos (show w.1 1 kk = w.1 1 oo from h61), if_neg (show ¬ cpOk w kk oo i j n from fun z => z.2.2.1 h81)] <;> rfl
                  · simp only [R_copy, if_pos hq2, dn_nI (show kk < 2 ^ 31 by omega), dn_nI (show oo < 2 ^ 31 by omega), if_neg (show ¬ (w.1 1 kk = -9 ∨ w.1 1 oo = -9) from fun z => z.elim h29 h40), if_pos (show w.1 1 kk = w.1 1 oo from h61), if_neg (show ¬ cpOk w kk oo i j n from fun z => z.2.2.1 h81)] <;> first | rfl | exact (kset_kset _ _ _ _ _).symm
                · refine b_iload_n dX8_copy_84 rfl ?_
                  refine b_aload_n dX8_copy_85 rfl ?_
                  refine b_getr dX8_copy_86 gf_X8_13 rfl rfl ?_
                  refine b_iload_n dX8_copy_89 rfl ?_
                  refine b_ialdN dX8_copy_90 rfl ⟨by omega, by decide⟩ ?_
                  refine b_icmp_gt (tgt := 109) dX8_copy_91 (by decide) (fun h91 => ?_) (fun h91 => ?_)
                  · refine b_iconst (v := 0) dX8_copy_109 (by decide) ?_
                    refine b_istore dX8_copy_110 (by decide) ?_
                    refine b_iload dX8_copy_112 rfl ?_
                    refine b_if_eq (tgt := 144) dX8_copy_114 (by decide) (fun h114 => ?_) (fun h114 => absurd h114 (by decide))
                    refine b_aload_n dX8_copy_144 rfl ?_
                    refine b_iconst (v := 3) dX8_copy_145 (by decide) ?_
                    refine b_callV1 dX8_copy_146 lk_X8_122 rfl rfl rfl ⟨Nat.le_of_ble_eq_true rfl, Nat.le_of_ble_eq_true rfl⟩ (Nat.le_of_ble_eq_true rfl) (s_X8_fails) (fun r w146 h146 => ?_)
                    obtain ⟨rfl, rfl⟩ := h146
                    refine b_iret dX8_copy_149 rfl ⟨?_, ?_⟩
                    · simp only [R_copy, if_pos hq2, dn_nI (show kk < 2 ^ 31 by omega), dn_nI (show oo < 2 ^ 31 by omega), if_neg (show ¬ (w.1 1 kk = -9 ∨ w.1 1 oo = -9) from fun z => z.elim h29 h40), if_pos (show w.1 1 kk = w.1 1 oo from h61), if_neg (show ¬ cpOk w kk oo i j n from fun z => absurd z.2.2.2.1 (Int32.not_le.mpr h91))] <;> rfl
                    · simp only [R_copy, if_pos hq2, dn_nI (show kk < 2 ^ 31 by omega), dn_nI (show oo < 2 ^ 31 by omega), if_neg (show ¬ (w.1 1 kk = -9 ∨ w.1 1 oo = -9) from fun z => z.elim h29 h40), if_pos (show w.1 1 kk = w.1 1 oo from h61), if_neg (show ¬ cpOk w kk oo i j n from fun z => absurd z.2.2.2.1 (Int32.not_le.mpr h91))] <;> first | rfl | exact (kset_kset _ _ _ _ _).symm
                  · refine b_iload dX8_copy_94 rfl ?_
                    refine b_aload_n dX8_copy_96 rfl ?_
                    refine b_getr dX8_copy_97 gf_X8_13 rfl rfl ?_
                    refine b_iload_n dX8_copy_100 rfl ?_
                    refine b_ialdN dX8_copy_101 rfl ⟨by omega, by decide⟩ ?_
                    refine b_icmp_gt (tgt := 109) dX8_copy_102 (by decide) (fun h102 => ?_) (fun h102 => ?_)
                    · refine b_iconst (v := 0) dX8_copy_109 (by decide) ?_
                      refine b_istore dX8_copy_110 (by decide) ?_
                      refine b_iload dX8_copy_112 rfl ?_
                      refine b_if_eq (tgt := 144) dX8_copy_114 (by decide) (fun h114 => ?_) (fun h114 => absurd h114 (by decide))
                      refine b_aload_n dX8_copy_144 rfl ?_
                      refine b_iconst (v := 3) dX8_copy_145 (by decide) ?_
                      refine b_callV1 dX8_copy_146 lk_X8_122 rfl rfl rfl ⟨Nat.le_of_ble_eq_true rfl, Nat.le_of_ble_eq_true rfl⟩ (Nat.le_of_ble_eq_true rfl) (s_X8_fails) (fun r w146 h146 => ?_)
                      obtain ⟨rfl, rfl⟩ := h146
                      refine b_iret dX8_copy_149 rfl ⟨?_, ?_⟩
                      · simp only [R_copy, if_pos hq2, dn_nI (show kk < 2 ^ 31 by omega), dn_nI (show oo < 2 ^ 31 by omega), if_neg (show ¬ (w.1 1 kk = -9 ∨ w.1 1 oo = -9) from fun z => z.elim h29 h40), if_pos (show w.1 1 kk = w.1 1 oo from h61), if_neg (show ¬ cpOk w kk oo i j n from fun z => absurd z.2.2.2.2.1 (Int32.not_le.mpr h102))] <;> rfl
                      · simp only [R_copy, if_pos hq2, dn_nI (show kk < 2 ^ 31 by omega), dn_nI (show oo < 2 ^ 31 by omega), if_neg (show ¬ (w.1 1 kk = -9 ∨ w.1 1 oo = -9) from fun z => z.elim h29 h40), if_pos (show w.1 1 kk = w.1 1 oo from h61), if_neg (show ¬ cpOk w kk oo i j n from fun z => absurd z.2.2.2.2.1 (Int32.not_le.mpr h102))] <;> first | rfl | exact (kset_kset _ _ _ _ _).symm
                    · refine b_iconst (v := 1) dX8_copy_105 (by decide) ?_
                      refine b_goto (tgt := 110) dX8_copy_106 (by decide) ?_
                      refine b_istore dX8_copy_110 (by decide) ?_
                      refine b_iload dX8_copy_112 rfl ?_
                      refine b_if_eq (tgt := 144) dX8_copy_114 (by decide) (fun h114 => absurd h114 (by decide)) (fun h114 => ?_)
                      refine b_iload dX8_copy_117 rfl ?_
                      refine b_aload_n dX8_copy_119 rfl ?_
                      refine b_getr dX8_copy_120 gf_X8_13 rfl rfl ?_
                      refine b_iload_n dX8_copy_123 rfl ?_
                      refine b_ialdN dX8_copy_124 rfl ⟨by omega, by decide⟩ ?_
                      refine b_iload_n dX8_copy_125 rfl ?_
                      refine b_isub dX8_copy_126 ?_
                      refine b_icmp_gt (tgt := 144) dX8_copy_127 (by decide) (fun h127 => ?_) (fun h127 => ?_)
                      · refine b_aload_n dX8_copy_144 rfl ?_
                        refine b_iconst (v := 3) dX8_copy_145 (by decide) ?_
                        refine b_callV1 dX8_copy_146 lk_X8_122 rfl rfl rfl ⟨Nat.le_of_ble_eq_true rfl, Nat.le_of_ble_eq_true rfl⟩ (Nat.le_of_ble_eq_true rfl) (s_X8_fails) (fun r w146 h146 => ?_)
                        obtain ⟨rfl, rfl⟩ := h146
                        refine b_iret dX8_copy_149 rfl ⟨?_, ?_⟩
                        · simp only [R_copy, if_pos hq2, dn_nI (show kk < 2 ^ 31 by omega), dn_nI (show oo < 2 ^ 31 by omega), if_neg (show ¬ (w.1 1 kk = -9 ∨ w.1 1 oo = -9) from fun z => z.elim h29 h40), if_pos (show w.1 1 kk = w.1 1 oo from h61), if_neg (show ¬ cpOk w kk oo i j n from fun z => absurd z.2.2.2.2.2.1 (Int32.not_le.mpr h127))] <;> rfl
                        · simp only [R_copy, if_pos hq2, dn_nI (show kk < 2 ^ 31 by omega), dn_nI (show oo < 2 ^ 31 by omega), if_neg (show ¬ (w.1 1 kk = -9 ∨ w.1 1 oo = -9) from fun z => z.elim h29 h40), if_pos (show w.1 1 kk = w.1 1 oo from h61), if_neg (show ¬ cpOk w kk oo i j n from fun z => absurd z.2.2.2.2.2.1 (Int32.not_le.mpr h127))] <;> first | rfl | exact (kset_kset _ _ _ _ _).symm
                      · refine b_iload dX8_copy_130 rfl ?_
                        refine b_aload_n dX8_copy_132 rfl ?_
                        refine b_getr dX8_copy_133 gf_X8_13 rfl rfl ?_
                        refine b_iload_n dX8_copy_136 rfl ?_
                        refine b_ialdN dX8_copy_137 rfl ⟨by omega, by decide⟩ ?_
                        refine b_iload dX8_copy_138 rfl ?_
                        refine b_isub dX8_copy_140 ?_
                        refine b_icmp_le (tgt := 150) dX8_copy_141 (by decide) (fun h141 => ?_) (fun h141 => ?_)
                        · have hok : cpOk w kk oo i j n := ⟨h71, h76, h81, Int32.not_lt.mp h91, Int32.not_lt.mp h102, Int32.not_lt.mp h127, h141⟩
                          have hok2 := hok
                          obtain ⟨c1, c2, c3, c4, c5, c6, c7⟩ := hok2
                          obtain ⟨ii, hi, rfl⟩ := nle_of (l := l) (by omega) c1 (by rw [← hl]; exact c4)
                          obtain ⟨jx, hjx, rfl⟩ := nle_of (l := l2) (by omega) c2 (by rw [← hl2]; exact c5)
                          rw [hl, nI_sub hi] at c6
                          rw [hl2, nI_sub hjx] at c7
                          obtain ⟨nn, hnn, rfl⟩ := nle_of (l := l - ii) (by omega) c3 c6
                          have hnn2 := (nI_leI (by omega) (by omega)).mp c7
                          refine b_iload_n dX8_copy_150 rfl ?_
                          refine b_iload dX8_copy_151 rfl ?_
                          refine b_icmp_ge (tgt := 160) dX8_copy_153 (by decide) (fun h153 => ?_) (fun h153 => ?_)
                          · refine b_iconst (v := 0) dX8_copy_160 (by decide) ?_
                            refine b_istore dX8_copy_161 (by decide) ?_
                            refine b_iconst (v := 0) dX8_copy_163 (by decide) ?_
                            refine b_istore dX8_copy_164 (by decide) ?_
                            refine b_sub [4, 3, 5, 6, 7, 8, 1, 0] rfl ?_
                            refine b_wd (w' := (k_cpy (kset w 0 0 0).1 3 3 (50 * kk + ii) (50 * oo + jx) 0, w.2)) (by rw [cpF_0]; rfl) ?_
                            refine (s_X8_copy_f (w := kset w 0 0 0) (kk := kk) (oo := oo) (ii := ii) (jx := jx) (nn := nn) hj ho (by omega) (by omega) (fun _ => (nI_leI (by omega) (by omega)).mp h153) nn 0 (by omega)).mono (fun r w1 h => ?_)
                            simp only [R_copy, if_pos hq2, dn_nI (show kk < 2 ^ 31 by omega), dn_nI (show oo < 2 ^ 31 by omega), if_neg (show ¬ (w.1 1 kk = -9 ∨ w.1 1 oo = -9) from fun z => z.elim h29 h40), if_pos (show w.1 1 kk = w.1 1 oo from h61), if_pos hok, dn_nI (show ii < 2 ^ 31 by omega), dn_nI (show jx < 2 ^ 31 by omega), dn_nI (show nn < 2 ^ 31 by omega)]
                            exact h
                          · refine b_iconst (v := 1) dX8_copy_156 (by decide) ?_
                            refine b_goto (tgt := 161) dX8_copy_157 (by decide) ?_
                            refine b_istore dX8_copy_161 (by decide) ?_
                            refine b_iconst (v := 0) dX8_copy_163 (by decide) ?_
                            refine b_istore dX8_copy_164 (by decide) ?_
                            refine b_sub [4, 3, 5, 6, 7, 8, 1, 0] rfl ?_
                            refine b_wd (w' := (cpB (kset w 0 0 0).1 (50 * kk + ii) (50 * oo + jx) nn 0, w.2)) (by rw [cpB_0]; rfl) ?_
                            refine (s_X8_copy_b (w := kset w 0 0 0) (kk := kk) (oo := oo) (ii := ii) (jx := jx) (nn := nn) hj ho (by omega) (by omega) (fun _ => by have := (nI_leI (a := jx) (b := ii) (by omega) (by omega)); exact Nat.not_le.mp (fun z => h153 (this.mpr z))) nn 0 (by omega)).mono (fun r w1 h => ?_)
                            simp only [R_copy, if_pos hq2, dn_nI (show kk < 2 ^ 31 by omega), dn_nI (show oo < 2 ^ 31 by omega), if_neg (show ¬ (w.1 1 kk = -9 ∨ w.1 1 oo = -9) from fun z => z.elim h29 h40), if_pos (show w.1 1 kk = w.1 1 oo from h61), if_pos hok, dn_nI (show ii < 2 ^ 31 by omega), dn_nI (show jx < 2 ^ 31 by omega), dn_nI (show nn < 2 ^ 31 by omega)]
                            exact h
                        · refine b_aload_n dX8_copy_144 rfl ?_
                          refine b_iconst (v := 3) dX8_copy_145 (by decide) ?_
                          refine b_callV1 dX8_copy_146 lk_X8_122 rfl rfl rfl ⟨Nat.le_of_ble_eq_true rfl, Nat.le_of_ble_eq_true rfl⟩ (Nat.le_of_ble_eq_true rfl) (s_X8_fails) (fun r w146 h146 => ?_)
                          obtain ⟨rfl, rfl⟩ := h146
                          refine b_iret dX8_copy_149 rfl ⟨?_, ?_⟩
                          · simp only [R_copy, if_pos hq2, dn_nI (show kk < 2 ^ 31 by omega), dn_nI (show oo < 2 ^ 31 by omega), if_neg (show ¬ (w.1 1 kk = -9 ∨ w.1 1 oo = -9) from fun z => z.elim h29 h40), if_pos (show w.1 1 kk = w.1 1 oo from h61), if_neg (show ¬ cpOk w kk oo i j n from fun z => h141 z.2.2.2.2.2.2)] <;> rfl
                          · simp only [R_copy, if_pos hq2, dn_nI (show kk < 2 ^ 31 by omega), dn_nI (show oo < 2 ^ 31 by omega), if_neg (show ¬ (w.1 1 kk = -9 ∨ w.1 1 oo = -9) from fun z => z.elim h29 h40), if_pos (show w.1 1 kk = w.1 1 oo from h61), if_neg (show ¬ cpOk w kk oo i j n from fun z => h141 z.2.2.2.2.2.2)] <;> first | rfl | exact (kset_kset _ _ _ _ _).symm
          · refine b_aload_n dX8_copy_64 rfl ?_
            refine b_iconst (v := 2) dX8_copy_65 (by decide) ?_
            refine b_callV1 dX8_copy_66 lk_X8_122 rfl rfl rfl ⟨Nat.le_of_ble_eq_true rfl, Nat.le_of_ble_eq_true rfl⟩ (Nat.le_of_ble_eq_true rfl) (s_X8_fails) (fun r w66 h66 => ?_)
            obtain ⟨rfl, rfl⟩ := h66
            refine b_iret dX8_copy_69 rfl ⟨?_, ?_⟩
            · simp only [R_copy, if_pos hq2, dn_nI (show kk < 2 ^ 31 by omega), dn_nI (show oo < 2 ^ 31 by omega), if_neg (show ¬ (w.1 1 kk = -9 ∨ w.1 1 oo = -9) from fun z => z.elim h29 h40), if_neg (show ¬ w.1 1 kk = w.1 1 oo from h61)] <;> rfl
            · simp only [R_copy, if_pos hq2, dn_nI (show kk < 2 ^ 31 by omega), dn_nI (show oo < 2 ^ 31 by omega), if_neg (show ¬ (w.1 1 kk = -9 ∨ w.1 1 oo = -9) from fun z => z.elim h29 h40), if_neg (show ¬ w.1 1 kk = w.1 1 oo from h61)] <;> first | rfl | exact (kset_kset _ _ _ _ _).symm
        · refine b_aload_n dX8_copy_43 rfl ?_
          refine b_iconst (v := 1) dX8_copy_44 (by decide) ?_
          refine b_callV1 dX8_copy_45 lk_X8_122 rfl rfl rfl ⟨Nat.le_of_ble_eq_true rfl, Nat.le_of_ble_eq_true rfl⟩ (Nat.le_of_ble_eq_true rfl) (s_X8_fails) (fun r w45 h45 => ?_)
          obtain ⟨rfl, rfl⟩ := h45
          refine b_iret dX8_copy_48 rfl ⟨?_, ?_⟩
          · simp only [R_copy, if_pos hq2, dn_nI (show kk < 2 ^ 31 by omega), dn_nI (show oo < 2 ^ 31 by omega), if_pos (show w.1 1 kk = -9 ∨ w.1 1 oo = -9 from Or.inr h40)] <;> rfl
          · simp only [R_copy, if_pos hq2, dn_nI (show kk < 2 ^ 31 by omega), dn_nI (show oo < 2 ^ 31 by omega), if_pos (show w.1 1 kk = -9 ∨ w.1 1 oo = -9 from Or.inr h40)] <;> first | rfl | exact (kset_kset _ _ _ _ _).symm
    · refine b_if_ne (tgt := 21) dX8_copy_16 (by decide) (fun h16 => absurd h16 (by decide)) (fun h16 => ?_)
      refine b_iconst (v := (-1)) dX8_copy_19 (by decide) ?_
      refine b_iret dX8_copy_20 rfl ⟨?_, ?_⟩
      · simp only [R_copy, if_neg (show ¬ (isS k ∧ isS o) from fun z => h13 z.2)] <;> rfl
      · simp only [R_copy, if_neg (show ¬ (isS k ∧ isS o) from fun z => h13 z.2)] <;> first | rfl | exact (kset_kset _ _ _ _ _).symm
  · refine b_if_eq (tgt := 19) dX8_copy_9 (by decide) (fun h9 => ?_) (fun h9 => absurd h9 (by decide))
    refine b_iconst (v := (-1)) dX8_copy_19 (by decide) ?_
    refine b_iret dX8_copy_20 rfl ⟨?_, ?_⟩
    · simp only [R_copy, if_neg (show ¬ (isS k ∧ isS o) from fun z => h6 z.1)] <;> rfl
    · simp only [R_copy, if_neg (show ¬ (isS k ∧ isS o) from fun z => h6 z.1)] <;> first | rfl | exact (kset_kset _ _ _ _ _).symm
