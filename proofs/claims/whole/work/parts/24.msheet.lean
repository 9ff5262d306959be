/-! ===== the sheets of the reference ===== -/
abbrev isS (k : Int32) : Prop := 0 ≤ k ∧ k ≤ 3
abbrev isT (k : Int32) : Prop := 0 ≤ k ∧ k ≤ 2
theorem sheet_of {x : Int32} (h : 0 ≤ x ∧ x ≤ 3) : ∃ k, k < 4 ∧ x = nI k := by
  obtain ⟨j, hj, e⟩ := nI_of2 (n := 3) (M := 3) (by decide) (Int32.not_lt.mpr h.1) h.2
  exact ⟨j, by omega, e⟩
theorem sheet_in {k : Nat} (h : k < 4) : isS (nI k) := ⟨nI_pos' (by omega), nI_le (b := 3) (by omega) (by omega)⟩
theorem nI_50 (j : Nat) : 50 * nI j = nI (50 * j) := nI_mul 50 j
theorem idx_of {x : Int32} {l : Nat} (hl : l ≤ 50) (h : 0 ≤ x ∧ x ≤ nI l - 1) : ∃ i, i < l ∧ x = nI i := by
  obtain ⟨j, hj, rfl⟩ := nI_of (Int32.not_lt.mpr h.1)
  rcases Nat.eq_zero_or_pos l with e | e
  · subst e
    have h2 := h.2
    rw [Int32.le_iff_toInt_le, nI_toInt hj, show (nI 0 - 1).toInt = -1 from by decide] at h2
    omega
  · obtain ⟨l', rfl⟩ : ∃ l', l = l' + 1 := ⟨l - 1, by omega⟩
    have h2 := h.2
    rw [nI_predS] at h2
    have := (nI_leI hj (by omega)).mp h2
    exact ⟨j, by omega, rfl⟩
def mAg (w : kW) (j : Nat) (sort i n : Int32) : Int32 := if ¬ w.1 1 j = -9 ∧ ¬ w.1 1 j = sort then 2 else if w.1 1 j = -9 then 1 else if 0 ≤ n then (if ¬ i < 0 ∧ i ≤ w.1 2 j ∧ n ≤ w.1 2 j - i then 0 else 3) else 4
def zeroC (w : kW) (j : Nat) : Nat → kW
  | 0 => w
  | k + 1 => kset (zeroC w j k) 3 (50 * j + k) 0
def R_sheet (w : kW) (k sort n : Int32) : Int32 × kW := if isS k then (if isT sort ∧ n ≤ 50 then (if 0 ≤ n then (1, zeroC (kset (kset (kset w 0 0 0) 1 (dn k) sort) 2 (dn k) n) (dn k) 50) else (-14, kset w 0 0 4)) else (-2, kset w 0 0 0)) else (-1, kset w 0 0 0)
def R_lose (w : kW) (k : Int32) : Int32 × kW := if isS k then (if w.1 1 (dn k) = -9 then 0 else 1, kset w 1 (dn k) (-9)) else (-1, w)
def mCut (s v : Int32) : Int32 := if s = 0 then v.toInt8.toInt32 else if s = 1 then v.toInt16.toInt32 else v
def R_put (w : kW) (k i v : Int32) : Int32 × kW := if isS k then (if w.1 1 (dn k) = -9 then (-11, kset w 0 0 1) else if 0 ≤ i ∧ i ≤ w.1 2 (dn k) - 1 then (1, kset (kset w 0 0 0) 3 (50 * dn k + dn i) (mCut (w.1 1 (dn k)) v)) else (-13, kset w 0 0 3)) else (-1, kset w 0 0 0)
abbrev LOSTv : Int64 := -9223372036854775808
def R_cell (w : kW) (k i sort : Int32) : Int64 × kW := if isS k ∧ isT sort then (if ¬ w.1 1 (dn k) = -9 ∧ ¬ w.1 1 (dn k) = sort then (LOSTv, kset w 0 0 2) else if w.1 1 (dn k) = -9 then (LOSTv, kset w 0 0 1) else if 0 ≤ i ∧ i ≤ w.1 2 (dn k) - 1 then ((w.1 3 (50 * dn k + dn i)).toInt64, kset w 0 0 0) else (LOSTv, kset w 0 0 3)) else (LOSTv, kset w 0 0 0)
abbrev cpOk (w : kW) (k o : Nat) (i j n : Int32) : Prop := ¬ i < 0 ∧ ¬ j < 0 ∧ ¬ n < 0 ∧ i ≤ w.1 2 k ∧ j ≤ w.1 2 o ∧ n ≤ w.1 2 k - i ∧ n ≤ w.1 2 o - j
def R_copy (w : kW) (k i o j n : Int32) : Int32 × kW := if isS k ∧ isS o then (if w.1 1 (dn k) = -9 ∨ w.1 1 (dn o) = -9 then (-11, kset w 0 0 1) else if w.1 1 (dn k) = w.1 1 (dn o) then (if cpOk w (dn k) (dn o) i j n then (n, ((k_cpy (kset w 0 0 0).1 3 3 (50 * dn k + dn i) (50 * dn o + dn j) (dn n)), w.2)) else (-13, kset w 0 0 3)) else (-12, kset w 0 0 2)) else (-1, kset w 0 0 0)

set_option maxRecDepth 100000 in
set_option maxHeartbeats 4000000 in
theorem s_X8_against {w : kW} {j : Nat} {sort i n : Int32} (hj : j < 4) : Spec shM yX8_against cX8_against 5 (some .int) 0 0 [.ref 0, .int (nI j), .int sort, .int i, .int n] w (fun r w' => r = some (.int (mAg w j sort i n)) ∧ w = w') := by
  refine k_enter pn_X8 (Nat.le_of_ble_eq_true rfl) ?_
  refine b_aload_n dX8_against_0 rfl ?_
  refine b_getr dX8_against_1 gf_X8_9 rfl rfl ?_
  refine b_iload_n dX8_against_4 rfl ?_
  refine b_ialdN dX8_against_5 rfl ⟨by omega, by decide⟩ ?_
  refine b_bipush (v := (-9)) dX8_against_6 (by decide) ?_
  refine b_icmp_eq (tgt := 23) dX8_against_8 (by decide) (fun h8 => ?_) (fun h8 => ?_)
  · refine b_aload_n dX8_against_23 rfl ?_
    refine b_getr dX8_against_24 gf_X8_9 rfl rfl ?_
    refine b_iload_n dX8_against_27 rfl ?_
    refine b_ialdN dX8_against_28 rfl ⟨by omega, by decide⟩ ?_
    refine b_bipush (v := (-9)) dX8_against_29 (by decide) ?_
    refine b_icmp_ne (tgt := 36) dX8_against_31 (by decide) (fun h31 => ?_) (fun h31 => ?_)
    · exact absurd h8 h31
    · refine b_iconst (v := 1) dX8_against_34 (by decide) ?_
      exact b_iret dX8_against_35 rfl ⟨by simp only [mAg, if_neg (show ¬ (¬ w.1 1 j = -9 ∧ ¬ w.1 1 j = sort) from fun z => z.1 h8), if_pos h31], rfl⟩
  · refine b_aload_n dX8_against_11 rfl ?_
    refine b_getr dX8_against_12 gf_X8_9 rfl rfl ?_
    refine b_iload_n dX8_against_15 rfl ?_
    refine b_ialdN dX8_against_16 rfl ⟨by omega, by decide⟩ ?_
    refine b_iload_n dX8_against_17 rfl ?_
    refine b_icmp_eq (tgt := 23) dX8_against_18 (by decide) (fun h18 => ?_) (fun h18 => ?_)
    · refine b_aload_n dX8_against_23 rfl ?_
      refine b_getr dX8_against_24 gf_X8_9 rfl rfl ?_
      refine b_iload_n dX8_against_27 rfl ?_
      refine b_ialdN dX8_against_28 rfl ⟨by omega, by decide⟩ ?_
      refine b_bipush (v := (-9)) dX8_against_29 (by decide) ?_
      refine b_icmp_ne (tgt := 36) dX8_against_31 (by decide) (fun h31 => ?_) (fun h31 => ?_)
      · refine b_iload dX8_against_36 rfl ?_
        refine b_if_ge (tgt := 43) dX8_against_38 (by decide) (fun h38 => ?_) (fun h38 => ?_)
        · refine b_iload_n dX8_against_43 rfl ?_
          refine b_if_lt (tgt := 70) dX8_against_44 (by decide) (fun h44 => ?_) (fun h44 => ?_)
          · refine b_iconst (v := 3) dX8_against_70 (by decide) ?_
            refine b_goto (tgt := 75) dX8_against_71 (by decide) ?_
            exact b_iret dX8_against_75 rfl ⟨by simp only [mAg, if_neg (show ¬ (¬ w.1 1 j = -9 ∧ ¬ w.1 1 j = sort) from fun z => z.2 h18), if_neg h31, if_pos h38, if_neg (show ¬ (¬ i < 0 ∧ i ≤ w.1 2 j ∧ n ≤ w.1 2 j - i) from fun z => z.1 h44)], rfl⟩
          · refine b_iload_n dX8_against_47 rfl ?_
            refine b_aload_n dX8_against_48 rfl ?_
            refine b_getr dX8_against_49 gf_X8_13 rfl rfl ?_
            refine b_iload_n dX8_against_52 rfl ?_
            refine b_ialdN dX8_against_53 rfl ⟨by omega, by decide⟩ ?_
            refine b_icmp_gt (tgt := 70) dX8_against_54 (by decide) (fun h54 => ?_) (fun h54 => ?_)
            · refine b_iconst (v := 3) dX8_against_70 (by decide) ?_
              refine b_goto (tgt := 75) dX8_against_71 (by decide) ?_
              exact b_iret dX8_against_75 rfl ⟨by simp only [mAg, if_neg (show ¬ (¬ w.1 1 j = -9 ∧ ¬ w.1 1 j = sort) from fun z => z.2 h18), if_neg h31, if_pos h38, if_neg (show ¬ (¬ i < 0 ∧ i ≤ w.1 2 j ∧ n ≤ w.1 2 j - i) from fun z => absurd z.2.1 (Int32.not_le.mpr h54))], rfl⟩
            · refine b_iload dX8_against_57 rfl ?_
              refine b_aload_n dX8_against_59 rfl ?_
              refine b_getr dX8_against_60 gf_X8_13 rfl rfl ?_
              refine b_iload_n dX8_against_63 rfl ?_
              refine b_ialdN dX8_against_64 rfl ⟨by omega, by decide⟩ ?_
              refine b_iload_n dX8_against_65 rfl ?_
              refine b_isub dX8_against_66 ?_
              refine b_icmp_le (tgt := 74) dX8_against_67 (by decide) (fun h67 => ?_) (fun h67 => ?_)
              · refine b_iconst (v := 0) dX8_against_74 (by decide) ?_
                exact b_iret dX8_against_75 rfl ⟨by simp only [mAg, if_neg (show ¬ (¬ w.1 1 j = -9 ∧ ¬ w.1 1 j = sort) from fun z => z.2 h18), if_neg h31, if_pos h38, if_pos (show ¬ i < 0 ∧ i ≤ w.1 2 j ∧ n ≤ w.1 2 j - i from ⟨h44, Int32.not_lt.mp h54, h67⟩)], rfl⟩
              · refine b_iconst (v := 3) dX8_against_70 (by decide) ?_
                refine b_goto (tgt := 75) dX8_against_71 (by decide) ?_
                exact b_iret dX8_against_75 rfl ⟨by simp only [mAg, if_neg (show ¬ (¬ w.1 1 j = -9 ∧ ¬ w.1 1 j = sort) from fun z => z.2 h18), if_neg h31, if_pos h38, if_neg (show ¬ (¬ i < 0 ∧ i ≤ w.1 2 j ∧ n ≤ w.1 2 j - i) from fun z => h67 z.2.2)], rfl⟩
        · refine b_iconst (v := 4) dX8_against_41 (by decide) ?_
          exact b_iret dX8_against_42 rfl ⟨by simp only [mAg, if_neg (show ¬ (¬ w.1 1 j = -9 ∧ ¬ w.1 1 j = sort) from fun z => z.2 h18), if_neg h31, if_neg h38], rfl⟩
      · exact absurd h31 h8
    · refine b_iconst (v := 2) dX8_against_21 (by decide) ?_
      exact b_iret dX8_against_22 rfl ⟨by simp only [mAg, if_pos (show ¬ w.1 1 j = -9 ∧ ¬ w.1 1 j = sort from ⟨h8, h18⟩)], rfl⟩

set_option maxRecDepth 100000 in
set_option maxHeartbeats 4000000 in
theorem s_X8_sheet_lp {w : kW} {jj : Nat} (hj : jj < 4) : ∀ q k, k + q = 50 → BS shM RX8 cX8_sheet 5 (some .int) 2 42 (fun r w' => r = some (.int 1) ∧ zeroC w jj 50 = w') 57 [(0, .ref 0), (1, .int (nI jj)), (4, .int (nI k))] [] (zeroC w jj k) := by
  intro q
  induction q with
  | zero =>
    intro k hk
    refine b_iload dX8_sheet_57 rfl ?_
    refine b_bipush (v := 50) dX8_sheet_59 (by decide) ?_
    refine b_icmp_ge (tgt := 83) dX8_sheet_61 (by decide) (fun h61 => ?_) (fun h61 => ?_)
    · refine b_iconst (v := 1) dX8_sheet_83 (by decide) ?_
      have e : k = 50 := by omega
      subst e
      exact b_iret dX8_sheet_84 rfl ⟨rfl, rfl⟩
    · exact absurd (nI_le (a := 50) (by omega) (by omega)) h61
  | succ q ih =>
    intro k hk
    refine b_iload dX8_sheet_57 rfl ?_
    refine b_bipush (v := 50) dX8_sheet_59 (by decide) ?_
    refine b_icmp_ge (tgt := 83) dX8_sheet_61 (by decide) (fun h61 => ?_) (fun h61 => ?_)
    · exact absurd h61 (nI_ge (b := 50) (by omega) (by omega))
    · refine b_aload_n dX8_sheet_64 rfl ?_
      refine b_getr dX8_sheet_65 gf_X8_16 rfl rfl ?_
      refine b_bipush (v := 50) dX8_sheet_68 (by decide) ?_
      refine b_iload_n dX8_sheet_70 rfl ?_
      refine b_imul dX8_sheet_71 ?_
      refine b_topi (y := nI (50 * jj)) (nI_50 _) ?_
      refine b_iload dX8_sheet_72 rfl ?_
      refine b_iadd dX8_sheet_74 ?_
      refine b_topi (y := nI (50 * jj + k)) (nI_add _ _) ?_
      refine b_iconst (v := 0) dX8_sheet_75 (by decide) ?_
      refine b_iastN dX8_sheet_76 rfl ⟨by omega, by decide⟩ ?_
      refine b_iinc dX8_sheet_77 rfl (nI_inc k) (by decide) ?_
      refine b_goto (tgt := 57) dX8_sheet_80 (by decide) ?_
      refine b_sub [1, 2, 0] rfl ?_
      exact ih (k + 1) (by omega)

set_option maxRecDepth 100000 in
set_option maxHeartbeats 4000000 in
theorem s_X8_sheet {w : kW} {k sort n : Int32} (hS : Shv w) : Spec shM yX8_sheet cX8_sheet 5 (some .int) 2 42 [.ref 0, .int k, .int sort, .int n] w (fun r w' => r = some (.int ((R_sheet w k sort n).1)) ∧ (R_sheet w k sort n).2 = w') := by
  refine k_enter pn_X8 (Nat.le_of_ble_eq_true rfl) ?_
  refine b_aload_n dX8_sheet_0 rfl ?_
  refine b_iconst (v := 0) dX8_sheet_1 (by decide) ?_
  refine b_puti dX8_sheet_2 gf_X8_95 gs_X8_0 rfl rfl ?_
  refine b_iload_n dX8_sheet_5 rfl ?_
  refine b_callS1 dX8_sheet_6 lk_X8_111 ⟨Nat.le_of_ble_eq_true rfl, Nat.le_of_ble_eq_true rfl⟩ (Nat.le_of_ble_eq_true rfl) (s_X8_isSheet) (fun r w6 h6 => ?_)
  obtain ⟨rfl, h6⟩ := h6
  rcases h6 with ⟨rfl, h6⟩ | ⟨rfl, h6⟩
  · refine b_if_ne (tgt := 14) dX8_sheet_9 (by decide) (fun h9 => ?_) (fun h9 => absurd h9 (by decide))
    have hq2 : isS k := h6
    obtain ⟨jj, hj, rfl⟩ := sheet_of h6
    obtain ⟨hso, l, hl50, hl⟩ := hS jj hj
    refine b_iload_n dX8_sheet_14 rfl ?_
    refine b_callS1 dX8_sheet_15 lk_X8_115 ⟨Nat.le_of_ble_eq_true rfl, Nat.le_of_ble_eq_true rfl⟩ (Nat.le_of_ble_eq_true rfl) (s_X8_isSort) (fun r w15 h15 => ?_)
    obtain ⟨rfl, h15⟩ := h15
    rcases h15 with ⟨rfl, h15⟩ | ⟨rfl, h15⟩
    · refine b_if_eq (tgt := 27) dX8_sheet_18 (by decide) (fun h18 => absurd h18 (by decide)) (fun h18 => ?_)
      refine b_iload_n dX8_sheet_21 rfl ?_
      refine b_bipush (v := 50) dX8_sheet_22 (by decide) ?_
      refine b_icmp_le (tgt := 30) dX8_sheet_24 (by decide) (fun h24 => ?_) (fun h24 => ?_)
      · refine b_iload_n dX8_sheet_30 rfl ?_
        refine b_if_ge (tgt := 40) dX8_sheet_31 (by decide) (fun h31 => ?_) (fun h31 => ?_)
        · refine b_aload_n dX8_sheet_40 rfl ?_
          refine b_getr dX8_sheet_41 gf_X8_9 rfl rfl ?_
          refine b_iload_n dX8_sheet_44 rfl ?_
          refine b_iload_n dX8_sheet_45 rfl ?_
          refine b_iastN dX8_sheet_46 rfl ⟨by omega, by decide⟩ ?_
          refine b_aload_n dX8_sheet_47 rfl ?_
          refine b_getr dX8_sheet_48 gf_X8_13 rfl rfl ?_
          refine b_iload_n dX8_sheet_51 rfl ?_
          refine b_iload_n dX8_sheet_52 rfl ?_
          refine b_iastN dX8_sheet_53 rfl ⟨by omega, by decide⟩ ?_
          refine b_iconst (v := 0) dX8_sheet_54 (by decide) ?_
          refine b_istore dX8_sheet_55 (by decide) ?_
          refine b_sub [1, 2, 0] rfl ?_
          refine (s_X8_sheet_lp hj 50 0 (by omega)).mono (fun r w1 h => ?_)
          simp only [R_sheet, if_pos hq2, if_pos (show isT sort ∧ n ≤ 50 from ⟨h15, h24⟩), if_pos h31, dn_nI (show jj < 2 ^ 31 by omega)]
          exact h
        · refine b_aload_n dX8_sheet_34 rfl ?_
          refine b_iconst (v := 4) dX8_sheet_35 (by decide) ?_
          refine b_callV1 dX8_sheet_36 lk_X8_122 rfl rfl rfl ⟨Nat.le_of_ble_eq_true rfl, Nat.le_of_ble_eq_true rfl⟩ (Nat.le_of_ble_eq_true rfl) (s_X8_fails) (fun r w36 h36 => ?_)
          obtain ⟨rfl, rfl⟩ := h36
          refine b_iret dX8_sheet_39 rfl ⟨?_, ?_⟩
          · simp only [R_sheet, if_pos hq2, if_pos (show isT sort ∧ n ≤ 50 from ⟨h15, h24⟩), if_neg h31] <;> rfl
          · simp only [R_sheet, if_pos hq2, if_pos (show isT sort ∧ n ≤ 50 from ⟨h15, h24⟩), if_neg h31] <;> first | rfl | exact (kset_kset _ _ _ _ _).symm
      · refine b_bipush (v := (-2)) dX8_sheet_27 (by decide) ?_
        refine b_iret dX8_sheet_29 rfl ⟨?_, ?_⟩
        · simp only [R_sheet, if_pos hq2, if_neg (show ¬ (isT sort ∧ n ≤ 50) from fun z => h24 z.2)] <;> rfl
        · simp only [R_sheet, if_pos hq2, if_neg (show ¬ (isT sort ∧ n ≤ 50) from fun z => h24 z.2)] <;> first | rfl | exact (kset_kset _ _ _ _ _).symm
    · refine b_if_eq (tgt := 27) dX8_sheet_18 (by decide) (fun h18 => ?_) (fun h18 => absurd h18 (by decide))
      refine b_bipush (v := (-2)) dX8_sheet_27 (by decide) ?_
      refine b_iret dX8_sheet_29 rfl ⟨?_, ?_⟩
      · simp only [R_sheet, if_pos hq2, if_neg (show ¬ (isT sort ∧ n ≤ 50) from fun z => h15 z.1)] <;> rfl
      · simp only [R_sheet, if_pos hq2, if_neg (show ¬ (isT sort ∧ n ≤ 50) from fun z => h15 z.1)] <;> first | rfl | exact (kset_kset _ _ _ _ _).symm
  · refine b_if_ne (tgt := 14) dX8_sheet_9 (by decide) (fun h9 => absurd h9 (by decide)) (fun h9 => ?_)
    refine b_iconst (v := (-1)) dX8_sheet_12 (by decide) ?_
    refine b_iret dX8_sheet_13 rfl ⟨?_, ?_⟩
    · simp only [R_sheet, if_neg h6] <;> rfl
    · simp only [R_sheet, if_neg h6] <;> first | rfl | exact (kset_kset _ _ _ _ _).symm

set_option maxRecDepth 100000 in
set_option maxHeartbeats 4000000 in
theorem s_X8_lose {w : kW} {k : Int32} (hS : Shv w) : Spec shM yX8_lose cX8_lose 3 (some .int) 2 42 [.ref 0, .int k] w (fun r w' => r = some (.int ((R_lose w k).1)) ∧ (R_lose w k).2 = w') := by
  refine k_enter pn_X8 (Nat.le_of_ble_eq_true rfl) ?_
  refine b_iload_n dX8_lose_0 rfl ?_
  refine b_callS1 dX8_lose_1 lk_X8_111 ⟨Nat.le_of_ble_eq_true rfl, Nat.le_of_ble_eq_true rfl⟩ (Nat.le_of_ble_eq_true rfl) (s_X8_isSheet) (fun r w1 h1 => ?_)
  obtain ⟨rfl, h1⟩ := h1
  rcases h1 with ⟨rfl, h1⟩ | ⟨rfl, h1⟩
  · refine b_if_ne (tgt := 9) dX8_lose_4 (by decide) (fun h4 => ?_) (fun h4 => absurd h4 (by decide))
    have hq2 : isS k := h1
    obtain ⟨jj, hj, rfl⟩ := sheet_of h1
    obtain ⟨hso, l, hl50, hl⟩ := hS jj hj
    refine b_aload_n dX8_lose_9 rfl ?_
    refine b_getr dX8_lose_10 gf_X8_9 rfl rfl ?_
    refine b_iload_n dX8_lose_13 rfl ?_
    refine b_ialdN dX8_lose_14 rfl ⟨by omega, by decide⟩ ?_
    refine b_bipush (v := (-9)) dX8_lose_15 (by decide) ?_
    refine b_icmp_ne (tgt := 24) dX8_lose_17 (by decide) (fun h17 => ?_) (fun h17 => ?_)
    · refine b_iconst (v := 1) dX8_lose_24 (by decide) ?_
      refine b_istore_n dX8_lose_25 (by decide) ?_
      refine b_aload_n dX8_lose_26 rfl ?_
      refine b_getr dX8_lose_27 gf_X8_9 rfl rfl ?_
      refine b_iload_n dX8_lose_30 rfl ?_
      refine b_bipush (v := (-9)) dX8_lose_31 (by decide) ?_
      refine b_iastN dX8_lose_33 rfl ⟨by omega, by decide⟩ ?_
      refine b_iload_n dX8_lose_34 rfl ?_
      refine b_iret dX8_lose_35 rfl ⟨?_, ?_⟩
      · simp only [R_lose, if_pos hq2, dn_nI (show jj < 2 ^ 31 by omega), if_neg h17] <;> rfl
      · simp only [R_lose, if_pos hq2, dn_nI (show jj < 2 ^ 31 by omega), if_neg h17] <;> first | rfl | exact (kset_kset _ _ _ _ _).symm
    · refine b_iconst (v := 0) dX8_lose_20 (by decide) ?_
      refine b_goto (tgt := 25) dX8_lose_21 (by decide) ?_
      refine b_istore_n dX8_lose_25 (by decide) ?_
      refine b_aload_n dX8_lose_26 rfl ?_
      refine b_getr dX8_lose_27 gf_X8_9 rfl rfl ?_
      refine b_iload_n dX8_lose_30 rfl ?_
      refine b_bipush (v := (-9)) dX8_lose_31 (by decide) ?_
      refine b_iastN dX8_lose_33 rfl ⟨by omega, by decide⟩ ?_
      refine b_iload_n dX8_lose_34 rfl ?_
      refine b_iret dX8_lose_35 rfl ⟨?_, ?_⟩
      · simp only [R_lose, if_pos hq2, dn_nI (show jj < 2 ^ 31 by omega), if_pos h17] <;> rfl
      · simp only [R_lose, if_pos hq2, dn_nI (show jj < 2 ^ 31 by omega), if_pos h17] <;> first | rfl | exact (kset_kset _ _ _ _ _).symm
  · refine b_if_ne (tgt := 9) dX8_lose_4 (by decide) (fun h4 => absurd h4 (by decide)) (fun h4 => ?_)
    refine b_iconst (v := (-1)) dX8_lose_7 (by decide) ?_
    refine b_iret dX8_lose_8 rfl ⟨?_, ?_⟩
    · simp only [R_lose, if_neg h1] <;> rfl
    · simp only [R_lose, if_neg h1] <;> first | rfl | exact (kset_kset _ _ _ _ _).symm

set_option maxRecDepth 100000 in
set_option maxHeartbeats 4000000 in
theorem s_X8_put {w : kW} {k i v : Int32} (hS : Shv w) : Spec shM yX8_put cX8_put 4 (some .int) 2 42 [.ref 0, .int k, .int i, .int v] w (fun r w' => r = some (.int ((R_put w k i v).1)) ∧ (R_put w k i v).2 = w') := by
  refine k_enter pn_X8 (Nat.le_of_ble_eq_true rfl) ?_
  refine b_aload_n dX8_put_0 rfl ?_
  refine b_iconst (v := 0) dX8_put_1 (by decide) ?_
  refine b_puti dX8_put_2 gf_X8_95 gs_X8_0 rfl rfl ?_
  refine b_iload_n dX8_put_5 rfl ?_
  refine b_callS1 dX8_put_6 lk_X8_111 ⟨Nat.le_of_ble_eq_true rfl, Nat.le_of_ble_eq_true rfl⟩ (Nat.le_of_ble_eq_true rfl) (s_X8_isSheet) (fun r w6 h6 => ?_)
  obtain ⟨rfl, h6⟩ := h6
  rcases h6 with ⟨rfl, h6⟩ | ⟨rfl, h6⟩
  · refine b_if_ne (tgt := 14) dX8_put_9 (by decide) (fun h9 => ?_) (fun h9 => absurd h9 (by decide))
    have hq2 : isS k := h6
    obtain ⟨jj, hj, rfl⟩ := sheet_of h6
    obtain ⟨hso, l, hl50, hl⟩ := hS jj hj
    refine b_aload_n dX8_put_14 rfl ?_
    refine b_getr dX8_put_15 gf_X8_9 rfl rfl ?_
    refine b_iload_n dX8_put_18 rfl ?_
    refine b_ialdN dX8_put_19 rfl ⟨by omega, by decide⟩ ?_
    refine b_bipush (v := (-9)) dX8_put_20 (by decide) ?_
    refine b_icmp_ne (tgt := 31) dX8_put_22 (by decide) (fun h22 => ?_) (fun h22 => ?_)
    · have hs9 : ¬ w.1 1 jj = -9 := h22
      refine b_iload_n dX8_put_31 rfl ?_
      refine b_iconst (v := 0) dX8_put_32 (by decide) ?_
      refine b_aload_n dX8_put_33 rfl ?_
      refine b_getr dX8_put_34 gf_X8_13 rfl rfl ?_
      refine b_iload_n dX8_put_37 rfl ?_
      refine b_ialdN dX8_put_38 rfl ⟨by omega, by decide⟩ ?_
      refine b_iconst (v := 1) dX8_put_39 (by decide) ?_
      refine b_isub dX8_put_40 ?_
      refine b_callS3 dX8_put_41 lk_X8_101 ⟨Nat.le_of_ble_eq_true rfl, Nat.le_of_ble_eq_true rfl⟩ (Nat.le_of_ble_eq_true rfl) (s_X8_within) (fun r w41 h41 => ?_)
      obtain ⟨rfl, h41⟩ := h41
      rcases h41 with ⟨rfl, h41⟩ | ⟨rfl, h41⟩
      · refine b_if_ne (tgt := 53) dX8_put_44 (by decide) (fun h44 => ?_) (fun h44 => absurd h44 (by decide))
        have h41 : 0 ≤ i ∧ i ≤ w.1 2 jj - 1 := h41
        obtain ⟨ii, hi, rfl⟩ := idx_of hl50 (by rw [← hl]; exact h41)
        refine b_aload_n dX8_put_53 rfl ?_
        refine b_getr dX8_put_54 gf_X8_16 rfl rfl ?_
        refine b_bipush (v := 50) dX8_put_57 (by decide) ?_
        refine b_iload_n dX8_put_59 rfl ?_
        refine b_imul dX8_put_60 ?_
        refine b_topi (y := nI (50 * jj)) (nI_50 _) ?_
        refine b_iload_n dX8_put_61 rfl ?_
        refine b_iadd dX8_put_62 ?_
        refine b_topi (y := nI (50 * jj + ii)) (nI_add _ _) ?_
        refine b_aload_n dX8_put_63 rfl ?_
        refine b_getr dX8_put_64 gf_X8_9 rfl rfl ?_
        refine b_iload_n dX8_put_67 rfl ?_
        refine b_ialdN dX8_put_68 rfl ⟨by omega, by decide⟩ ?_
        refine b_topi (y := w.1 1 jj) rfl ?_
        refine b_if_ne (tgt := 77) dX8_put_69 (by decide) (fun h69 => ?_) (fun h69 => ?_)
        · refine b_aload_n dX8_put_77 rfl ?_
          refine b_getr dX8_put_78 gf_X8_9 rfl rfl ?_
          refine b_iload_n dX8_put_81 rfl ?_
          refine b_ialdN dX8_put_82 rfl ⟨by omega, by decide⟩ ?_
          refine b_topi (y := w.1 1 jj) rfl ?_
          refine b_iconst (v := 1) dX8_put_83 (by decide) ?_
          refine b_icmp_ne (tgt := 92) dX8_put_84 (by decide) (fun h84 => ?_) (fun h84 => ?_)
          · refine b_iload_n dX8_put_92 rfl ?_
            refine b_iastN dX8_put_93 rfl ⟨by omega, by decide⟩ ?_
            refine b_iconst (v := 1) dX8_put_94 (by decide) ?_
            refine b_iret dX8_put_95 rfl ⟨?_, ?_⟩
            · simp only [R_put, mCut, if_pos hq2, dn_nI (show jj < 2 ^ 31 by omega), if_neg hs9, if_pos h41, dn_nI (show ii < 2 ^ 31 by omega), if_neg h69, if_neg h84] <;> rfl
            · simp only [R_put, mCut, if_pos hq2, dn_nI (show jj < 2 ^ 31 by omega), if_neg hs9, if_pos h41, dn_nI (show ii < 2 ^ 31 by omega), if_neg h69, if_neg h84] <;> first | rfl | exact (kset_kset _ _ _ _ _).symm
          · refine b_iload_n dX8_put_87 rfl ?_
            refine b_i2s dX8_put_88 ?_
            refine b_goto (tgt := 93) dX8_put_89 (by decide) ?_
            refine b_iastN dX8_put_93 rfl ⟨by omega, by decide⟩ ?_
            refine b_iconst (v := 1) dX8_put_94 (by decide) ?_
            refine b_iret dX8_put_95 rfl ⟨?_, ?_⟩
            · simp only [R_put, mCut, if_pos hq2, dn_nI (show jj < 2 ^ 31 by omega), if_neg hs9, if_pos h41, dn_nI (show ii < 2 ^ 31 by omega), if_neg h69, if_pos h84] <;> rfl
            · simp only [R_put, mCut, if_pos hq2, dn_nI (show jj < 2 ^ 31 by omega), if_neg hs9, if_pos h41, dn_nI (show ii < 2 ^ 31 by omega), if_neg h69, if_pos h84] <;> first | rfl | exact (kset_kset _ _ _ _ _).symm
        · refine b_iload_n dX8_put_72 rfl ?_
          refine b_i2b dX8_put_73 ?_
          refine b_goto (tgt := 93) dX8_put_74 (by decide) ?_
          refine b_iastN dX8_put_93 rfl ⟨by omega, by decide⟩ ?_
          refine b_iconst (v := 1) dX8_put_94 (by decide) ?_
          refine b_iret dX8_put_95 rfl ⟨?_, ?_⟩
          · simp only [R_put, mCut, if_pos hq2, dn_nI (show jj < 2 ^ 31 by omega), if_neg hs9, if_pos h41, dn_nI (show ii < 2 ^ 31 by omega), if_pos h69] <;> rfl
          · simp only [R_put, mCut, if_pos hq2, dn_nI (show jj < 2 ^ 31 by omega), if_neg hs9, if_pos h41, dn_nI (show ii < 2 ^ 31 by omega), if_pos h69] <;> first | rfl | exact (kset_kset _ _ _ _ _).symm
      · refine b_if_ne (tgt := 53) dX8_put_44 (by decide) (fun h44 => absurd h44 (by decide)) (fun h44 => ?_)
        refine b_aload_n dX8_put_47 rfl ?_
        refine b_iconst (v := 3) dX8_put_48 (by decide) ?_
        refine b_callV1 dX8_put_49 lk_X8_122 rfl rfl rfl ⟨Nat.le_of_ble_eq_true rfl, Nat.le_of_ble_eq_true rfl⟩ (Nat.le_of_ble_eq_true rfl) (s_X8_fails) (fun r w49 h49 => ?_)
        obtain ⟨rfl, rfl⟩ := h49
        refine b_iret dX8_put_52 rfl ⟨?_, ?_⟩
        · simp only [R_put, if_pos hq2, dn_nI (show jj < 2 ^ 31 by omega), if_neg hs9, if_neg (show ¬ (0 ≤ i ∧ i ≤ w.1 2 jj - 1) from h41)] <;> rfl
        · simp only [R_put, if_pos hq2, dn_nI (show jj < 2 ^ 31 by omega), if_neg hs9, if_neg (show ¬ (0 ≤ i ∧ i ≤ w.1 2 jj - 1) from h41)] <;> first | rfl | exact (kset_kset _ _ _ _ _).symm
    · have hs9 : w.1 1 jj = -9 := h22
      refine b_aload_n dX8_put_25 rfl ?_
      refine b_iconst (v := 1) dX8_put_26 (by decide) ?_
      refine b_callV1 dX8_put_27 lk_X8_122 rfl rfl rfl ⟨Nat.le_of_ble_eq_true rfl, Nat.le_of_ble_eq_true rfl⟩ (Nat.le_of_ble_eq_true rfl) (s_X8_fails) (fun r w27 h27 => ?_)
      obtain ⟨rfl, rfl⟩ := h27
      refine b_iret dX8_put_30 rfl ⟨?_, ?_⟩
      · simp only [R_put, if_pos hq2, dn_nI (show jj < 2 ^ 31 by omega), if_pos hs9] <;> rfl
      · simp only [R_put, if_pos hq2, dn_nI (show jj < 2 ^ 31 by omega), if_pos hs9] <;> first | rfl | exact (kset_kset _ _ _ _ _).symm
  · refine b_if_ne (tgt := 14) dX8_put_9 (by decide) (fun h9 => absurd h9 (by decide)) (fun h9 => ?_)
    refine b_iconst (v := (-1)) dX8_put_12 (by decide) ?_
    refine b_iret dX8_put_13 rfl ⟨?_, ?_⟩
    · simp only [R_put, if_neg h6] <;> rfl
    · simp only [R_put, if_neg h6] <;> first | rfl | exact (kset_kset _ _ _ _ _).symm

set_option maxRecDepth 100000 in
set_option maxHeartbeats 4000000 in
theorem s_X8_cell {w : kW} {k i sort : Int32} (hS : Shv w) : Spec shM yX8_cell cX8_cell 4 (some .long) 2 42 [.ref 0, .int k, .int i, .int sort] w (fun r w' => r = some (.long ((R_cell w k i sort).1)) ∧ (R_cell w k i sort).2 = w') := by
  refine k_enter pn_X8 (Nat.le_of_ble_eq_true rfl) ?_
  refine b_aload_n dX8_cell_0 rfl ?_
  refine b_iconst (v := 0) dX8_cell_1 (by decide) ?_
  refine b_puti dX8_cell_2 gf_X8_95 gs_X8_0 rfl rfl ?_
  refine b_iload_n dX8_cell_5 rfl ?_
  refine b_callS1 dX8_cell_6 lk_X8_111 ⟨Nat.le_of_ble_eq_true rfl, Nat.le_of_ble_eq_true rfl⟩ (Nat.le_of_ble_eq_true rfl) (s_X8_isSheet) (fun r w6 h6 => ?_)
  obtain ⟨rfl, h6⟩ := h6
  rcases h6 with ⟨rfl, h6⟩ | ⟨rfl, h6⟩
  · refine b_if_eq (tgt := 19) dX8_cell_9 (by decide) (fun h9 => absurd h9 (by decide)) (fun h9 => ?_)
    refine b_iload_n dX8_cell_12 rfl ?_
    refine b_callS1 dX8_cell_13 lk_X8_115 ⟨Nat.le_of_ble_eq_true rfl, Nat.le_of_ble_eq_true rfl⟩ (Nat.le_of_ble_eq_true rfl) (s_X8_isSort) (fun r w13 h13 => ?_)
    obtain ⟨rfl, h13⟩ := h13
    rcases h13 with ⟨rfl, h13⟩ | ⟨rfl, h13⟩
    · refine b_if_ne (tgt := 23) dX8_cell_16 (by decide) (fun h16 => ?_) (fun h16 => absurd h16 (by decide))
      have hq2 : isS k := h6
      obtain ⟨jj, hj, rfl⟩ := sheet_of h6
      obtain ⟨hso, l, hl50, hl⟩ := hS jj hj
      refine b_aload_n dX8_cell_23 rfl ?_
      refine b_getr dX8_cell_24 gf_X8_9 rfl rfl ?_
      refine b_iload_n dX8_cell_27 rfl ?_
      refine b_ialdN dX8_cell_28 rfl ⟨by omega, by decide⟩ ?_
      refine b_bipush (v := (-9)) dX8_cell_29 (by decide) ?_
      refine b_icmp_eq (tgt := 50) dX8_cell_31 (by decide) (fun h31 => ?_) (fun h31 => ?_)
      · refine b_aload_n dX8_cell_50 rfl ?_
        refine b_getr dX8_cell_51 gf_X8_9 rfl rfl ?_
        refine b_iload_n dX8_cell_54 rfl ?_
        refine b_ialdN dX8_cell_55 rfl ⟨by omega, by decide⟩ ?_
        refine b_bipush (v := (-9)) dX8_cell_56 (by decide) ?_
        refine b_icmp_ne (tgt := 67) dX8_cell_58 (by decide) (fun h58 => ?_) (fun h58 => ?_)
        · exact absurd h31 h58
        · refine b_aload_n dX8_cell_61 rfl ?_
          refine b_iconst (v := 1) dX8_cell_62 (by decide) ?_
          refine b_callV1 dX8_cell_63 lk_X8_229 rfl rfl rfl ⟨Nat.le_of_ble_eq_true rfl, Nat.le_of_ble_eq_true rfl⟩ (Nat.le_of_ble_eq_true rfl) (s_X8_lost) (fun r w63 h63 => ?_)
          obtain ⟨rfl, rfl⟩ := h63
          refine b_lret dX8_cell_66 rfl ⟨?_, ?_⟩
          · simp only [R_cell, if_pos (show isS (nI jj) ∧ isT sort from ⟨hq2, h13⟩), dn_nI (show jj < 2 ^ 31 by omega), if_neg (show ¬ (¬ w.1 1 jj = -9 ∧ ¬ w.1 1 jj = sort) from fun z => z.1 h31), if_pos (show w.1 1 jj = -9 from h58)] <;> rfl
          · simp only [R_cell, if_pos (show isS (nI jj) ∧ isT sort from ⟨hq2, h13⟩), dn_nI (show jj < 2 ^ 31 by omega), if_neg (show ¬ (¬ w.1 1 jj = -9 ∧ ¬ w.1 1 jj = sort) from fun z => z.1 h31), if_pos (show w.1 1 jj = -9 from h58)] <;> first | rfl | exact (kset_kset _ _ _ _ _).symm
      · refine b_aload_n dX8_cell_34 rfl ?_
        refine b_getr dX8_cell_35 gf_X8_9 rfl rfl ?_
        refine b_iload_n dX8_cell_38 rfl ?_
        refine b_ialdN dX8_cell_39 rfl ⟨by omega, by decide⟩ ?_
        refine b_iload_n dX8_cell_40 rfl ?_
        refine b_icmp_eq (tgt := 50) dX8_cell_41 (by decide) (fun h41 => ?_) (fun h41 => ?_)
        · refine b_aload_n dX8_cell_50 rfl ?_
          refine b_getr dX8_cell_51 gf_X8_9 rfl rfl ?_
          refine b_iload_n dX8_cell_54 rfl ?_
          refine b_ialdN dX8_cell_55 rfl ⟨by omega, by decide⟩ ?_
          refine b_bipush (v := (-9)) dX8_cell_56 (by decide) ?_
          refine b_icmp_ne (tgt := 67) dX8_cell_58 (by decide) (fun h58 => ?_) (fun h58 => ?_)
          · refine b_iload_n dX8_cell_67 rfl ?_
            refine b_iconst (v := 0) dX8_cell_68 (by decide) ?_
            refine b_aload_n dX8_cell_69 rfl ?_
            refine b_getr dX8_cell_70 gf_X8_13 rfl rfl ?_
            refine b_iload_n dX8_cell_73 rfl ?_
            refine b_ialdN dX8_cell_74 rfl ⟨by omega, by decide⟩ ?_
            refine b_iconst (v := 1) dX8_cell_75 (by decide) ?_
            refine b_isub dX8_cell_76 ?_
            refine b_callS3 dX8_cell_77 lk_X8_101 ⟨Nat.le_of_ble_eq_true rfl, Nat.le_of_ble_eq_true rfl⟩ (Nat.le_of_ble_eq_true rfl) (s_X8_within) (fun r w77 h77 => ?_)
            obtain ⟨rfl, h77⟩ := h77
            rcases h77 with ⟨rfl, h77⟩ | ⟨rfl, h77⟩
            · refine b_if_ne (tgt := 89) dX8_cell_80 (by decide) (fun h80 => ?_) (fun h80 => absurd h80 (by decide))
              have h77 : 0 ≤ i ∧ i ≤ w.1 2 jj - 1 := h77
              obtain ⟨ii, hi, rfl⟩ := idx_of hl50 (by rw [← hl]; exact h77)
              refine b_aload_n dX8_cell_89 rfl ?_
              refine b_getr dX8_cell_90 gf_X8_16 rfl rfl ?_
              refine b_bipush (v := 50) dX8_cell_93 (by decide) ?_
              refine b_iload_n dX8_cell_95 rfl ?_
              refine b_imul dX8_cell_96 ?_
              refine b_topi (y := nI (50 * jj)) (nI_50 _) ?_
              refine b_iload_n dX8_cell_97 rfl ?_
              refine b_iadd dX8_cell_98 ?_
              refine b_topi (y := nI (50 * jj + ii)) (nI_add _ _) ?_
              refine b_ialdN dX8_cell_99 rfl ⟨by omega, by decide⟩ ?_
              refine b_i2l dX8_cell_100 ?_
              refine b_lret dX8_cell_101 rfl ⟨?_, ?_⟩
              · simp only [R_cell, if_pos (show isS (nI jj) ∧ isT sort from ⟨hq2, h13⟩), dn_nI (show jj < 2 ^ 31 by omega), if_neg (show ¬ (¬ w.1 1 jj = -9 ∧ ¬ w.1 1 jj = sort) from fun z => z.2 h41), if_neg (show ¬ w.1 1 jj = -9 from h58), if_pos (show 0 ≤ nI ii ∧ nI ii ≤ w.1 2 jj - 1 from h77), dn_nI (show ii < 2 ^ 31 by omega)] <;> rfl
              · simp only [R_cell, if_pos (show isS (nI jj) ∧ isT sort from ⟨hq2, h13⟩), dn_nI (show jj < 2 ^ 31 by omega), if_neg (show ¬ (¬ w.1 1 jj = -9 ∧ ¬ w.1 1 jj = sort) from fun z => z.2 h41), if_neg (show ¬ w.1 1 jj = -9 from h58), if_pos (show 0 ≤ nI ii ∧ nI ii ≤ w.1 2 jj - 1 from h77), dn_nI (show ii < 2 ^ 31 by omega)] <;> first | rfl | exact (kset_kset _ _ _ _ _).symm
            · refine b_if_ne (tgt := 89) dX8_cell_80 (by decide) (fun h80 => absurd h80 (by decide)) (fun h80 => ?_)
              refine b_aload_n dX8_cell_83 rfl ?_
              refine b_iconst (v := 3) dX8_cell_84 (by decide) ?_
              refine b_callV1 dX8_cell_85 lk_X8_229 rfl rfl rfl ⟨Nat.le_of_ble_eq_true rfl, Nat.le_of_ble_eq_true rfl⟩ (Nat.le_of_ble_eq_true rfl) (s_X8_lost) (fun r w85 h85 => ?_)
              obtain ⟨rfl, rfl⟩ := h85
              refine b_lret dX8_cell_88 rfl ⟨?_, ?_⟩
              · simp only [R_cell, if_pos (show isS (nI jj) ∧ isT sort from ⟨hq2, h13⟩), dn_nI (show jj < 2 ^ 31 by omega), if_neg (show ¬ (¬ w.1 1 jj = -9 ∧ ¬ w.1 1 jj = sort) from fun z => z.2 h41), if_neg (show ¬ w.1 1 jj = -9 from h58), if_neg (show ¬ (0 ≤ i ∧ i ≤ w.1 2 jj - 1) from h77)] <;> rfl
              · simp only [R_cell, if_pos (show isS (nI jj) ∧ isT sort from ⟨hq2, h13⟩), dn_nI (show jj < 2 ^ 31 by omega), if_neg (show ¬ (¬ w.1 1 jj = -9 ∧ ¬ w.1 1 jj = sort) from fun z => z.2 h41), if_neg (show ¬ w.1 1 jj = -9 from h58), if_neg (show ¬ (0 ≤ i ∧ i ≤ w.1 2 jj - 1) from h77)] <;> first | rfl | exact (kset_kset _ _ _ _ _).symm
          · exact absurd h58 h31
        · refine b_aload_n dX8_cell_44 rfl ?_
          refine b_iconst (v := 2) dX8_cell_45 (by decide) ?_
          refine b_callV1 dX8_cell_46 lk_X8_229 rfl rfl rfl ⟨Nat.le_of_ble_eq_true rfl, Nat.le_of_ble_eq_true rfl⟩ (Nat.le_of_ble_eq_true rfl) (s_X8_lost) (fun r w46 h46 => ?_)
          obtain ⟨rfl, rfl⟩ := h46
          refine b_lret dX8_cell_49 rfl ⟨?_, ?_⟩
          · simp only [R_cell, if_pos (show isS (nI jj) ∧ isT sort from ⟨hq2, h13⟩), dn_nI (show jj < 2 ^ 31 by omega), if_pos (show ¬ w.1 1 jj = -9 ∧ ¬ w.1 1 jj = sort from ⟨h31, h41⟩)] <;> rfl
          · simp only [R_cell, if_pos (show isS (nI jj) ∧ isT sort from ⟨hq2, h13⟩), dn_nI (show jj < 2 ^ 31 by omega), if_pos (show ¬ w.1 1 jj = -9 ∧ ¬ w.1 1 jj = sort from ⟨h31, h41⟩)] <;> first | rfl | exact (kset_kset _ _ _ _ _).symm
    · refine b_if_ne (tgt := 23) dX8_cell_16 (by decide) (fun h16 => absurd h16 (by decide)) (fun h16 => ?_)
      refine b_ldc2 dX8_cell_19 lc_X8_99 ?_
      refine b_lret dX8_cell_22 rfl ⟨?_, ?_⟩
      · simp only [R_cell, if_neg (show ¬ (isS k ∧ isT sort) from fun z => h13 z.2)] <;> rfl
      · simp only [R_cell, if_neg (show ¬ (isS k ∧ isT sort) from fun z => h13 z.2)] <;> first | rfl | exact (kset_kset _ _ _ _ _).symm
  · refine b_if_eq (tgt := 19) dX8_cell_9 (by decide) (fun h9 => ?_) (fun h9 => absurd h9 (by decide))
    refine b_ldc2 dX8_cell_19 lc_X8_99 ?_
    refine b_lret dX8_cell_22 rfl ⟨?_, ?_⟩
    · simp only [R_cell, if_neg (show ¬ (isS k ∧ isT sort) from fun z => h6 z.1)] <;> rfl
    · simp only [R_cell, if_neg (show ¬ (isS k ∧ isT sort) from fun z => h6 z.1)] <;> first | rfl | exact (kset_kset _ _ _ _ _).symm
