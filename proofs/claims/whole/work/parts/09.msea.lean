set_option maxRecDepth 100000 in
set_option maxHeartbeats 4000000 in
theorem s_X8_answer {w : kW} {n i j t m : Nat} {deg dawn : Int32} (hP : Pn n w) (hi : i < n) (hj : j < n) (hm : w.1 0 28 = nI m) (hm2 : m < 200) (ht : w.1 0 23 = nI t) (ht2 : t < 200) : Spec shM yX8_answer cX8_answer 7 none 3 75 [.ref 0, .int (nI i), .int (nI j), .int deg, .int dawn] w (fun r w' => r = none ∧ mAnswer w i j deg dawn = w') := by
  have hn := hP.le
  refine k_enter pn_X8 (Nat.le_of_ble_eq_true rfl) ?_
  refine b_iload_n dX8_answer_0 rfl ?_
  refine b_aload_n dX8_answer_1 rfl ?_
  refine b_iload_n dX8_answer_2 rfl ?_
  refine b_callV1 dX8_answer_3 lk_X8_148 rfl rfl rfl ⟨Nat.le_of_ble_eq_true rfl, Nat.le_of_ble_eq_true rfl⟩ (Nat.le_of_ble_eq_true rfl) (s_X8_touchy (by omega)) (fun r w3 h3 => ?_)
  obtain ⟨rfl, rfl⟩ := h3
  refine b_icmp_ge (tgt := 10) dX8_answer_6 (by decide) (fun h6 => ?_) (fun h6 => ?_)
  · refine b_aload_n dX8_answer_10 rfl ?_
    refine b_iload_n dX8_answer_11 rfl ?_
    refine b_iload_n dX8_answer_12 rfl ?_
    refine b_bipush (v := (-9)) dX8_answer_13 (by decide) ?_
    refine b_iload dX8_answer_15 rfl ?_
    refine b_callV4 dX8_answer_17 lk_X8_175 rfl rfl rfl ⟨Nat.le_of_ble_eq_true rfl, Nat.le_of_ble_eq_true rfl⟩ (Nat.le_of_ble_eq_true rfl) (s_X8_secondOf hP hj) (fun r w17 h17 => ?_)
    obtain ⟨rfl, rfl⟩ := h17
    rcases hs17 : mSec w j (nI i) (-9) dawn with _ | a
    · refine b_topi (y := -9) rfl ?_
      refine b_istore dX8_answer_20 (by decide) ?_
      refine b_iload dX8_answer_22 rfl ?_
      refine b_bipush (v := (-9)) dX8_answer_24 (by decide) ?_
      refine b_icmp_ne (tgt := 30) dX8_answer_26 (by decide) (fun h26 => ?_) (fun h26 => ?_)
      · exact absurd rfl h26
      · refine b_vret dX8_answer_29 rfl ⟨rfl, ?_⟩
        simp only [mAnswer, if_pos h6, hs17] <;> rfl
    · have hs17b := mSec_some hP hj hs17
      refine b_topi (y := nI a) rfl ?_
      refine b_istore dX8_answer_20 (by decide) ?_
      refine b_iload dX8_answer_22 rfl ?_
      refine b_bipush (v := (-9)) dX8_answer_24 (by decide) ?_
      refine b_icmp_ne (tgt := 30) dX8_answer_26 (by decide) (fun h26 => ?_) (fun h26 => ?_)
      · refine b_aload_n dX8_answer_30 rfl ?_
        refine b_iload_n dX8_answer_31 rfl ?_
        refine b_iload_n dX8_answer_32 rfl ?_
        refine b_iload dX8_answer_33 rfl ?_
        refine b_iload dX8_answer_35 rfl ?_
        refine b_callV4 dX8_answer_37 lk_X8_175 rfl rfl rfl ⟨Nat.le_of_ble_eq_true rfl, Nat.le_of_ble_eq_true rfl⟩ (Nat.le_of_ble_eq_true rfl) (s_X8_secondOf hP hi) (fun r w37 h37 => ?_)
        obtain ⟨rfl, rfl⟩ := h37
        rcases hs37 : mSec w i (nI j) (nI a) dawn with _ | b
        · refine b_topi (y := -9) rfl ?_
          refine b_istore dX8_answer_40 (by decide) ?_
          refine b_iload dX8_answer_42 rfl ?_
          refine b_bipush (v := (-9)) dX8_answer_44 (by decide) ?_
          refine b_icmp_eq (tgt := 61) dX8_answer_46 (by decide) (fun h46 => ?_) (fun h46 => ?_)
          · refine b_vret dX8_answer_61 rfl ⟨rfl, ?_⟩
            simp only [mAnswer, if_pos h6, hs17, hs37] <;> rfl
          · exact absurd rfl h46
        · have hs37b := mSec_some hP hi hs37
          refine b_topi (y := nI b) rfl ?_
          refine b_istore dX8_answer_40 (by decide) ?_
          refine b_iload dX8_answer_42 rfl ?_
          refine b_bipush (v := (-9)) dX8_answer_44 (by decide) ?_
          refine b_icmp_eq (tgt := 61) dX8_answer_46 (by decide) (fun h46 => ?_) (fun h46 => ?_)
          · exact absurd h46 (nI_ne9 (by omega))
          · refine b_aload_n dX8_answer_49 rfl ?_
            refine b_iload dX8_answer_50 rfl ?_
            refine b_iload dX8_answer_52 rfl ?_
            refine b_iload_n dX8_answer_54 rfl ?_
            refine b_iload_n dX8_answer_55 rfl ?_
            refine b_iload dX8_answer_56 rfl ?_
            refine b_callV5 dX8_answer_58 lk_X8_178 rfl rfl rfl ⟨Nat.le_of_ble_eq_true rfl, Nat.le_of_ble_eq_true rfl⟩ (Nat.le_of_ble_eq_true rfl) (s_X8_meet (t := t) (m := m) (by omega) (by omega) (fun e => hs37b.2.2.2.1 (by rw [e])) hm hm2 ht ht2) (fun r w58 h58 => ?_)
            obtain ⟨rfl, rfl⟩ := h58
            refine b_vret dX8_answer_61 rfl ⟨rfl, ?_⟩
            simp only [mAnswer, if_pos h6, hs17, hs37] <;> rfl
      · exact absurd h26 (nI_ne9 (by omega))
  · refine b_vret dX8_answer_9 rfl ⟨rfl, ?_⟩
    simp only [mAnswer, if_neg h6] <;> rfl

theorem mZero_1 (w : kW) (k : Nat) {c : Nat} (h : c ≠ 0 ∧ c ≠ 15) : (mZero w k).1 c = w.1 c := by
  induction k with
  | zero => rw [mZero, kset_row _ _ _ _ h.1, kset_row _ _ _ _ h.1]
  | succ k ih => rw [mZero, kset_row _ _ _ _ h.2, ih]
theorem mZero_0 (w : kW) (k j : Nat) (h : j ≠ 28 ∧ j ≠ 23) : (mZero w k).1 0 j = w.1 0 j := by
  induction k with
  | zero => rw [mZero, kset_ne _ _ (Or.inr h.2), kset_ne _ _ (Or.inr h.1)]
  | succ k ih => rw [mZero, kset_ne _ _ (Or.inl (by decide)), ih]

set_option maxRecDepth 100000 in
set_option maxHeartbeats 4000000 in
theorem s_X8_begin_lp {w : kW} {n : Nat} (hP : Pn n w) : ∀ q k, k + q = n → BS shM RX8 cX8_begin 2 none 0 0 (fun r w' => r = none ∧ mBegin n w = w') 12 [(0, .ref 0), (1, .int (nI k))] [] (mZero w k) := by
  intro q
  have hn := hP.le
  induction q with
  | zero =>
    intro k hk
    refine b_iload_n dX8_begin_12 rfl ?_
    refine b_aload_n dX8_begin_13 rfl ?_
    refine b_geti dX8_begin_14 gf_X8_105 rfl rfl ?_
    refine b_topi (y := nI n) ((mZero_0 _ _ _ (by decide)).trans hP.1) ?_
    refine b_icmp_ge (tgt := 33) dX8_begin_17 (by decide) (fun h17 => ?_) (fun h17 => ?_)
    · refine b_aload_n dX8_begin_33 rfl ?_
      refine b_iconst (v := 0) dX8_begin_34 (by decide) ?_
      refine b_puti dX8_begin_35 gf_X8_155 gs_X8_22 rfl rfl ?_
      refine b_vret dX8_begin_38 rfl ⟨rfl, ?_⟩
      (have e : k = n := by omega); subst e; rfl
    · exact absurd (nI_le (by omega) (by omega)) h17
  | succ q ih =>
    intro k hk
    refine b_iload_n dX8_begin_12 rfl ?_
    refine b_aload_n dX8_begin_13 rfl ?_
    refine b_geti dX8_begin_14 gf_X8_105 rfl rfl ?_
    refine b_topi (y := nI n) ((mZero_0 _ _ _ (by decide)).trans hP.1) ?_
    refine b_icmp_ge (tgt := 33) dX8_begin_17 (by decide) (fun h17 => ?_) (fun h17 => ?_)
    · exact absurd h17 (nI_ge (by omega) (by omega))
    · refine b_aload_n dX8_begin_20 rfl ?_
      refine b_getr dX8_begin_21 gf_X8_53 rfl rfl ?_
      refine b_iload_n dX8_begin_24 rfl ?_
      refine b_iconst (v := 0) dX8_begin_25 (by decide) ?_
      refine b_iastN dX8_begin_26 rfl ⟨by omega, by decide⟩ ?_
      refine b_iinc dX8_begin_27 rfl (nI_inc k) (by decide) ?_
      refine b_goto (tgt := 12) dX8_begin_30 (by decide) ?_
      refine b_sub [1, 0] rfl ?_
      exact ih (k + 1) (by omega)

set_option maxRecDepth 100000 in
set_option maxHeartbeats 4000000 in
theorem s_X8_begin {w : kW} {n : Nat} (hP : Pn n w) : Spec shM yX8_begin cX8_begin 2 none 0 0 [.ref 0] w (fun r w' => r = none ∧ mBegin n w = w') := by
  refine k_enter pn_X8 (Nat.le_of_ble_eq_true rfl) ?_
  refine b_aload_n dX8_begin_0 rfl ?_
  refine b_iconst (v := 0) dX8_begin_1 (by decide) ?_
  refine b_puti dX8_begin_2 gf_X8_165 gs_X8_28 rfl rfl ?_
  refine b_aload_n dX8_begin_5 rfl ?_
  refine b_iconst (v := 0) dX8_begin_6 (by decide) ?_
  refine b_puti dX8_begin_7 gf_X8_172 gs_X8_23 rfl rfl ?_
  refine b_iconst (v := 0) dX8_begin_10 (by decide) ?_
  refine b_istore_n dX8_begin_11 (by decide) ?_
  refine b_sub [1, 0] rfl ?_
  exact s_X8_begin_lp hP n 0 (by omega)
