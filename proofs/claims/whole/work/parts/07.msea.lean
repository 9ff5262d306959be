set_option maxRecDepth 100000 in
set_option maxHeartbeats 4000000 in
theorem s_X8_isFree {w : kW} {x : Nat} {dawn : Int32} (hx : x < 6) : Spec shM yX8_isFree cX8_isFree 3 (some .boolean) 0 0 [.ref 0, .int (nI x), .int dawn] w (fun r w' => w = w' ∧ ((r = some (.int 1) ∧ (mFree w x dawn)) ∨ (r = some (.int 0) ∧ ¬ (mFree w x dawn)))) := by
  refine k_enter pn_X8 (Nat.le_of_ble_eq_true rfl) ?_
  refine b_aload_n dX8_isFree_0 rfl ?_
  refine b_getr dX8_isFree_1 gf_X8_28 rfl rfl ?_
  refine b_iload_n dX8_isFree_4 rfl ?_
  refine b_zaldN dX8_isFree_5 rfl ⟨by omega, by decide⟩ ?_
  refine b_if_ne (tgt := 34) dX8_isFree_6 (by decide) (fun h6 => ?_) (fun h6 => ?_)
  · refine b_iconst (v := 0) dX8_isFree_34 (by decide) ?_
    refine b_zret (Or.inl rfl) dX8_isFree_35 rfl ⟨rfl, Or.inr ⟨rfl, ?_⟩⟩
    exact fun h => by first | exact h6 h.1 | exact absurd h.2.1 (Int32.not_le.mpr h16) | exact h27 ((bit_0 _ (by omega)).mpr h.2.2)
  · refine b_aload_n dX8_isFree_9 rfl ?_
    refine b_getr dX8_isFree_10 gf_X8_53 rfl rfl ?_
    refine b_iload_n dX8_isFree_13 rfl ?_
    refine b_ialdN dX8_isFree_14 rfl ⟨by omega, by decide⟩ ?_
    refine b_iload_n dX8_isFree_15 rfl ?_
    refine b_icmp_gt (tgt := 34) dX8_isFree_16 (by decide) (fun h16 => ?_) (fun h16 => ?_)
    · refine b_iconst (v := 0) dX8_isFree_34 (by decide) ?_
      refine b_zret (Or.inl rfl) dX8_isFree_35 rfl ⟨rfl, Or.inr ⟨rfl, ?_⟩⟩
      exact fun h => by first | exact h6 h.1 | exact absurd h.2.1 (Int32.not_le.mpr h16) | exact h27 ((bit_0 _ (by omega)).mpr h.2.2)
    · refine b_aload_n dX8_isFree_19 rfl ?_
      refine b_geti dX8_isFree_20 gf_X8_155 rfl rfl ?_
      refine b_iload_n dX8_isFree_23 rfl ?_
      refine b_ishr dX8_isFree_24 ?_
      refine b_iconst (v := 1) dX8_isFree_25 (by decide) ?_
      refine b_iand dX8_isFree_26 ?_
      refine b_if_ne (tgt := 34) dX8_isFree_27 (by decide) (fun h27 => ?_) (fun h27 => ?_)
      · refine b_iconst (v := 0) dX8_isFree_34 (by decide) ?_
        refine b_zret (Or.inl rfl) dX8_isFree_35 rfl ⟨rfl, Or.inr ⟨rfl, ?_⟩⟩
        exact fun h => by first | exact h6 h.1 | exact absurd h.2.1 (Int32.not_le.mpr h16) | exact h27 ((bit_0 _ (by omega)).mpr h.2.2)
      · refine b_iconst (v := 1) dX8_isFree_30 (by decide) ?_
        refine b_goto (tgt := 35) dX8_isFree_31 (by decide) ?_
        refine b_zret (Or.inr rfl) dX8_isFree_35 rfl ⟨rfl, Or.inl ⟨rfl, ?_⟩⟩
        exact ⟨h6, Int32.not_lt.mp h16, (bit_0 _ (by omega)).mp h27⟩

set_option maxRecDepth 100000 in
set_option maxHeartbeats 4000000 in
theorem s_X8_maySecond {w : kW} {x : Nat} {p other no dawn : Int32} (hx : x < 6) : Spec shM yX8_maySecond cX8_maySecond 6 (some .boolean) 1 22 [.ref 0, .int (nI x), .int p, .int other, .int no, .int dawn] w (fun r w' => w = w' ∧ ((r = some (.int 1) ∧ (mMay w x p other no dawn)) ∨ (r = some (.int 0) ∧ ¬ (mMay w x p other no dawn)))) := by
  refine k_enter pn_X8 (Nat.le_of_ble_eq_true rfl) ?_
  refine b_iload_n dX8_maySecond_0 rfl ?_
  refine b_iload_n dX8_maySecond_1 rfl ?_
  refine b_icmp_eq (tgt := 30) dX8_maySecond_2 (by decide) (fun h2 => ?_) (fun h2 => ?_)
  · refine b_iconst (v := 0) dX8_maySecond_30 (by decide) ?_
    refine b_zret (Or.inl rfl) dX8_maySecond_31 rfl ⟨rfl, Or.inr ⟨rfl, ?_⟩⟩
    exact fun h => by first | exact h.1 h2 | exact h.2.1 h7 | exact h.2.2.1 h13 | exact h20 h.2.2.2
  · refine b_iload_n dX8_maySecond_5 rfl ?_
    refine b_iload_n dX8_maySecond_6 rfl ?_
    refine b_icmp_eq (tgt := 30) dX8_maySecond_7 (by decide) (fun h7 => ?_) (fun h7 => ?_)
    · refine b_iconst (v := 0) dX8_maySecond_30 (by decide) ?_
      refine b_zret (Or.inl rfl) dX8_maySecond_31 rfl ⟨rfl, Or.inr ⟨rfl, ?_⟩⟩
      exact fun h => by first | exact h.1 h2 | exact h.2.1 h7 | exact h.2.2.1 h13 | exact h20 h.2.2.2
    · refine b_iload_n dX8_maySecond_10 rfl ?_
      refine b_iload dX8_maySecond_11 rfl ?_
      refine b_icmp_eq (tgt := 30) dX8_maySecond_13 (by decide) (fun h13 => ?_) (fun h13 => ?_)
      · refine b_iconst (v := 0) dX8_maySecond_30 (by decide) ?_
        refine b_zret (Or.inl rfl) dX8_maySecond_31 rfl ⟨rfl, Or.inr ⟨rfl, ?_⟩⟩
        exact fun h => by first | exact h.1 h2 | exact h.2.1 h7 | exact h.2.2.1 h13 | exact h20 h.2.2.2
      · refine b_aload_n dX8_maySecond_16 rfl ?_
        refine b_iload_n dX8_maySecond_17 rfl ?_
        refine b_iload dX8_maySecond_18 rfl ?_
        refine b_callV2 dX8_maySecond_20 lk_X8_158 rfl rfl rfl ⟨Nat.le_of_ble_eq_true rfl, Nat.le_of_ble_eq_true rfl⟩ (Nat.le_of_ble_eq_true rfl) (s_X8_isFree hx) (fun r w20 h20 => ?_)
        obtain ⟨rfl, h20⟩ := h20
        rcases h20 with ⟨rfl, h20⟩ | ⟨rfl, h20⟩
        · refine b_if_eq (tgt := 30) dX8_maySecond_23 (by decide) (fun h23 => absurd h23 (by decide)) (fun h23 => ?_)
          refine b_iconst (v := 1) dX8_maySecond_26 (by decide) ?_
          refine b_goto (tgt := 31) dX8_maySecond_27 (by decide) ?_
          refine b_zret (Or.inr rfl) dX8_maySecond_31 rfl ⟨rfl, Or.inl ⟨rfl, ?_⟩⟩
          exact ⟨h2, h7, h13, h20⟩
        · refine b_if_eq (tgt := 30) dX8_maySecond_23 (by decide) (fun h23 => ?_) (fun h23 => absurd h23 (by decide))
          refine b_iconst (v := 0) dX8_maySecond_30 (by decide) ?_
          refine b_zret (Or.inl rfl) dX8_maySecond_31 rfl ⟨rfl, Or.inr ⟨rfl, ?_⟩⟩
          exact fun h => by first | exact h.1 h2 | exact h.2.1 h7 | exact h.2.2.1 h13 | exact h20 h.2.2.2

set_option maxRecDepth 100000 in
set_option maxHeartbeats 4000000 in
theorem s_X8_touchy {w : kW} {p : Nat} (hp : p < 6) : Spec shM yX8_touchy cX8_touchy 3 (some .int) 0 0 [.ref 0, .int (nI p)] w (fun r w' => r = some (.int (mTouch w p)) ∧ w = w') := by
  refine k_enter pn_X8 (Nat.le_of_ble_eq_true rfl) ?_
  refine b_bipush (v := 10) dX8_touchy_0 (by decide) ?_
  refine b_aload_n dX8_touchy_2 rfl ?_
  refine b_getr dX8_touchy_3 gf_X8_22 rfl rfl ?_
  refine b_iload_n dX8_touchy_6 rfl ?_
  refine b_ialdN dX8_touchy_7 rfl ⟨by omega, by decide⟩ ?_
  refine b_isub dX8_touchy_8 ?_
  refine b_istore_n dX8_touchy_9 (by decide) ?_
  refine b_aload_n dX8_touchy_10 rfl ?_
  refine b_getr dX8_touchy_11 gf_X8_19 rfl rfl ?_
  refine b_iload_n dX8_touchy_14 rfl ?_
  refine b_ialdN dX8_touchy_15 rfl ⟨by omega, by decide⟩ ?_
  refine b_if_le (tgt := 32) dX8_touchy_16 (by decide) (fun h16 => ?_) (fun h16 => ?_)
  · refine b_aload_n dX8_touchy_32 rfl ?_
    refine b_getr dX8_touchy_33 gf_X8_19 rfl rfl ?_
    refine b_iload_n dX8_touchy_36 rfl ?_
    refine b_ialdN dX8_touchy_37 rfl ⟨by omega, by decide⟩ ?_
    refine b_iconst (v := 2) dX8_touchy_38 (by decide) ?_
    refine b_icmp_ne (tgt := 55) dX8_touchy_39 (by decide) (fun h39 => ?_) (fun h39 => ?_)
    · refine b_iload_n dX8_touchy_55 rfl ?_
      refine b_iret dX8_touchy_56 rfl ⟨?_, ?_⟩
      · simp only [mTouch, if_pos h16, if_neg h39] <;> rfl
      · rfl
    · refine b_iload_n dX8_touchy_42 rfl ?_
      refine b_iconst (v := 2) dX8_touchy_43 (by decide) ?_
      refine b_icmp_le (tgt := 53) dX8_touchy_44 (by decide) (fun h44 => ?_) (fun h44 => ?_)
      · refine b_iconst (v := 1) dX8_touchy_53 (by decide) ?_
        refine b_istore_n dX8_touchy_54 (by decide) ?_
        refine b_iload_n dX8_touchy_55 rfl ?_
        refine b_iret dX8_touchy_56 rfl ⟨?_, ?_⟩
        · simp only [mTouch, if_pos h16, if_pos h39, if_pos h44] <;> rfl
        · rfl
      · refine b_iload_n dX8_touchy_47 rfl ?_
        refine b_iconst (v := 1) dX8_touchy_48 (by decide) ?_
        refine b_isub dX8_touchy_49 ?_
        refine b_goto (tgt := 54) dX8_touchy_50 (by decide) ?_
        refine b_istore_n dX8_touchy_54 (by decide) ?_
        refine b_iload_n dX8_touchy_55 rfl ?_
        refine b_iret dX8_touchy_56 rfl ⟨?_, ?_⟩
        · simp only [mTouch, if_pos h16, if_pos h39, if_neg h44] <;> rfl
        · rfl
  · refine b_iload_n dX8_touchy_19 rfl ?_
    refine b_iconst (v := 3) dX8_touchy_20 (by decide) ?_
    refine b_icmp_le (tgt := 30) dX8_touchy_21 (by decide) (fun h21 => ?_) (fun h21 => ?_)
    · refine b_iconst (v := 1) dX8_touchy_30 (by decide) ?_
      refine b_istore_n dX8_touchy_31 (by decide) ?_
      refine b_aload_n dX8_touchy_32 rfl ?_
      refine b_getr dX8_touchy_33 gf_X8_19 rfl rfl ?_
      refine b_iload_n dX8_touchy_36 rfl ?_
      refine b_ialdN dX8_touchy_37 rfl ⟨by omega, by decide⟩ ?_
      refine b_iconst (v := 2) dX8_touchy_38 (by decide) ?_
      refine b_icmp_ne (tgt := 55) dX8_touchy_39 (by decide) (fun h39 => ?_) (fun h39 => ?_)
      · refine b_iload_n dX8_touchy_55 rfl ?_
        refine b_iret dX8_touchy_56 rfl ⟨?_, ?_⟩
        · simp only [mTouch, if_neg h16, if_pos h21, if_neg h39] <;> rfl
        · rfl
      · refine b_iload_n dX8_touchy_42 rfl ?_
        refine b_iconst (v := 2) dX8_touchy_43 (by decide) ?_
        refine b_icmp_le (tgt := 53) dX8_touchy_44 (by decide) (fun h44 => ?_) (fun h44 => ?_)
        · refine b_iconst (v := 1) dX8_touchy_53 (by decide) ?_
          refine b_istore_n dX8_touchy_54 (by decide) ?_
          refine b_iload_n dX8_touchy_55 rfl ?_
          refine b_iret dX8_touchy_56 rfl ⟨?_, ?_⟩
          · simp only [mTouch, if_neg h16, if_pos h21, if_pos h39, if_pos h44] <;> rfl
          · rfl
        · refine b_iload_n dX8_touchy_47 rfl ?_
          refine b_iconst (v := 1) dX8_touchy_48 (by decide) ?_
          refine b_isub dX8_touchy_49 ?_
          refine b_goto (tgt := 54) dX8_touchy_50 (by decide) ?_
          refine b_istore_n dX8_touchy_54 (by decide) ?_
          refine b_iload_n dX8_touchy_55 rfl ?_
          refine b_iret dX8_touchy_56 rfl ⟨?_, ?_⟩
          · simp only [mTouch, if_neg h16, if_pos h21, if_pos h39, if_neg h44] <;> rfl
          · rfl
    · refine b_iload_n dX8_touchy_24 rfl ?_
      refine b_iconst (v := 2) dX8_touchy_25 (by decide) ?_
      refine b_isub dX8_touchy_26 ?_
      refine b_goto (tgt := 31) dX8_touchy_27 (by decide) ?_
      refine b_istore_n dX8_touchy_31 (by decide) ?_
      refine b_aload_n dX8_touchy_32 rfl ?_
      refine b_getr dX8_touchy_33 gf_X8_19 rfl rfl ?_
      refine b_iload_n dX8_touchy_36 rfl ?_
      refine b_ialdN dX8_touchy_37 rfl ⟨by omega, by decide⟩ ?_
      refine b_iconst (v := 2) dX8_touchy_38 (by decide) ?_
      refine b_icmp_ne (tgt := 55) dX8_touchy_39 (by decide) (fun h39 => ?_) (fun h39 => ?_)
      · refine b_iload_n dX8_touchy_55 rfl ?_
        refine b_iret dX8_touchy_56 rfl ⟨?_, ?_⟩
        · simp only [mTouch, if_neg h16, if_neg h21, if_neg h39] <;> rfl
        · rfl
      · refine b_iload_n dX8_touchy_42 rfl ?_
        refine b_iconst (v := 2) dX8_touchy_43 (by decide) ?_
        refine b_icmp_le (tgt := 53) dX8_touchy_44 (by decide) (fun h44 => ?_) (fun h44 => ?_)
        · refine b_iconst (v := 1) dX8_touchy_53 (by decide) ?_
          refine b_istore_n dX8_touchy_54 (by decide) ?_
          refine b_iload_n dX8_touchy_55 rfl ?_
          refine b_iret dX8_touchy_56 rfl ⟨?_, ?_⟩
          · simp only [mTouch, if_neg h16, if_neg h21, if_pos h39, if_pos h44] <;> rfl
          · rfl
        · refine b_iload_n dX8_touchy_47 rfl ?_
          refine b_iconst (v := 1) dX8_touchy_48 (by decide) ?_
          refine b_isub dX8_touchy_49 ?_
          refine b_goto (tgt := 54) dX8_touchy_50 (by decide) ?_
          refine b_istore_n dX8_touchy_54 (by decide) ?_
          refine b_iload_n dX8_touchy_55 rfl ?_
          refine b_iret dX8_touchy_56 rfl ⟨?_, ?_⟩
          · simp only [mTouch, if_neg h16, if_neg h21, if_pos h39, if_neg h44] <;> rfl
          · rfl

theorem Pn.frd {w : kW} {n k : Nat} (h : Pn n w) (hk : k < 2 * n) : fr w k < n ∧ w.1 6 k = nI (fr w k) := h.2.2.2.1 k hk
theorem Pn.le {w : kW} {n : Nat} (h : Pn n w) : n ≤ 6 := h.2.1
theorem fr_step {l : List Nat} {x : Nat} {q : Nat → Bool} (h : q x = false) : (x :: l).find? q = l.find? q := List.find?_cons_of_neg (by simp [h])
theorem fr_stop {l : List Nat} {x : Nat} {q : Nat → Bool} (h : q x = true) : (x :: l).find? q = some x := List.find?_cons_of_pos h

set_option maxRecDepth 100000 in
set_option maxHeartbeats 4000000 in
theorem s_X8_secondOf_4 {w : kW} {n p : Nat} {other no dawn : Int32} (hP : Pn n w) (hp : p < n) (hl : mSec w p other no dawn = List.find? (fun x => decide (mMay w x (nI p) other no dawn)) []) : BS shM RX8 cX8_secondOf 9 (some .int) 2 47 (fun r w' => r = some (.int (oI (mSec w p other no dawn))) ∧ w = w') 59 [(0, .ref 0), (1, .int (nI p)), (2, .int other), (3, .int no), (4, .int dawn), (5, .int (nI (fr w (2 * p)))), (6, .int (nI (fr w (2 * p + 1)))), (7, .int 4)] [] w := by
  have hn := hP.le
  have h1 := (hP.frd (k := 2 * p) (by omega)).1
  have h2 := (hP.frd (k := 2 * p + 1) (by omega)).1
  refine b_iload dX8_secondOf_59 rfl ?_
  refine b_iconst (v := 4) dX8_secondOf_61 (by decide) ?_
  refine b_icmp_ge (tgt := 115) dX8_secondOf_62 (by decide) (fun h62 => ?_) (fun h62 => ?_)
  · refine b_bipush (v := (-9)) dX8_secondOf_115 (by decide) ?_
    exact b_iret dX8_secondOf_117 rfl ⟨by rw [hl]; rfl, rfl⟩
  · exact absurd h62 (by decide)

set_option maxRecDepth 100000 in
set_option maxHeartbeats 4000000 in
theorem s_X8_secondOf_3 {w : kW} {n p : Nat} {other no dawn : Int32} (hP : Pn n w) (hp : p < n) (hl : mSec w p other no dawn = List.find? (fun x => decide (mMay w x (nI p) other no dawn)) [fr w (2 * fr w (2 * p + 1) + 1)]) : BS shM RX8 cX8_secondOf 9 (some .int) 2 47 (fun r w' => r = some (.int (oI (mSec w p other no dawn))) ∧ w = w') 59 [(0, .ref 0), (1, .int (nI p)), (2, .int other), (3, .int no), (4, .int dawn), (5, .int (nI (fr w (2 * p)))), (6, .int (nI (fr w (2 * p + 1)))), (7, .int 3)] [] w := by
  have hn := hP.le
  have h1 := (hP.frd (k := 2 * p) (by omega)).1
  have h2 := (hP.frd (k := 2 * p + 1) (by omega)).1
  have h3 := hP.frd (k := (2 * fr w (2 * p + 1) + 1)) (by omega)
  refine b_iload dX8_secondOf_59 rfl ?_
  refine b_iconst (v := 4) dX8_secondOf_61 (by decide) ?_
  refine b_icmp_ge (tgt := 115) dX8_secondOf_62 (by decide) (fun h62 => ?_) (fun h62 => ?_)
  · exact absurd h62 (by decide)
  · refine b_aload_n dX8_secondOf_65 rfl ?_
    refine b_getr dX8_secondOf_66 gf_X8_25 rfl rfl ?_
    refine b_iconst (v := 2) dX8_secondOf_69 (by decide) ?_
    refine b_iload dX8_secondOf_70 rfl ?_
    refine b_iconst (v := 2) dX8_secondOf_72 (by decide) ?_
    refine b_icmp_ge (tgt := 81) dX8_secondOf_73 (by decide) (fun h73 => ?_) (fun h73 => ?_)
    · refine b_iload dX8_secondOf_81 rfl ?_
      refine b_imul dX8_secondOf_83 ?_
      refine b_topi (y := nI (2 * fr w (2 * p + 1))) (nI_two _) ?_
      refine b_iload dX8_secondOf_84 rfl ?_
      refine b_iconst (v := 2) dX8_secondOf_86 (by decide) ?_
      refine b_irem dX8_secondOf_87 (by decide) ?_
      refine b_topi (y := 1) (by decide) ?_
      refine b_iadd dX8_secondOf_88 ?_
      refine b_topi (y := nI (2 * fr w (2 * p + 1) + 1)) (by first | exact nI_add _ 0 | exact nI_add _ 1) ?_
      refine b_ialdN dX8_secondOf_89 rfl ⟨by omega, by decide⟩ ?_
      rw [h3.2]
      refine b_istore dX8_secondOf_90 (by decide) ?_
      refine b_aload_n dX8_secondOf_92 rfl ?_
      refine b_iload dX8_secondOf_93 rfl ?_
      refine b_iload_n dX8_secondOf_95 rfl ?_
      refine b_iload_n dX8_secondOf_96 rfl ?_
      refine b_iload_n dX8_secondOf_97 rfl ?_
      refine b_iload dX8_secondOf_98 rfl ?_
      refine b_callV5 dX8_secondOf_100 lk_X8_161 rfl rfl rfl ⟨Nat.le_of_ble_eq_true rfl, Nat.le_of_ble_eq_true rfl⟩ (Nat.le_of_ble_eq_true rfl) (s_X8_maySecond (by omega)) (fun r w100 h100 => ?_)
      obtain ⟨rfl, h100⟩ := h100
      rcases h100 with ⟨rfl, h100⟩ | ⟨rfl, h100⟩
      · refine b_if_eq (tgt := 109) dX8_secondOf_103 (by decide) (fun h103 => absurd h103 (by decide)) (fun h103 => ?_)
        refine b_iload dX8_secondOf_106 rfl ?_
        exact b_iret dX8_secondOf_108 rfl ⟨by rw [hl, fr_stop (decide_eq_true h100)]; rfl, rfl⟩
      · refine b_if_eq (tgt := 109) dX8_secondOf_103 (by decide) (fun h103 => ?_) (fun h103 => absurd h103 (by decide))
        refine b_iinc dX8_secondOf_109 rfl rfl (by decide) ?_
        refine b_goto (tgt := 59) dX8_secondOf_112 (by decide) ?_
        refine b_sub [2, 3, 4, 5, 6, 7, 8, 0] rfl ?_
        exact s_X8_secondOf_4 hP hp (by rw [hl]; exact fr_step (decide_eq_false h100))
    · exact absurd h73 (by decide)

set_option maxRecDepth 100000 in
set_option maxHeartbeats 4000000 in
theorem s_X8_secondOf_2 {w : kW} {n p : Nat} {other no dawn : Int32} (hP : Pn n w) (hp : p < n) (hl : mSec w p other no dawn = List.find? (fun x => decide (mMay w x (nI p) other no dawn)) [fr w (2 * fr w (2 * p + 1)), fr w (2 * fr w (2 * p + 1) + 1)]) : BS shM RX8 cX8_secondOf 9 (some .int) 2 47 (fun r w' => r = some (.int (oI (mSec w p other no dawn))) ∧ w = w') 59 [(0, .ref 0), (1, .int (nI p)), (2, .int other), (3, .int no), (4, .int dawn), (5, .int (nI (fr w (2 * p)))), (6, .int (nI (fr w (2 * p + 1)))), (7, .int 2)] [] w := by
  have hn := hP.le
  have h1 := (hP.frd (k := 2 * p) (by omega)).1
  have h2 := (hP.frd (k := 2 * p + 1) (by omega)).1
  have h3 := hP.frd (k := (2 * fr w (2 * p + 1))) (by omega)
  refine b_iload dX8_secondOf_59 rfl ?_
  refine b_iconst (v := 4) dX8_secondOf_61 (by decide) ?_
  refine b_icmp_ge (tgt := 115) dX8_secondOf_62 (by decide) (fun h62 => ?_) (fun h62 => ?_)
  · exact absurd h62 (by decide)
  · refine b_aload_n dX8_secondOf_65 rfl ?_
    refine b_getr dX8_secondOf_66 gf_X8_25 rfl rfl ?_
    refine b_iconst (v := 2) dX8_secondOf_69 (by decide) ?_
    refine b_iload dX8_secondOf_70 rfl ?_
    refine b_iconst (v := 2) dX8_secondOf_72 (by decide) ?_
    refine b_icmp_ge (tgt := 81) dX8_secondOf_73 (by decide) (fun h73 => ?_) (fun h73 => ?_)
    · refine b_iload dX8_secondOf_81 rfl ?_
      refine b_imul dX8_secondOf_83 ?_
      refine b_topi (y := nI (2 * fr w (2 * p + 1))) (nI_two _) ?_
      refine b_iload dX8_secondOf_84 rfl ?_
      refine b_iconst (v := 2) dX8_secondOf_86 (by decide) ?_
      refine b_irem dX8_secondOf_87 (by decide) ?_
      refine b_topi (y := 0) (by decide) ?_
      refine b_iadd dX8_secondOf_88 ?_
      refine b_topi (y := nI (2 * fr w (2 * p + 1))) (by first | exact nI_add _ 0 | exact nI_add _ 1) ?_
      refine b_ialdN dX8_secondOf_89 rfl ⟨by omega, by decide⟩ ?_
      rw [h3.2]
      refine b_istore dX8_secondOf_90 (by decide) ?_
      refine b_aload_n dX8_secondOf_92 rfl ?_
      refine b_iload dX8_secondOf_93 rfl ?_
      refine b_iload_n dX8_secondOf_95 rfl ?_
      refine b_iload_n dX8_secondOf_96 rfl ?_
      refine b_iload_n dX8_secondOf_97 rfl ?_
      refine b_iload dX8_secondOf_98 rfl ?_
      refine b_callV5 dX8_secondOf_100 lk_X8_161 rfl rfl rfl ⟨Nat.le_of_ble_eq_true rfl, Nat.le_of_ble_eq_true rfl⟩ (Nat.le_of_ble_eq_true rfl) (s_X8_maySecond (by omega)) (fun r w100 h100 => ?_)
      obtain ⟨rfl, h100⟩ := h100
      rcases h100 with ⟨rfl, h100⟩ | ⟨rfl, h100⟩
      · refine b_if_eq (tgt := 109) dX8_secondOf_103 (by decide) (fun h103 => absurd h103 (by decide)) (fun h103 => ?_)
        refine b_iload dX8_secondOf_106 rfl ?_
        exact b_iret dX8_secondOf_108 rfl ⟨by rw [hl, fr_stop (decide_eq_true h100)]; rfl, rfl⟩
      · refine b_if_eq (tgt := 109) dX8_secondOf_103 (by decide) (fun h103 => ?_) (fun h103 => absurd h103 (by decide))
        refine b_iinc dX8_secondOf_109 rfl rfl (by decide) ?_
        refine b_goto (tgt := 59) dX8_secondOf_112 (by decide) ?_
        refine b_sub [2, 3, 4, 5, 6, 7, 8, 0] rfl ?_
        exact s_X8_secondOf_3 hP hp (by rw [hl]; exact fr_step (decide_eq_false h100))
    · exact absurd h73 (by decide)

set_option maxRecDepth 100000 in
set_option maxHeartbeats 4000000 in
theorem s_X8_secondOf_1 {w : kW} {n p : Nat} {other no dawn : Int32} (hP : Pn n w) (hp : p < n) (hl : mSec w p other no dawn = List.find? (fun x => decide (mMay w x (nI p) other no dawn)) [fr w (2 * fr w (2 * p) + 1), fr w (2 * fr w (2 * p + 1)), fr w (2 * fr w (2 * p + 1) + 1)]) : BS shM RX8 cX8_secondOf 9 (some .int) 2 47 (fun r w' => r = some (.int (oI (mSec w p other no dawn))) ∧ w = w') 59 [(0, .ref 0), (1, .int (nI p)), (2, .int other), (3, .int no), (4, .int dawn), (5, .int (nI (fr w (2 * p)))), (6, .int (nI (fr w (2 * p + 1)))), (7, .int 1)] [] w := by
  have hn := hP.le
  have h1 := (hP.frd (k := 2 * p) (by omega)).1
  have h2 := (hP.frd (k := 2 * p + 1) (by omega)).1
  have h3 := hP.frd (k := (2 * fr w (2 * p) + 1)) (by omega)
  refine b_iload dX8_secondOf_59 rfl ?_
  refine b_iconst (v := 4) dX8_secondOf_61 (by decide) ?_
  refine b_icmp_ge (tgt := 115) dX8_secondOf_62 (by decide) (fun h62 => ?_) (fun h62 => ?_)
  · exact absurd h62 (by decide)
  · refine b_aload_n dX8_secondOf_65 rfl ?_
    refine b_getr dX8_secondOf_66 gf_X8_25 rfl rfl ?_
    refine b_iconst (v := 2) dX8_secondOf_69 (by decide) ?_
    refine b_iload dX8_secondOf_70 rfl ?_
    refine b_iconst (v := 2) dX8_secondOf_72 (by decide) ?_
    refine b_icmp_ge (tgt := 81) dX8_secondOf_73 (by decide) (fun h73 => ?_) (fun h73 => ?_)
    · exact absurd h73 (by decide)
    · refine b_iload dX8_secondOf_76 rfl ?_
      refine b_goto (tgt := 83) dX8_secondOf_78 (by decide) ?_
      refine b_imul dX8_secondOf_83 ?_
      refine b_topi (y := nI (2 * fr w (2 * p))) (nI_two _) ?_
      refine b_iload dX8_secondOf_84 rfl ?_
      refine b_iconst (v := 2) dX8_secondOf_86 (by decide) ?_
      refine b_irem dX8_secondOf_87 (by decide) ?_
      refine b_topi (y := 1) (by decide) ?_
      refine b_iadd dX8_secondOf_88 ?_
      refine b_topi (y := nI (2 * fr w (2 * p) + 1)) (by first | exact nI_add _ 0 | exact nI_add _ 1) ?_
      refine b_ialdN dX8_secondOf_89 rfl ⟨by omega, by decide⟩ ?_
      rw [h3.2]
      refine b_istore dX8_secondOf_90 (by decide) ?_
      refine b_aload_n dX8_secondOf_92 rfl ?_
      refine b_iload dX8_secondOf_93 rfl ?_
      refine b_iload_n dX8_secondOf_95 rfl ?_
      refine b_iload_n dX8_secondOf_96 rfl ?_
      refine b_iload_n dX8_secondOf_97 rfl ?_
      refine b_iload dX8_secondOf_98 rfl ?_
      refine b_callV5 dX8_secondOf_100 lk_X8_161 rfl rfl rfl ⟨Nat.le_of_ble_eq_true rfl, Nat.le_of_ble_eq_true rfl⟩ (Nat.le_of_ble_eq_true rfl) (s_X8_maySecond (by omega)) (fun r w100 h100 => ?_)
      obtain ⟨rfl, h100⟩ := h100
      rcases h100 with ⟨rfl, h100⟩ | ⟨rfl, h100⟩
      · refine b_if_eq (tgt := 109) dX8_secondOf_103 (by decide) (fun h103 => absurd h103 (by decide)) (fun h103 => ?_)
        refine b_iload dX8_secondOf_106 rfl ?_
        exact b_iret dX8_secondOf_108 rfl ⟨by rw [hl, fr_stop (decide_eq_true h100)]; rfl, rfl⟩
      · refine b_if_eq (tgt := 109) dX8_secondOf_103 (by decide) (fun h103 => ?_) (fun h103 => absurd h103 (by decide))
        refine b_iinc dX8_secondOf_109 rfl rfl (by decide) ?_
        refine b_goto (tgt := 59) dX8_secondOf_112 (by decide) ?_
        refine b_sub [2, 3, 4, 5, 6, 7, 8, 0] rfl ?_
        exact s_X8_secondOf_2 hP hp (by rw [hl]; exact fr_step (decide_eq_false h100))

set_option maxRecDepth 100000 in
set_option maxHeartbeats 4000000 in
theorem s_X8_secondOf_0 {w : kW} {n p : Nat} {other no dawn : Int32} (hP : Pn n w) (hp : p < n) (hl : mSec w p other no dawn = List.find? (fun x => decide (mMay w x (nI p) other no dawn)) [fr w (2 * fr w (2 * p)), fr w (2 * fr w (2 * p) + 1), fr w (2 * fr w (2 * p + 1)), fr w (2 * fr w (2 * p + 1) + 1)]) : BS shM RX8 cX8_secondOf 9 (some .int) 2 47 (fun r w' => r = some (.int (oI (mSec w p other no dawn))) ∧ w = w') 59 [(0, .ref 0), (1, .int (nI p)), (2, .int other), (3, .int no), (4, .int dawn), (5, .int (nI (fr w (2 * p)))), (6, .int (nI (fr w (2 * p + 1)))), (7, .int 0)] [] w := by
  have hn := hP.le
  have h1 := (hP.frd (k := 2 * p) (by omega)).1
  have h2 := (hP.frd (k := 2 * p + 1) (by omega)).1
  have h3 := hP.frd (k := (2 * fr w (2 * p))) (by omega)
  refine b_iload dX8_secondOf_59 rfl ?_
  refine b_iconst (v := 4) dX8_secondOf_61 (by decide) ?_
  refine b_icmp_ge (tgt := 115) dX8_secondOf_62 (by decide) (fun h62 => ?_) (fun h62 => ?_)
  · exact absurd h62 (by decide)
  · refine b_aload_n dX8_secondOf_65 rfl ?_
    refine b_getr dX8_secondOf_66 gf_X8_25 rfl rfl ?_
    refine b_iconst (v := 2) dX8_secondOf_69 (by decide) ?_
    refine b_iload dX8_secondOf_70 rfl ?_
    refine b_iconst (v := 2) dX8_secondOf_72 (by decide) ?_
    refine b_icmp_ge (tgt := 81) dX8_secondOf_73 (by decide) (fun h73 => ?_) (fun h73 => ?_)
    · exact absurd h73 (by decide)
    · refine b_iload dX8_secondOf_76 rfl ?_
      refine b_goto (tgt := 83) dX8_secondOf_78 (by decide) ?_
      refine b_imul dX8_secondOf_83 ?_
      refine b_topi (y := nI (2 * fr w (2 * p))) (nI_two _) ?_
      refine b_iload dX8_secondOf_84 rfl ?_
      refine b_iconst (v := 2) dX8_secondOf_86 (by decide) ?_
      refine b_irem dX8_secondOf_87 (by decide) ?_
      refine b_topi (y := 0) (by decide) ?_
      refine b_iadd dX8_secondOf_88 ?_
      refine b_topi (y := nI (2 * fr w (2 * p))) (by first | exact nI_add _ 0 | exact nI_add _ 1) ?_
      refine b_ialdN dX8_secondOf_89 rfl ⟨by omega, by decide⟩ ?_
      rw [h3.2]
      refine b_istore dX8_secondOf_90 (by decide) ?_
      refine b_aload_n dX8_secondOf_92 rfl ?_
      refine b_iload dX8_secondOf_93 rfl ?_
      refine b_iload_n dX8_secondOf_95 rfl ?_
      refine b_iload_n dX8_secondOf_96 rfl ?_
      refine b_iload_n dX8_secondOf_97 rfl ?_
      refine b_iload dX8_secondOf_98 rfl ?_
      refine b_callV5 dX8_secondOf_100 lk_X8_161 rfl rfl rfl ⟨Nat.le_of_ble_eq_true rfl, Nat.le_of_ble_eq_true rfl⟩ (Nat.le_of_ble_eq_true rfl) (s_X8_maySecond (by omega)) (fun r w100 h100 => ?_)
      obtain ⟨rfl, h100⟩ := h100
      rcases h100 with ⟨rfl, h100⟩ | ⟨rfl, h100⟩
      · refine b_if_eq (tgt := 109) dX8_secondOf_103 (by decide) (fun h103 => absurd h103 (by decide)) (fun h103 => ?_)
        refine b_iload dX8_secondOf_106 rfl ?_
        exact b_iret dX8_secondOf_108 rfl ⟨by rw [hl, fr_stop (decide_eq_true h100)]; rfl, rfl⟩
      · refine b_if_eq (tgt := 109) dX8_secondOf_103 (by decide) (fun h103 => ?_) (fun h103 => absurd h103 (by decide))
        refine b_iinc dX8_secondOf_109 rfl rfl (by decide) ?_
        refine b_goto (tgt := 59) dX8_secondOf_112 (by decide) ?_
        refine b_sub [2, 3, 4, 5, 6, 7, 8, 0] rfl ?_
        exact s_X8_secondOf_1 hP hp (by rw [hl]; exact fr_step (decide_eq_false h100))

set_option maxRecDepth 100000 in
set_option maxHeartbeats 4000000 in
theorem s_X8_secondOf {w : kW} {n p : Nat} {other no dawn : Int32} (hP : Pn n w) (hp : p < n) : Spec shM yX8_secondOf cX8_secondOf 9 (some .int) 2 47 [.ref 0, .int (nI p), .int other, .int no, .int dawn] w (fun r w' => r = some (.int (oI (mSec w p other no dawn))) ∧ w = w') := by
  have hn := hP.le
  have h1 := (hP.frd (k := 2 * p) (by omega))
  have h2 := (hP.frd (k := 2 * p + 1) (by omega))
  refine k_enter pn_X8 (Nat.le_of_ble_eq_true rfl) ?_
  refine b_aload_n dX8_secondOf_0 rfl ?_
  refine b_getr dX8_secondOf_1 gf_X8_25 rfl rfl ?_
  refine b_iconst (v := 2) dX8_secondOf_4 (by decide) ?_
  refine b_iload_n dX8_secondOf_5 rfl ?_
  refine b_imul dX8_secondOf_6 ?_
  refine b_topi (y := nI (2 * p)) (nI_two _) ?_
  refine b_ialdN dX8_secondOf_7 rfl ⟨by omega, by decide⟩ ?_
  rw [h1.2]
  refine b_istore dX8_secondOf_8 (by decide) ?_
  refine b_aload_n dX8_secondOf_10 rfl ?_
  refine b_getr dX8_secondOf_11 gf_X8_25 rfl rfl ?_
  refine b_iconst (v := 2) dX8_secondOf_14 (by decide) ?_
  refine b_iload_n dX8_secondOf_15 rfl ?_
  refine b_imul dX8_secondOf_16 ?_
  refine b_topi (y := nI (2 * p)) (nI_two _) ?_
  refine b_iconst (v := 1) dX8_secondOf_17 (by decide) ?_
  refine b_iadd dX8_secondOf_18 ?_
  refine b_topi (y := nI (2 * p + 1)) (nI_add _ 1) ?_
  refine b_ialdN dX8_secondOf_19 rfl ⟨by omega, by decide⟩ ?_
  rw [h2.2]
  refine b_istore dX8_secondOf_20 (by decide) ?_
  refine b_aload_n dX8_secondOf_22 rfl ?_
  refine b_iload dX8_secondOf_23 rfl ?_
  refine b_iload_n dX8_secondOf_25 rfl ?_
  refine b_iload_n dX8_secondOf_26 rfl ?_
  refine b_iload_n dX8_secondOf_27 rfl ?_
  refine b_iload dX8_secondOf_28 rfl ?_
  refine b_callV5 dX8_secondOf_30 lk_X8_161 rfl rfl rfl ⟨Nat.le_of_ble_eq_true rfl, Nat.le_of_ble_eq_true rfl⟩ (Nat.le_of_ble_eq_true rfl) (s_X8_maySecond (by omega)) (fun r w30 h30 => ?_)
  obtain ⟨rfl, h30⟩ := h30
  rcases h30 with ⟨rfl, h30⟩ | ⟨rfl, h30⟩
  · refine b_if_eq (tgt := 39) dX8_secondOf_33 (by decide) (fun h33 => absurd h33 (by decide)) (fun h33 => ?_)
    refine b_iload dX8_secondOf_36 rfl ?_
    exact b_iret dX8_secondOf_38 rfl ⟨by unfold mSec mCh; rw [fr_stop (decide_eq_true h30)]; rfl, rfl⟩
  · refine b_if_eq (tgt := 39) dX8_secondOf_33 (by decide) (fun h33 => ?_) (fun h33 => absurd h33 (by decide))
    refine b_aload_n dX8_secondOf_39 rfl ?_
    refine b_iload dX8_secondOf_40 rfl ?_
    refine b_iload_n dX8_secondOf_42 rfl ?_
    refine b_iload_n dX8_secondOf_43 rfl ?_
    refine b_iload_n dX8_secondOf_44 rfl ?_
    refine b_iload dX8_secondOf_45 rfl ?_
    refine b_callV5 dX8_secondOf_47 lk_X8_161 rfl rfl rfl ⟨Nat.le_of_ble_eq_true rfl, Nat.le_of_ble_eq_true rfl⟩ (Nat.le_of_ble_eq_true rfl) (s_X8_maySecond (by omega)) (fun r w47 h47 => ?_)
    obtain ⟨rfl, h47⟩ := h47
    rcases h47 with ⟨rfl, h47⟩ | ⟨rfl, h47⟩
    · refine b_if_eq (tgt := 56) dX8_secondOf_50 (by decide) (fun h50 => absurd h50 (by decide)) (fun h50 => ?_)
      refine b_iload dX8_secondOf_53 rfl ?_
      exact b_iret dX8_secondOf_55 rfl ⟨by unfold mSec mCh; rw [fr_step (decide_eq_false h30), fr_stop (decide_eq_true h47)]; rfl, rfl⟩
    · refine b_if_eq (tgt := 56) dX8_secondOf_50 (by decide) (fun h50 => ?_) (fun h50 => absurd h50 (by decide))
      refine b_iconst (v := 0) dX8_secondOf_56 (by decide) ?_
      refine b_istore dX8_secondOf_57 (by decide) ?_
      refine b_sub [3, 4, 5, 6, 7, 2, 1, 0] rfl ?_
      exact s_X8_secondOf_0 hP hp (by unfold mSec mCh; rw [fr_step (decide_eq_false h30), fr_step (decide_eq_false h47)])
