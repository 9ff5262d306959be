/-! ===== sheets ===== -/
theorem shK {k : Nat} (h : k < 4) : shC[31 + k]? = some (.inl (5, [none, none, none, some (some (35 + k))])) := by
  rcases (show k = 0 ∨ k = 1 ∨ k = 2 ∨ k = 3 by omega) with rfl | rfl | rfl | rfl <;> rfl
theorem shR {k : Nat} (h : k < 4) : shC[35 + k]? = some (.inr (.inl (0, 50))) := by
  rcases (show k = 0 ∨ k = 1 ∨ k = 2 ∨ k = 3 by omega) with rfl | rfl | rfl | rfl <;> rfl
theorem Rel.sh {n c q k : Nat} {w g w' g' : kW} (h : Rel n c q w g) (hk4 : k < 4) (hw : ∀ j, j ≠ 31 + k → j ≠ 35 + k → w'.1 j = w.1 j) (hg : ∀ j, j ≠ 1 → j ≠ 2 → j ≠ 3 → g'.1 j = g.1 j)
    (hg1 : ∀ j, j < 4 → j ≠ k → g'.1 1 j = g.1 1 j ∧ g'.1 2 j = g.1 2 j ∧ ∀ x, x < 50 → g'.1 3 (50 * j + x) = g.1 3 (50 * j + x)) (hk : RS1 k w' g') (hS : (g'.1 1 k = -9 ∨ g'.1 1 k = 0 ∨ g'.1 1 k = 1 ∨ g'.1 1 k = 2) ∧ ∃ l, l ≤ 50 ∧ g'.1 2 k = nI l) : Rel n c q w' g' := by
  obtain ⟨⟨g1, g2, g3, g4, g5, g6⟩, ⟨h2, h3, h4⟩, ⟨h5, h6⟩, h7, ⟨h8, h9⟩, h10, h11, h12⟩ := h
  have e0 := hg 0 (by decide) (by decide) (by decide)
  have e4 := hg 4 (by decide) (by decide) (by decide)
  have e5 := hg 5 (by decide) (by decide) (by decide)
  have e6 := hg 6 (by decide) (by decide) (by decide)
  have e7 := hg 7 (by decide) (by decide) (by decide)
  have hP : Pn n g' := by
    unfold Pn fr at *
    rw [e0, e4, e5, e6, e7]; exact g1
  refine ⟨⟨hP, ?_, g3, ?_, by rw [e0]; exact g5, fun j hj => ?_⟩, ⟨hP, ?_, ?_⟩, ⟨?_, ?_⟩, ?_, ⟨?_, ?_⟩, ?_, ?_, ?_⟩
  · unfold Ins at *
    rw [e0, hg 11 (by decide) (by decide) (by decide), hg 12 (by decide) (by decide) (by decide), hg 13 (by decide) (by decide) (by decide), hg 14 (by decide) (by decide) (by decide)]; exact g2
  · unfold Rd at *
    rw [e0, hg 26 (by decide) (by decide) (by decide), hg 27 (by decide) (by decide) (by decide), hg 28 (by decide) (by decide) (by decide)]; exact g4
  · by_cases e : j = k
    · subst e; exact hS
    · rw [(hg1 j hj e).1, (hg1 j hj e).2.1]; exact g6 j hj
  · rw [hw 1 (by omega) (by omega)]; exact h3
  · intro p hp; rw [hw 2 (by omega) (by omega), hw 3 (by omega) (by omega), hw 4 (by omega) (by omega), hw 5 (by omega) (by omega), e4, e5, e6]; exact h4 p hp
  · rw [hw 6 (by omega) (by omega)]; exact h5
  · intro i hi; rw [hw 7 (by omega) (by omega), hw 8 (by omega) (by omega), hw 9 (by omega) (by omega), hw 10 (by omega) (by omega), hg 11 (by decide) (by decide) (by decide), hg 12 (by decide) (by decide) (by decide), hg 13 (by decide) (by decide) (by decide), hg 14 (by decide) (by decide) (by decide)]; exact h6 i hi
  · intro p hp; rw [hw 1 (by omega) (by omega), e7]; exact h7 p hp
  · rw [hw 11 (by omega) (by omega)]; exact h8
  · intro i hi; rw [hw 12 (by omega) (by omega), hw 13 (by omega) (by omega), hw 14 (by omega) (by omega), hg 26 (by decide) (by decide) (by decide), hg 27 (by decide) (by decide) (by decide), hg 28 (by decide) (by decide) (by decide)]; exact h9 i hi
  · intro j hj
    by_cases e : j = k
    · subst e; exact hk
    · exact (h10 j hj).of (hw _ (by omega) (by omega)) (hw _ (by omega) (by omega)) (hg1 j hj e).1 (hg1 j hj e).2.1 (hg1 j hj e).2.2
  · rw [hw 0 (by omega) (by omega), e0]; exact h11
  · rw [hw 0 (by omega) (by omega), e0]; exact h12
theorem zeroC_row {w : kW} {j c : Nat} (h : c ≠ 3) : ∀ m, (zeroC w j m).1 c = w.1 c
  | 0 => rfl
  | m + 1 => by rw [zeroC, kset_row _ _ _ _ h, zeroC_row h m]
theorem zeroC_in {w : kW} {j x : Nat} : ∀ m, x < m → (zeroC w j m).1 3 (50 * j + x) = 0
  | 0, h => by omega
  | m + 1, h => by
    rw [zeroC, kset_1, if_pos rfl]
    by_cases e : 50 * j + x = 50 * j + m
    · rw [if_pos e]
    · rw [if_neg e]; exact zeroC_in m (by omega)
theorem zeroC_out {w : kW} {j y : Nat} : ∀ m, (y < 50 * j ∨ 50 * j + m ≤ y) → (zeroC w j m).1 3 y = w.1 3 y
  | 0, _ => rfl
  | m + 1, h => by
    rw [zeroC, kset_ne _ _ (Or.inr (by omega))]
    exact zeroC_out m (by omega)
theorem minmax : ∀ m, m < 51 → (if (nI m : Int32) < 50 then nI m else 50) = nI m ∧ (if (0 : Int32) < nI m then nI m else 0) = nI m := by decide +kernel
set_option maxRecDepth 100000 in
set_option maxHeartbeats 1000000 in
theorem s_X7_sheetOf {w : kW} {x : Int32} : Spec shC yX7_sheetOf cX7_sheetOf 2 (some (.object "DuelSeconds$Sheet")) 0 0 [.ref 0, .int x] w (fun r w' => w = w' ∧ ((∃ k, k < 4 ∧ x = nI k ∧ r = some (.ref (31 + k))) ∨ (¬ isS x ∧ r = some .null))) := by
  refine k_enter pn_X7 (Nat.le_of_ble_eq_true rfl) ?_
  refine b_iload_n dX7_sheetOf_0 rfl ?_
  refine b_if_lt (tgt := 18) dX7_sheetOf_1 (by decide) (fun h1 => ?_) (fun h1 => ?_)
  · refine b_null dX7_sheetOf_18 ?_
    exact b_aret (C := "DuelSeconds$Sheet") dX7_sheetOf_19 rfl (Or.inl rfl) ⟨rfl, Or.inr ⟨fun z => absurd z.1 (Int32.not_le.mpr h1), rfl⟩⟩
  · refine b_iload_n dX7_sheetOf_4 rfl ?_
    refine b_iconst (v := 4) dX7_sheetOf_5 (by decide) ?_
    refine b_icmp_ge (tgt := 18) dX7_sheetOf_6 (by decide) (fun h6 => ?_) (fun h6 => ?_)
    · refine b_null dX7_sheetOf_18 ?_
      exact b_aret (C := "DuelSeconds$Sheet") dX7_sheetOf_19 rfl (Or.inl rfl) ⟨rfl, Or.inr ⟨fun z => absurd ((lt_le (a := 3) (b := 4) (by decide)).mpr z.2) (Int32.not_lt.mpr h6), rfl⟩⟩
    · obtain ⟨k, hk, rfl⟩ := sheet_of (x := x) ⟨Int32.not_lt.mp h1, (lt_le (a := 3) (b := 4) (by decide)).mp (Int32.not_le.mp h6)⟩
      refine b_aload_n dX7_sheetOf_9 rfl ?_
      refine b_getr dX7_sheetOf_10 gf_X7_45 rfl rfl ?_
      refine b_iload_n dX7_sheetOf_13 rfl ?_
      refine b_aald (r := 31 + k) dX7_sheetOf_14 rfl (by decide) (by unfold vp_in; rw [nI_clamp (by omega)]; intro z; rcases z with z | z; exact nI_pos (by omega) z; omega) (by rw [nI_clamp (by omega), if_pos hk]) ?_
      refine b_goto (tgt := 19) dX7_sheetOf_15 (by decide) ?_
      exact b_aret (C := "DuelSeconds$Sheet") dX7_sheetOf_19 rfl (Or.inr ⟨_, rfl⟩) ⟨rfl, Or.inl ⟨k, hk, rfl, rfl⟩⟩
set_option maxRecDepth 100000 in
set_option maxHeartbeats 1000000 in
theorem s_X5_holds {w : kW} {k : Nat} (hk : k < 4) {i m : Int32} : Spec shC yX5_holds cX5_holds 3 (some .boolean) 0 0 [.ref (31 + k), .int i, .int m] w (fun r w' => w = w' ∧ ((r = some (.int 1) ∧ (¬ i < 0 ∧ i ≤ w.1 (31 + k) 2 ∧ ¬ m < 0 ∧ m ≤ w.1 (31 + k) 2 - i)) ∨ (r = some (.int 0) ∧ ¬ (¬ i < 0 ∧ i ≤ w.1 (31 + k) 2 ∧ ¬ m < 0 ∧ m ≤ w.1 (31 + k) 2 - i)))) := by
  refine k_enter pn_X5 (Nat.le_of_ble_eq_true rfl) ?_
  refine b_iload_n dX5_holds_0 rfl ?_
  refine b_if_lt (tgt := 30) dX5_holds_1 (by decide) (fun h1 => ?_) (fun h1 => ?_)
  · refine b_iconst (v := 0) dX5_holds_30 (by decide) ?_
    exact b_zret (Or.inl rfl) dX5_holds_31 rfl ⟨rfl, Or.inr ⟨rfl, fun z => z.1 h1⟩⟩
  · refine b_iload_n dX5_holds_4 rfl ?_
    refine b_aload_n dX5_holds_5 rfl ?_
    refine b_geti dX5_holds_6 gf_X5_32 (shK hk) rfl ?_
    refine b_icmp_gt (tgt := 30) dX5_holds_9 (by decide) (fun h9 => ?_) (fun h9 => ?_)
    · refine b_iconst (v := 0) dX5_holds_30 (by decide) ?_
      exact b_zret (Or.inl rfl) dX5_holds_31 rfl ⟨rfl, Or.inr ⟨rfl, fun z => absurd z.2.1 (Int32.not_le.mpr h9)⟩⟩
    · refine b_iload_n dX5_holds_12 rfl ?_
      refine b_if_lt (tgt := 30) dX5_holds_13 (by decide) (fun h13 => ?_) (fun h13 => ?_)
      · refine b_iconst (v := 0) dX5_holds_30 (by decide) ?_
        exact b_zret (Or.inl rfl) dX5_holds_31 rfl ⟨rfl, Or.inr ⟨rfl, fun z => z.2.2.1 h13⟩⟩
      · refine b_iload_n dX5_holds_16 rfl ?_
        refine b_aload_n dX5_holds_17 rfl ?_
        refine b_geti dX5_holds_18 gf_X5_32 (shK hk) rfl ?_
        refine b_iload_n dX5_holds_21 rfl ?_
        refine b_isub dX5_holds_22 ?_
        refine b_icmp_gt (tgt := 30) dX5_holds_23 (by decide) (fun h23 => ?_) (fun h23 => ?_)
        · refine b_iconst (v := 0) dX5_holds_30 (by decide) ?_
          exact b_zret (Or.inl rfl) dX5_holds_31 rfl ⟨rfl, Or.inr ⟨rfl, fun z => absurd z.2.2.2 (Int32.not_le.mpr h23)⟩⟩
        · refine b_iconst (v := 1) dX5_holds_26 (by decide) ?_
          refine b_goto (tgt := 31) dX5_holds_27 (by decide) ?_
          exact b_zret (Or.inr rfl) dX5_holds_31 rfl ⟨rfl, Or.inl ⟨rfl, h1, Int32.not_lt.mp h9, h13, Int32.not_lt.mp h23⟩⟩
set_option maxRecDepth 100000 in
set_option maxHeartbeats 1000000 in
theorem s_X5_at {w : kW} {k : Nat} (hk : k < 4) {i l : Nat} (hl : w.1 (31 + k) 2 = nI l) (hl5 : l ≤ 50) (hi : i < l) : Spec shC yX5_at cX5_at 2 (some .int) 0 0 [.ref (31 + k), .int (nI i)] w (fun r w' => r = some (.int (w.1 (35 + k) i)) ∧ w = w') := by
  refine k_enter pn_X5 (Nat.le_of_ble_eq_true rfl) ?_
  refine b_iload_n dX5_at_0 rfl ?_
  refine b_if_lt (tgt := 21) dX5_at_1 (by decide) (fun h1 => ?_) (fun h1 => ?_)
  · exact absurd h1 (nI_pos (by omega))
  · refine b_iload_n dX5_at_4 rfl ?_
    refine b_aload_n dX5_at_5 rfl ?_
    refine b_geti dX5_at_6 gf_X5_32 (shK hk) rfl ?_
    refine b_topi (y := nI l) hl ?_
    refine b_icmp_ge (tgt := 21) dX5_at_9 (by decide) (fun h9 => ?_) (fun h9 => ?_)
    · exact absurd h9 (nI_ge hi (by omega))
    · refine b_aload_n dX5_at_12 rfl ?_
      refine b_getr dX5_at_13 gf_X5_9 (shK hk) rfl ?_
      refine b_iload_n dX5_at_16 rfl ?_
      refine b_ialdN dX5_at_17 (shR hk) ⟨by omega, by decide⟩ ?_
      refine b_goto (tgt := 22) dX5_at_18 (by decide) ?_
      refine b_iret dX5_at_22 rfl ⟨?_, ?_⟩
      · rfl
      · rfl
set_option maxRecDepth 100000 in
set_option maxHeartbeats 1000000 in
theorem s_X5_faultOfTaking {w g : kW} {k : Nat} (hk : k < 4) (hS : RS1 k w g) {sort i m : Int32} : Spec shC yX5_faultOfTaking cX5_faultOfTaking 4 (some .int) 1 22 [.ref (31 + k), .int sort, .int i, .int m] w (fun r w' => r = some (.int (mAg g k sort i m)) ∧ w = w') := by
  refine k_enter pn_X5 (Nat.le_of_ble_eq_true rfl) ?_
  refine b_aload_n dX5_faultOfTaking_0 rfl ?_
  refine b_geti dX5_faultOfTaking_1 gf_X5_15 (shK hk) rfl ?_
  refine b_if_ne (tgt := 9) dX5_faultOfTaking_4 (by decide) (fun h4 => ?_) (fun h4 => ?_)
  · refine b_aload_n dX5_faultOfTaking_9 rfl ?_
    refine b_geti dX5_faultOfTaking_10 gf_X5_19 (shK hk) rfl ?_
    refine b_iload_n dX5_faultOfTaking_13 rfl ?_
    refine b_icmp_eq (tgt := 19) dX5_faultOfTaking_14 (by decide) (fun h14 => ?_) (fun h14 => ?_)
    · refine b_iload_n dX5_faultOfTaking_19 rfl ?_
      refine b_if_ge (tgt := 25) dX5_faultOfTaking_20 (by decide) (fun h20 => ?_) (fun h20 => ?_)
      · refine b_aload_n dX5_faultOfTaking_25 rfl ?_
        refine b_iload_n dX5_faultOfTaking_26 rfl ?_
        refine b_iload_n dX5_faultOfTaking_27 rfl ?_
        refine b_callV2 dX5_faultOfTaking_28 lk_X5_41 (shK hk) rfl rfl ⟨Nat.le_of_ble_eq_true rfl, Nat.le_of_ble_eq_true rfl⟩ (Nat.le_of_ble_eq_true rfl) (s_X5_holds hk) (fun r w28 h28 => ?_)
        obtain ⟨rfl, h28⟩ := h28
        rcases h28 with ⟨rfl, h28⟩ | ⟨rfl, h28⟩
        · refine b_if_eq (tgt := 38) dX5_faultOfTaking_31 (by decide) (fun h31 => absurd h31 (by decide)) (fun h31 => ?_)
          refine b_iconst (v := 0) dX5_faultOfTaking_34 (by decide) ?_
          refine b_goto (tgt := 39) dX5_faultOfTaking_35 (by decide) ?_
          refine b_iret dX5_faultOfTaking_39 rfl ⟨?_, rfl⟩
          refine congrArg (fun x => some (Value.int x)) ?_
          symm
          obtain ⟨z1, z2, z3⟩ := hS.1.resolve_left (fun z => h4 z.1)
          have n9 : ¬ g.1 1 k = -9 := fun y => by rw [y] at z2; exact absurd z2.1 (by decide)
          unfold mAg
          rw [if_neg (fun y => y.2 (z3.trans h14)), if_neg n9]
          rw [if_pos h20, if_pos ⟨h28.1, by rw [hS.2.1]; exact h28.2.1, by rw [hS.2.1]; exact h28.2.2.2⟩]
        · refine b_if_eq (tgt := 38) dX5_faultOfTaking_31 (by decide) (fun h31 => ?_) (fun h31 => absurd h31 (by decide))
          refine b_iconst (v := 3) dX5_faultOfTaking_38 (by decide) ?_
          refine b_iret dX5_faultOfTaking_39 rfl ⟨?_, rfl⟩
          refine congrArg (fun x => some (Value.int x)) ?_
          symm
          obtain ⟨z1, z2, z3⟩ := hS.1.resolve_left (fun z => h4 z.1)
          have n9 : ¬ g.1 1 k = -9 := fun y => by rw [y] at z2; exact absurd z2.1 (by decide)
          unfold mAg
          rw [if_neg (fun y => y.2 (z3.trans h14)), if_neg n9]
          rw [if_pos h20, if_neg (fun y => h28 ⟨y.1, by rw [hS.2.1] at y; exact y.2.1, Int32.not_lt.mpr h20, by rw [hS.2.1] at y; exact y.2.2⟩)]
      · refine b_iconst (v := 4) dX5_faultOfTaking_23 (by decide) ?_
        refine b_iret dX5_faultOfTaking_24 rfl ⟨?_, rfl⟩
        refine congrArg (fun x => some (Value.int x)) ?_
        symm
        obtain ⟨z1, z2, z3⟩ := hS.1.resolve_left (fun z => h4 z.1)
        have n9 : ¬ g.1 1 k = -9 := fun y => by rw [y] at z2; exact absurd z2.1 (by decide)
        unfold mAg
        rw [if_neg (fun y => y.2 (z3.trans h14)), if_neg n9]
        rw [if_neg h20]
    · refine b_iconst (v := 2) dX5_faultOfTaking_17 (by decide) ?_
      refine b_iret dX5_faultOfTaking_18 rfl ⟨?_, rfl⟩
      refine congrArg (fun x => some (Value.int x)) ?_
      symm
      obtain ⟨z1, z2, z3⟩ := hS.1.resolve_left (fun z => h4 z.1)
      have n9 : ¬ g.1 1 k = -9 := fun y => by rw [y] at z2; exact absurd z2.1 (by decide)
      unfold mAg
      rw [if_pos ⟨n9, fun y => h14 (z3.symm.trans y)⟩]
  · refine b_iconst (v := 1) dX5_faultOfTaking_7 (by decide) ?_
    refine b_iret dX5_faultOfTaking_8 rfl ⟨?_, rfl⟩
    refine congrArg (fun x => some (Value.int x)) ?_
    symm
    rcases hS.1 with z | z
    · unfold mAg; rw [if_neg (fun y => y.1 z.2), if_pos z.2]
    · exact absurd (z.1.symm.trans h4) (by decide)
set_option maxRecDepth 100000 in
set_option maxHeartbeats 1000000 in
theorem s_X5_renew {w : kW} {k : Nat} (hk : k < 4) {lane : Int32} {m : Nat} (hm : m < 51) : Spec shC yX5_renew cX5_renew 3 none 1 23 [.ref (31 + k), .int lane, .int (nI m)] w (fun r w' => r = none ∧ fillF (kset (kset (kset w (31 + k) 0 1) (31 + k) 1 lane) (31 + k) 2 (nI m)) (35 + k) 0 50 = w') := by
  refine k_enter pn_X5 (Nat.le_of_ble_eq_true rfl) ?_
  refine b_aload_n dX5_renew_0 rfl ?_
  refine b_iconst (v := 1) dX5_renew_1 (by decide) ?_
  refine b_putz dX5_renew_2 gf_X5_15 gs_X5_0 (shK hk) rfl (Or.inr rfl) ?_
  refine b_aload_n dX5_renew_5 rfl ?_
  refine b_iload_n dX5_renew_6 rfl ?_
  refine b_puti dX5_renew_7 gf_X5_19 gs_X5_1 (shK hk) rfl ?_
  refine b_aload_n dX5_renew_10 rfl ?_
  refine b_iconst (v := 0) dX5_renew_11 (by decide) ?_
  refine b_bipush (v := 50) dX5_renew_12 (by decide) ?_
  refine b_iload_n dX5_renew_14 rfl ?_
  refine b_min dX5_renew_15 lk_X5_23 (Nat.le_of_ble_eq_true rfl) (Nat.le_of_ble_eq_true rfl) ?_
  refine b_topi (y := nI m) (minmax m hm).1 ?_
  refine b_max dX5_renew_18 lk_X5_29 (Nat.le_of_ble_eq_true rfl) (Nat.le_of_ble_eq_true rfl) ?_
  refine b_topi (y := nI m) (minmax m hm).2 ?_
  refine b_puti dX5_renew_21 gf_X5_32 gs_X5_2 (shK hk) rfl ?_
  refine b_aload_n dX5_renew_24 rfl ?_
  refine b_getr dX5_renew_25 gf_X5_9 (shK hk) rfl ?_
  refine b_iconst (v := 0) dX5_renew_28 (by decide) ?_
  refine b_callS2 dX5_renew_29 lk_X5_35 ⟨Nat.le_of_ble_eq_true rfl, Nat.le_of_ble_eq_true rfl⟩ (Nat.le_of_ble_eq_true rfl) (s_fill (shR hk) (by decide)) (fun r w29 h29 => ?_)
  obtain ⟨rfl, rfl⟩ := h29
  refine b_vret dX5_renew_32 rfl ⟨rfl, ?_⟩
  rfl
