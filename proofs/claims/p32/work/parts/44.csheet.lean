theorem isT_or {s : Int32} (h : isT s) : s = 0 ∨ s = 1 ∨ s = 2 := by
  obtain ⟨x, hx, rfl⟩ := nI_of2 (n := 2) (M := 2) (by decide) (Int32.not_lt.mpr h.1) h.2
  rcases (show x = 0 ∨ x = 1 ∨ x = 2 by omega) with rfl | rfl | rfl
  · exact Or.inl rfl
  · exact Or.inr (Or.inl rfl)
  · exact Or.inr (Or.inr rfl)
theorem Rel.ren {n c q k m : Nat} {w g : kW} {sort : Int32} (h : Rel n c q w g) (hk : k < 4) (hs : isT sort) (hm : m < 51) : Rel n c q (fillF (kset (kset (kset w (31 + k) 0 1) (31 + k) 1 sort) (31 + k) 2 (nI m)) (35 + k) 0 50) (zeroC (kset (kset g 1 k sort) 2 k (nI m)) k 50) := by
  have e1 : (zeroC (kset (kset g 1 k sort) 2 k (nI m)) k 50).1 1 k = sort := by
    rw [zeroC_row (by decide), kset_ne _ _ (Or.inl (by decide)), kset_eq]
  have e2 : (zeroC (kset (kset g 1 k sort) 2 k (nI m)) k 50).1 2 k = nI m := by
    rw [zeroC_row (by decide), kset_eq]
  refine h.sh hk (fun j a b => ?_) (fun j a b d => ?_) (fun j hj e => ⟨?_, ?_, fun x hx => ?_⟩) ⟨Or.inr ⟨?_, ?_, ?_⟩, ?_, fun x hx => ?_⟩ ⟨?_, ?_⟩
  · rw [fillF_row b, kset_row _ _ _ _ a, kset_row _ _ _ _ a, kset_row _ _ _ _ a]
  · rw [zeroC_row d, kset_row _ _ _ _ b, kset_row _ _ _ _ a]
  · rw [zeroC_row (by decide), kset_ne _ _ (Or.inl (by decide)), kset_ne _ _ (Or.inr e)]
  · rw [zeroC_row (by decide), kset_ne _ _ (Or.inr e), kset_ne _ _ (Or.inl (by decide))]
  · rw [zeroC_out 50 (by omega), kset_ne _ _ (Or.inl (by decide)), kset_ne _ _ (Or.inl (by decide))]
  · rw [fillF_row (by omega), kset_ne _ _ (Or.inr (by decide)), kset_ne _ _ (Or.inr (by decide)), kset_eq]
  · rw [e1]; exact hs
  · rw [e1, fillF_row (by omega), kset_ne _ _ (Or.inr (by decide)), kset_eq]
  · rw [e2, fillF_row (by omega), kset_eq]
  · rw [fillF_in 50 x hx, zeroC_in 50 hx]
  · rw [e1]; exact Or.inr (isT_or hs)
  · exact ⟨m, by omega, e2⟩
theorem Rel.pt {n c q k i : Nat} {w g : kW} {v : Int32} (h : Rel n c q w g) (hk : k < 4) (hi : i < 50) : Rel n c q (kset w (35 + k) i v) (kset g 3 (50 * k + i) v) := by
  have hS := h.2.2.2.2.2.1 k hk
  refine h.sh hk (fun j a b => kset_row _ _ _ _ b) (fun j a b d => kset_row _ _ _ _ d) (fun j hj e => ⟨rfl, rfl, fun x hx => kset_ne _ _ (Or.inr (by omega))⟩) ⟨?_, ?_, fun x hx => ?_⟩ (h.1.2.2.2.2.2 k hk)
  · rw [kset_row _ _ _ _ (by omega), kset_row _ _ _ _ (by decide)]; exact hS.1
  · show g.1 2 k = _
    rw [kset_row _ _ _ _ (by omega)]; exact hS.2.1
  · rw [kset_1, kset_1, if_pos rfl, if_pos rfl]
    by_cases e : x = i
    · subst e; rw [if_pos rfl, if_pos rfl]
    · rw [if_neg e, if_neg (by omega)]; exact hS.2.2 x hx
theorem hold1 {l : Nat} (hl : l ≤ 50) {i : Int32} : (¬ i < 0 ∧ i ≤ nI l ∧ ¬ (1 : Int32) < 0 ∧ 1 ≤ nI l - i) ↔ (0 ≤ i ∧ i ≤ nI l - 1) := by
  constructor
  · rintro ⟨a, b, _, d⟩
    obtain ⟨j, hj, rfl⟩ := nle_of (by omega) a b
    rw [nI_sub hj] at d
    have : 1 ≤ l - j := by
      rcases Nat.lt_or_ge (l - j) 1 with z | z
      · rw [show l - j = 0 by omega] at d; exact absurd d (by decide)
      · exact z
    refine ⟨nI_pos' (by omega), ?_⟩
    rw [show nI l - 1 = nI (l - 1) from nI_sub (b := 1) (by omega)]
    exact nI_le (by omega) (by omega)
  · intro h
    obtain ⟨j, hj, rfl⟩ := idx_of hl h
    refine ⟨nI_pos (by omega), nI_le (by omega) (by omega), by decide, ?_⟩
    rw [nI_sub (by omega)]
    exact nI_le (a := 1) (by omega) (by omega)
set_option maxRecDepth 100000 in
set_option maxHeartbeats 1000000 in
theorem s_X7_sheet {w g : kW} {n c q : Nat} (hh : Rel n c q w g) {x sort m : Int32} : Spec shC yX7_sheet cX7_sheet 5 (some .int) 2 45 [.ref 0, .int x, .int sort, .int m] w (fun r w' => RQ (R_sheet g x sort m) r w') := by
  obtain ⟨hM, hRP, hRI, hRA, hRR, hRS, hRN⟩ := id hh
  obtain ⟨hP, hI, hc8, hRd, hu, hS⟩ := id hM
  have hn := hP.le
  have hh0 := hh.flt (x := 0)
  refine k_enter pn_X7 (Nat.le_of_ble_eq_true rfl) ?_
  refine b_aload_n dX7_sheet_0 rfl ?_
  refine b_iconst (v := 0) dX7_sheet_1 (by decide) ?_
  refine b_puti dX7_sheet_2 gf_X7_50 gs_X7_6 rfl rfl ?_
  refine b_wd (w' := kset w 0 6 0) rfl ?_
  refine b_aload_n dX7_sheet_5 rfl ?_
  refine b_iload_n dX7_sheet_6 rfl ?_
  refine b_callV1 dX7_sheet_7 lk_X7_54 rfl rfl rfl ⟨Nat.le_of_ble_eq_true rfl, Nat.le_of_ble_eq_true rfl⟩ (Nat.le_of_ble_eq_true rfl) (s_X7_sheetOf) (fun r w7 h7 => ?_)
  obtain ⟨rfl, h7⟩ := h7
  rcases h7 with ⟨k, hk, rfl, rfl⟩ | ⟨hnok, rfl⟩
  · refine b_astore dX7_sheet_10 (by decide) ?_
    refine b_aload dX7_sheet_12 rfl ?_
    refine b_ifnonnull (tgt := 19) dX7_sheet_14 (by decide) ?_
    refine b_iload_n dX7_sheet_19 rfl ?_
    refine b_callS1 dX7_sheet_20 lk_X7_58 ⟨Nat.le_of_ble_eq_true rfl, Nat.le_of_ble_eq_true rfl⟩ (Nat.le_of_ble_eq_true rfl) (s_X7_isLane) (fun r w20 h20 => ?_)
    obtain ⟨rfl, h20⟩ := h20
    rcases h20 with ⟨rfl, h20⟩ | ⟨rfl, h20⟩
    · refine b_if_eq (tgt := 32) dX7_sheet_23 (by decide) (fun h23 => absurd h23 (by decide)) (fun h23 => ?_)
      refine b_iload_n dX7_sheet_26 rfl ?_
      refine b_bipush (v := 50) dX7_sheet_27 (by decide) ?_
      refine b_icmp_le (tgt := 35) dX7_sheet_29 (by decide) (fun h29 => ?_) (fun h29 => ?_)
      · refine b_iload_n dX7_sheet_35 rfl ?_
        refine b_if_ge (tgt := 45) dX7_sheet_36 (by decide) (fun h36 => ?_) (fun h36 => ?_)
        · have hsm : isT sort ∧ m ≤ 50 := ⟨h20, h29⟩
          have hm0 : 0 ≤ m := h36
          obtain ⟨mm, hmm, rfl⟩ := nle_of (l := 50) (by decide) (Int32.not_lt.mpr h36) h29
          have hm51 : mm < 51 := by omega
          refine b_aload dX7_sheet_45 rfl ?_
          refine b_iload_n dX7_sheet_47 rfl ?_
          refine b_iload_n dX7_sheet_48 rfl ?_
          refine b_callV2 dX7_sheet_49 lk_X7_190 (shK hk) rfl rfl ⟨Nat.le_of_ble_eq_true rfl, Nat.le_of_ble_eq_true rfl⟩ (Nat.le_of_ble_eq_true rfl) (s_X5_renew hk hm51) (fun r w49 h49 => ?_)
          obtain ⟨rfl, rfl⟩ := h49
          refine b_iconst (v := 1) dX7_sheet_52 (by decide) ?_
          refine b_iret dX7_sheet_53 rfl ⟨?_, n, c, q, ?_⟩
          · simp only [R_sheet, if_pos (sheet_in hk), dn_nI (show k < 2 ^ 31 by omega), if_pos hsm, if_pos hm0] <;> rfl
          · simp only [R_sheet, if_pos (sheet_in hk), dn_nI (show k < 2 ^ 31 by omega), if_pos hsm, if_pos hm0] <;> exact hh0.ren hk h20 hm51
        · refine b_aload_n dX7_sheet_39 rfl ?_
          refine b_iconst (v := 4) dX7_sheet_40 (by decide) ?_
          refine b_callV1 dX7_sheet_41 lk_X7_66 rfl rfl rfl ⟨Nat.le_of_ble_eq_true rfl, Nat.le_of_ble_eq_true rfl⟩ (Nat.le_of_ble_eq_true rfl) (s_X7_faulted) (fun r w41 h41 => ?_)
          obtain ⟨rfl, rfl⟩ := h41
          refine b_iret dX7_sheet_44 rfl ⟨?_, n, c, q, ?_⟩
          · simp only [R_sheet, if_pos (sheet_in hk), dn_nI (show k < 2 ^ 31 by omega), if_pos (show isT sort ∧ m ≤ 50 from ⟨h20, h29⟩), if_neg h36] <;> rfl
          · simp only [R_sheet, if_pos (sheet_in hk), dn_nI (show k < 2 ^ 31 by omega), if_pos (show isT sort ∧ m ≤ 50 from ⟨h20, h29⟩), if_neg h36] <;> (rw [kset_kset]; exact hh.flt)
      · refine b_bipush (v := (-2)) dX7_sheet_32 (by decide) ?_
        refine b_iret dX7_sheet_34 rfl ⟨?_, n, c, q, ?_⟩
        · simp only [R_sheet, if_pos (sheet_in hk), dn_nI (show k < 2 ^ 31 by omega), if_neg (show ¬ (isT sort ∧ m ≤ 50) from fun z => h29 z.2)] <;> rfl
        · simp only [R_sheet, if_pos (sheet_in hk), dn_nI (show k < 2 ^ 31 by omega), if_neg (show ¬ (isT sort ∧ m ≤ 50) from fun z => h29 z.2)] <;> exact hh0
    · refine b_if_eq (tgt := 32) dX7_sheet_23 (by decide) (fun h23 => ?_) (fun h23 => absurd h23 (by decide))
      refine b_bipush (v := (-2)) dX7_sheet_32 (by decide) ?_
      refine b_iret dX7_sheet_34 rfl ⟨?_, n, c, q, ?_⟩
      · simp only [R_sheet, if_pos (sheet_in hk), dn_nI (show k < 2 ^ 31 by omega), if_neg (show ¬ (isT sort ∧ m ≤ 50) from fun z => h20 z.1)] <;> rfl
      · simp only [R_sheet, if_pos (sheet_in hk), dn_nI (show k < 2 ^ 31 by omega), if_neg (show ¬ (isT sort ∧ m ≤ 50) from fun z => h20 z.1)] <;> exact hh0
  · refine b_astoreN dX7_sheet_10 (by decide) ?_
    refine b_aloadN dX7_sheet_12 rfl ?_
    refine b_ifnonnullN dX7_sheet_14 ?_
    refine b_iconst (v := (-1)) dX7_sheet_17 (by decide) ?_
    refine b_iret dX7_sheet_18 rfl ⟨?_, n, c, q, ?_⟩
    · simp only [R_sheet, if_neg hnok] <;> rfl
    · simp only [R_sheet, if_neg hnok] <;> exact hh0
set_option maxRecDepth 100000 in
set_option maxHeartbeats 1000000 in
theorem s_X7_put {w g : kW} {n c q : Nat} (hh : Rel n c q w g) {x i v : Int32} : Spec shC yX7_put cX7_put 5 (some .int) 1 22 [.ref 0, .int x, .int i, .int v] w (fun r w' => RQ (R_put g x i v) r w') := by
  obtain ⟨hM, hRP, hRI, hRA, hRR, hRS, hRN⟩ := id hh
  obtain ⟨hP, hI, hc8, hRd, hu, hS⟩ := id hM
  have hn := hP.le
  have hh0 := hh.flt (x := 0)
  refine k_enter pn_X7 (Nat.le_of_ble_eq_true rfl) ?_
  refine b_aload_n dX7_put_0 rfl ?_
  refine b_iconst (v := 0) dX7_put_1 (by decide) ?_
  refine b_puti dX7_put_2 gf_X7_50 gs_X7_6 rfl rfl ?_
  refine b_wd (w' := kset w 0 6 0) rfl ?_
  refine b_aload_n dX7_put_5 rfl ?_
  refine b_iload_n dX7_put_6 rfl ?_
  refine b_callV1 dX7_put_7 lk_X7_54 rfl rfl rfl ⟨Nat.le_of_ble_eq_true rfl, Nat.le_of_ble_eq_true rfl⟩ (Nat.le_of_ble_eq_true rfl) (s_X7_sheetOf) (fun r w7 h7 => ?_)
  obtain ⟨rfl, h7⟩ := h7
  rcases h7 with ⟨k, hk, rfl, rfl⟩ | ⟨hnok, rfl⟩
  · refine b_astore dX7_put_10 (by decide) ?_
    refine b_aload dX7_put_12 rfl ?_
    refine b_ifnonnull (tgt := 19) dX7_put_14 (by decide) ?_
    obtain ⟨hS1, hS2, hS3⟩ : RS1 k (kset w 0 6 0) g := hh0.2.2.2.2.2.1 k hk
    obtain ⟨l, hl5, hl⟩ := (hS k hk).2
    refine b_aload dX7_put_19 rfl ?_
    refine b_geti dX7_put_21 gf_X7_193 (shK hk) rfl ?_
    refine b_if_ne (tgt := 33) dX7_put_24 (by decide) (fun h24 => ?_) (fun h24 => ?_)
    · obtain ⟨_, hT, hLn⟩ := hS1.resolve_left (fun u => h24 u.1)
      have n9 : ¬ g.1 1 k = -9 := fun z => by rw [z] at hT; exact absurd hT.1 (by decide)
      have eL : (kset w 0 6 0).1 (31 + k) 2 = nI l := hS2.symm.trans hl
      refine b_aload dX7_put_33 rfl ?_
      refine b_iload_n dX7_put_35 rfl ?_
      refine b_iconst (v := 1) dX7_put_36 (by decide) ?_
      refine b_callV2 dX7_put_37 lk_X7_197 (shK hk) rfl rfl ⟨Nat.le_of_ble_eq_true rfl, Nat.le_of_ble_eq_true rfl⟩ (Nat.le_of_ble_eq_true rfl) (s_X5_holds hk) (fun r w37 h37 => ?_)
      obtain ⟨rfl, h37⟩ := h37
      rcases h37 with ⟨rfl, h37⟩ | ⟨rfl, h37⟩
      · refine b_if_ne (tgt := 49) dX7_put_40 (by decide) (fun h40 => ?_) (fun h40 => absurd h40 (by decide))
        have hin : 0 ≤ i ∧ i ≤ g.1 2 k - 1 := by rw [eL] at h37; rw [hl]; exact (hold1 hl5).mp h37
        obtain ⟨ii, hii, rfl⟩ := idx_of hl5 (by rw [hl] at hin; exact hin)
        refine b_aload dX7_put_49 rfl ?_
        refine b_getr dX7_put_51 gf_X7_200 (shK hk) rfl ?_
        refine b_iload_n dX7_put_54 rfl ?_
        refine b_iload_n dX7_put_55 rfl ?_
        refine b_aload dX7_put_56 rfl ?_
        refine b_geti dX7_put_58 gf_X7_203 (shK hk) rfl ?_
        refine b_topi (y := g.1 1 k) hLn.symm ?_
        refine b_callS2 dX7_put_61 lk_X7_206 ⟨Nat.le_of_ble_eq_true rfl, Nat.le_of_ble_eq_true rfl⟩ (Nat.le_of_ble_eq_true rfl) (s_X7_cut hT) (fun r w61 h61 => ?_)
        obtain ⟨rfl, rfl⟩ := h61
        refine b_iastN dX7_put_64 (shR hk) ⟨by omega, by decide⟩ ?_
        refine b_iconst (v := 1) dX7_put_65 (by decide) ?_
        refine b_iret dX7_put_66 rfl ⟨?_, n, c, q, ?_⟩
        · simp only [R_put, if_pos (sheet_in hk), dn_nI (show k < 2 ^ 31 by omega), if_neg n9, if_pos hin, dn_nI (show ii < 2 ^ 31 by omega)] <;> rfl
        · simp only [R_put, if_pos (sheet_in hk), dn_nI (show k < 2 ^ 31 by omega), if_neg n9, if_pos hin, dn_nI (show ii < 2 ^ 31 by omega)] <;> exact hh0.pt hk (by omega)
      · refine b_if_ne (tgt := 49) dX7_put_40 (by decide) (fun h40 => absurd h40 (by decide)) (fun h40 => ?_)
        have hni : ¬ (0 ≤ i ∧ i ≤ g.1 2 k - 1) := fun z => h37 (by rw [eL]; rw [hl] at z; exact (hold1 hl5).mpr z)
        refine b_aload_n dX7_put_43 rfl ?_
        refine b_iconst (v := 3) dX7_put_44 (by decide) ?_
        refine b_callV1 dX7_put_45 lk_X7_66 rfl rfl rfl ⟨Nat.le_of_ble_eq_true rfl, Nat.le_of_ble_eq_true rfl⟩ (Nat.le_of_ble_eq_true rfl) (s_X7_faulted) (fun r w45 h45 => ?_)
        obtain ⟨rfl, rfl⟩ := h45
        refine b_iret dX7_put_48 rfl ⟨?_, n, c, q, ?_⟩
        · simp only [R_put, if_pos (sheet_in hk), dn_nI (show k < 2 ^ 31 by omega), if_neg n9, if_neg hni] <;> rfl
        · simp only [R_put, if_pos (sheet_in hk), dn_nI (show k < 2 ^ 31 by omega), if_neg n9, if_neg hni] <;> (rw [kset_kset]; exact hh.flt)
    · have g9 : g.1 1 k = -9 := (hS1.resolve_right (fun z => absurd (z.1.symm.trans h24) (by decide))).2
      refine b_aload_n dX7_put_27 rfl ?_
      refine b_iconst (v := 1) dX7_put_28 (by decide) ?_
      refine b_callV1 dX7_put_29 lk_X7_66 rfl rfl rfl ⟨Nat.le_of_ble_eq_true rfl, Nat.le_of_ble_eq_true rfl⟩ (Nat.le_of_ble_eq_true rfl) (s_X7_faulted) (fun r w29 h29 => ?_)
      obtain ⟨rfl, rfl⟩ := h29
      refine b_iret dX7_put_32 rfl ⟨?_, n, c, q, ?_⟩
      · simp only [R_put, if_pos (sheet_in hk), dn_nI (show k < 2 ^ 31 by omega), if_pos g9] <;> rfl
      · simp only [R_put, if_pos (sheet_in hk), dn_nI (show k < 2 ^ 31 by omega), if_pos g9] <;> (rw [kset_kset]; exact hh.flt)
  · refine b_astoreN dX7_put_10 (by decide) ?_
    refine b_aloadN dX7_put_12 rfl ?_
    refine b_ifnonnullN dX7_put_14 ?_
    refine b_iconst (v := (-1)) dX7_put_17 (by decide) ?_
    refine b_iret dX7_put_18 rfl ⟨?_, n, c, q, ?_⟩
    · simp only [R_put, if_neg hnok] <;> rfl
    · simp only [R_put, if_neg hnok] <;> exact hh0
