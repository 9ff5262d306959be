theorem Rel.cp {n c q k o i j m : Nat} {w g : kW} (h : Rel n c q w g) (hk : k < 4) (ho : o < 4) (hi : i + m ≤ 50) (hj : j + m ≤ 50) : Rel n c q (k_cpy w.1 (35 + k) (35 + o) i j m, w.2) (k_cpy g.1 3 3 (50 * k + i) (50 * o + j) m, g.2) := by
  have hSk := h.2.2.2.2.2.1 k hk
  have hSo := h.2.2.2.2.2.1 o ho
  have eg : ∀ a, a ≠ 3 → (k_cpy g.1 3 3 (50 * k + i) (50 * o + j) m) a = g.1 a := fun a ha => by
    funext x; simp [k_cpy, ha]
  have ew : ∀ a, a ≠ 35 + o → (k_cpy w.1 (35 + k) (35 + o) i j m) a = w.1 a := fun a ha => by
    funext x; simp [k_cpy, ha]
  refine h.sh ho (fun a _ b => ew a b) (fun a _ _ d => eg a d) (fun a ha e => ⟨congrFun (eg 1 (by decide)) a, congrFun (eg 2 (by decide)) a, fun x hx => ?_⟩) ⟨?_, ?_, fun x hx => ?_⟩ ?_
  · show k_cpy g.1 3 3 (50 * k + i) (50 * o + j) m 3 (50 * a + x) = _
    unfold k_cpy
    rw [if_pos rfl, if_neg (by omega)]
  · dsimp only
    rw [eg 1 (by decide), ew (31 + o) (by omega)]
    exact hSo.1
  · show (k_cpy g.1 3 3 (50 * k + i) (50 * o + j) m) 2 o = (k_cpy w.1 (35 + k) (35 + o) i j m) (31 + o) 2
    rw [eg 2 (by decide), ew (31 + o) (by omega)]
    exact hSo.2.1
  · show k_cpy w.1 (35 + k) (35 + o) i j m (35 + o) x = k_cpy g.1 3 3 (50 * k + i) (50 * o + j) m 3 (50 * o + x)
    unfold k_cpy
    rw [if_pos rfl, if_pos rfl]
    by_cases e : j ≤ x ∧ x < j + m
    · rw [if_pos e, if_pos (by omega), hSk.2.2 (i + (x - j)) (by omega)]
      rw [show 50 * k + (i + (x - j)) = 50 * k + i + (50 * o + x - (50 * o + j)) by omega]
    · rw [if_neg e, if_neg (by omega)]
      exact hSo.2.2 x hx
  · dsimp only
    rw [eg 1 (by decide), eg 2 (by decide)]
    exact h.1.2.2.2.2.2 o ho

set_option maxRecDepth 100000 in
set_option maxHeartbeats 1000000 in
theorem s_X7_copy {w g : kW} {n c q : Nat} (hh : Rel n c q w g) {x i y j m : Int32} : Spec shC yX7_copy cX7_copy 8 (some .int) 1 68 [.ref 0, .int x, .int i, .int y, .int j, .int m] w (fun r w' => RQ (R_copy g x i y j m) r w') := by
  obtain ⟨hM, hRP, hRI, hRA, hRR, hRS, hRN⟩ := id hh
  obtain ⟨hP, hI, hc8, hRd, hu, hS⟩ := id hM
  have hn := hP.le
  have hh0 := hh.flt (x := 0)
  refine k_enter pn_X7 (Nat.le_of_ble_eq_true rfl) ?_
  refine b_aload_n dX7_copy_0 rfl ?_
  refine b_iconst (v := 0) dX7_copy_1 (by decide) ?_
  refine b_puti dX7_copy_2 gf_X7_50 gs_X7_6 rfl rfl ?_
  refine b_wd (w' := kset w 0 6 0) rfl ?_
  refine b_aload_n dX7_copy_5 rfl ?_
  refine b_iload_n dX7_copy_6 rfl ?_
  refine b_callV1 dX7_copy_7 lk_X7_54 rfl rfl rfl ⟨Nat.le_of_ble_eq_true rfl, Nat.le_of_ble_eq_true rfl⟩ (Nat.le_of_ble_eq_true rfl) (s_X7_sheetOf) (fun r w7 h7 => ?_)
  obtain ⟨rfl, h7⟩ := h7
  rcases h7 with ⟨k, hk, rfl, rfl⟩ | ⟨hnok, rfl⟩
  · refine b_astore dX7_copy_10 (by decide) ?_
    refine b_aload_n dX7_copy_12 rfl ?_
    refine b_iload_n dX7_copy_13 rfl ?_
    refine b_callV1 dX7_copy_14 lk_X7_54 rfl rfl rfl ⟨Nat.le_of_ble_eq_true rfl, Nat.le_of_ble_eq_true rfl⟩ (Nat.le_of_ble_eq_true rfl) (s_X7_sheetOf) (fun r w14 h14 => ?_)
    obtain ⟨rfl, h14⟩ := h14
    rcases h14 with ⟨o, ho, rfl, rfl⟩ | ⟨hnoo, rfl⟩
    · refine b_astore dX7_copy_17 (by decide) ?_
      refine b_aload dX7_copy_19 rfl ?_
      refine b_ifnull dX7_copy_21 ?_
      refine b_aload dX7_copy_24 rfl ?_
      refine b_ifnonnull (tgt := 31) dX7_copy_26 (by decide) ?_
      have hSk : RS1 k (kset w 0 6 0) g := hh0.2.2.2.2.2.1 k hk
      have hSo : RS1 o (kset w 0 6 0) g := hh0.2.2.2.2.2.1 o ho
      refine b_aload dX7_copy_31 rfl ?_
      refine b_geti dX7_copy_33 gf_X7_193 (shK hk) rfl ?_
      refine b_if_eq (tgt := 47) dX7_copy_36 (by decide) (fun h36 => ?_) (fun h36 => ?_)
      · have h9 : g.1 1 k = -9 ∨ g.1 1 o = -9 := Or.inl (hSk.1.resolve_right (fun z => absurd (z.1.symm.trans h36) (by decide))).2
        refine b_aload_n dX7_copy_47 rfl ?_
        refine b_iconst (v := 1) dX7_copy_48 (by decide) ?_
        refine b_callV1 dX7_copy_49 lk_X7_66 rfl rfl rfl ⟨Nat.le_of_ble_eq_true rfl, Nat.le_of_ble_eq_true rfl⟩ (Nat.le_of_ble_eq_true rfl) (s_X7_faulted) (fun r w49 h49 => ?_)
        obtain ⟨rfl, rfl⟩ := h49
        refine b_iret dX7_copy_52 rfl ⟨?_, n, c, q, ?_⟩
        · simp only [R_copy, if_pos (show isS (nI k) ∧ isS (nI o) from ⟨sheet_in hk, sheet_in ho⟩), dn_nI (show k < 2 ^ 31 by omega), dn_nI (show o < 2 ^ 31 by omega), if_pos h9] <;> rfl
        · simp only [R_copy, if_pos (show isS (nI k) ∧ isS (nI o) from ⟨sheet_in hk, sheet_in ho⟩), dn_nI (show k < 2 ^ 31 by omega), dn_nI (show o < 2 ^ 31 by omega), if_pos h9] <;> (rw [kset_kset]; exact hh.flt)
      · refine b_aload dX7_copy_39 rfl ?_
        refine b_geti dX7_copy_41 gf_X7_193 (shK ho) rfl ?_
        refine b_if_ne (tgt := 53) dX7_copy_44 (by decide) (fun h44 => ?_) (fun h44 => ?_)
        · obtain ⟨_, hTk, hLk⟩ := hSk.1.resolve_left (fun u => h36 u.1)
          obtain ⟨_, hTo, hLo⟩ := hSo.1.resolve_left (fun u => h44 u.1)
          have n9 : ¬ (g.1 1 k = -9 ∨ g.1 1 o = -9) := fun z => z.elim (fun z => by rw [z] at hTk; exact absurd hTk.1 (by decide)) (fun z => by rw [z] at hTo; exact absurd hTo.1 (by decide))
          refine b_aload dX7_copy_53 rfl ?_
          refine b_geti dX7_copy_55 gf_X7_203 (shK hk) rfl ?_
          refine b_aload dX7_copy_58 rfl ?_
          refine b_geti dX7_copy_60 gf_X7_203 (shK ho) rfl ?_
          refine b_icmp_eq (tgt := 72) dX7_copy_63 (by decide) (fun h63 => ?_) (fun h63 => ?_)
          · have hle : g.1 1 k = g.1 1 o := hLk.trans (h63.trans hLo.symm)
            refine b_aload dX7_copy_72 rfl ?_
            refine b_iload_n dX7_copy_74 rfl ?_
            refine b_iload dX7_copy_75 rfl ?_
            refine b_callV2 dX7_copy_77 lk_X7_197 (shK hk) rfl rfl ⟨Nat.le_of_ble_eq_true rfl, Nat.le_of_ble_eq_true rfl⟩ (Nat.le_of_ble_eq_true rfl) (s_X5_holds hk) (fun r w77 h77 => ?_)
            obtain ⟨rfl, h77⟩ := h77
            rcases h77 with ⟨rfl, h77⟩ | ⟨rfl, h77⟩
            · refine b_if_eq (tgt := 95) dX7_copy_80 (by decide) (fun h80 => absurd h80 (by decide)) (fun h80 => ?_)
              refine b_aload dX7_copy_83 rfl ?_
              refine b_iload dX7_copy_85 rfl ?_
              refine b_iload dX7_copy_87 rfl ?_
              refine b_callV2 dX7_copy_89 lk_X7_197 (shK ho) rfl rfl ⟨Nat.le_of_ble_eq_true rfl, Nat.le_of_ble_eq_true rfl⟩ (Nat.le_of_ble_eq_true rfl) (s_X5_holds ho) (fun r w89 h89 => ?_)
              obtain ⟨rfl, h89⟩ := h89
              rcases h89 with ⟨rfl, h89⟩ | ⟨rfl, h89⟩
              · refine b_if_ne (tgt := 101) dX7_copy_92 (by decide) (fun h92 => ?_) (fun h92 => absurd h92 (by decide))
                have hcp : cpOk g k o i j m := ⟨h77.1, h89.1, h77.2.2.1, by rw [hSk.2.1]; exact h77.2.1, by rw [hSo.2.1]; exact h89.2.1, by rw [hSk.2.1]; exact h77.2.2.2, by rw [hSo.2.1]; exact h89.2.2.2⟩
                obtain ⟨lk, hlk5, hlk⟩ := (hS k hk).2
                obtain ⟨lo, hlo5, hlo⟩ := (hS o ho).2
                obtain ⟨q1, q2, q3, q4, q5, q6, q7⟩ := id hcp
                rw [hlk] at q4 q6
                rw [hlo] at q5 q7
                obtain ⟨ii, hii, rfl⟩ := nle_of (by omega) q1 q4
                obtain ⟨jj, hjj, rfl⟩ := nle_of (by omega) q2 q5
                rw [nI_sub hii] at q6
                rw [nI_sub hjj] at q7
                obtain ⟨mm, hmm, rfl⟩ := nle_of (l := lk - ii) (by omega) q3 q6
                have hmj : mm ≤ lo - jj := Nat.not_lt.mp (fun z => absurd q7 (nI_ge z (by omega)))
                have h1i := nI_pos (n := ii) (by omega)
                have h1j := nI_pos (n := jj) (by omega)
                have h1m := nI_pos (n := mm) (by omega)
                refine b_aload dX7_copy_101 rfl ?_
                refine b_getr dX7_copy_103 gf_X7_200 (shK hk) rfl ?_
                refine b_iload_n dX7_copy_106 rfl ?_
                refine b_aload dX7_copy_107 rfl ?_
                refine b_getr dX7_copy_109 gf_X7_200 (shK ho) rfl ?_
                refine b_iload dX7_copy_112 rfl ?_
                refine b_iload dX7_copy_114 rfl ?_
                refine b_copyi dX7_copy_116 lk_X7_209 (shR hk) (shR ho) h1i h1j h1m (by rw [nI_clamp (by omega), nI_clamp (by omega)]; omega) (by rw [nI_clamp (by omega), nI_clamp (by omega)]; omega) (Nat.le_of_ble_eq_true rfl) (Nat.le_of_ble_eq_true rfl) ?_
                refine b_wd (w' := (k_cpy (kset w 0 6 0).1 (35 + k) (35 + o) ii jj mm, (kset w 0 6 0).2)) (by rw [nI_clamp (by omega), nI_clamp (by omega), nI_clamp (by omega)]) ?_
                refine b_iload dX7_copy_119 rfl ?_
                refine b_iret dX7_copy_121 rfl ⟨?_, n, c, q, ?_⟩
                · simp only [R_copy, if_pos (show isS (nI k) ∧ isS (nI o) from ⟨sheet_in hk, sheet_in ho⟩), dn_nI (show k < 2 ^ 31 by omega), dn_nI (show o < 2 ^ 31 by omega), if_neg n9, if_pos hle, if_pos hcp, dn_nI (show ii < 2 ^ 31 by omega), dn_nI (show jj < 2 ^ 31 by omega), dn_nI (show mm < 2 ^ 31 by omega)] <;> rfl
                · simp only [R_copy, if_pos (show isS (nI k) ∧ isS (nI o) from ⟨sheet_in hk, sheet_in ho⟩), dn_nI (show k < 2 ^ 31 by omega), dn_nI (show o < 2 ^ 31 by omega), if_neg n9, if_pos hle, if_pos hcp, dn_nI (show ii < 2 ^ 31 by omega), dn_nI (show jj < 2 ^ 31 by omega), dn_nI (show mm < 2 ^ 31 by omega)] <;> exact hh0.cp hk ho (by omega) (by omega)
              · refine b_if_ne (tgt := 101) dX7_copy_92 (by decide) (fun h92 => absurd h92 (by decide)) (fun h92 => ?_)
                have hncp : ¬ cpOk g k o i j m := fun z => h89 ⟨z.2.1, by rw [← hSo.2.1]; exact z.2.2.2.2.1, z.2.2.1, by rw [← hSo.2.1]; exact z.2.2.2.2.2.2⟩
                refine b_aload_n dX7_copy_95 rfl ?_
                refine b_iconst (v := 3) dX7_copy_96 (by decide) ?_
                refine b_callV1 dX7_copy_97 lk_X7_66 rfl rfl rfl ⟨Nat.le_of_ble_eq_true rfl, Nat.le_of_ble_eq_true rfl⟩ (Nat.le_of_ble_eq_true rfl) (s_X7_faulted) (fun r w97 h97 => ?_)
                obtain ⟨rfl, rfl⟩ := h97
                refine b_iret dX7_copy_100 rfl ⟨?_, n, c, q, ?_⟩
                · simp only [R_copy, if_pos (show isS (nI k) ∧ isS (nI o) from ⟨sheet_in hk, sheet_in ho⟩), dn_nI (show k < 2 ^ 31 by omega), dn_nI (show o < 2 ^ 31 by omega), if_neg n9, if_pos hle, if_neg hncp] <;> rfl
                · simp only [R_copy, if_pos (show isS (nI k) ∧ isS (nI o) from ⟨sheet_in hk, sheet_in ho⟩), dn_nI (show k < 2 ^ 31 by omega), dn_nI (show o < 2 ^ 31 by omega), if_neg n9, if_pos hle, if_neg hncp] <;> (rw [kset_kset]; exact hh.flt)
            · refine b_if_eq (tgt := 95) dX7_copy_80 (by decide) (fun h80 => ?_) (fun h80 => absurd h80 (by decide))
              have hncp : ¬ cpOk g k o i j m := fun z => h77 ⟨z.1, by rw [← hSk.2.1]; exact z.2.2.2.1, z.2.2.1, by rw [← hSk.2.1]; exact z.2.2.2.2.2.1⟩
              refine b_aload_n dX7_copy_95 rfl ?_
              refine b_iconst (v := 3) dX7_copy_96 (by decide) ?_
              refine b_callV1 dX7_copy_97 lk_X7_66 rfl rfl rfl ⟨Nat.le_of_ble_eq_true rfl, Nat.le_of_ble_eq_true rfl⟩ (Nat.le_of_ble_eq_true rfl) (s_X7_faulted) (fun r w97 h97 => ?_)
              obtain ⟨rfl, rfl⟩ := h97
              refine b_iret dX7_copy_100 rfl ⟨?_, n, c, q, ?_⟩
              · simp only [R_copy, if_pos (show isS (nI k) ∧ isS (nI o) from ⟨sheet_in hk, sheet_in ho⟩), dn_nI (show k < 2 ^ 31 by omega), dn_nI (show o < 2 ^ 31 by omega), if_neg n9, if_pos hle, if_neg hncp] <;> rfl
              · simp only [R_copy, if_pos (show isS (nI k) ∧ isS (nI o) from ⟨sheet_in hk, sheet_in ho⟩), dn_nI (show k < 2 ^ 31 by omega), dn_nI (show o < 2 ^ 31 by omega), if_neg n9, if_pos hle, if_neg hncp] <;> (rw [kset_kset]; exact hh.flt)
          · have hln : ¬ g.1 1 k = g.1 1 o := fun z => h63 (hLk.symm.trans (z.trans hLo))
            refine b_aload_n dX7_copy_66 rfl ?_
            refine b_iconst (v := 2) dX7_copy_67 (by decide) ?_
            refine b_callV1 dX7_copy_68 lk_X7_66 rfl rfl rfl ⟨Nat.le_of_ble_eq_true rfl, Nat.le_of_ble_eq_true rfl⟩ (Nat.le_of_ble_eq_true rfl) (s_X7_faulted) (fun r w68 h68 => ?_)
            obtain ⟨rfl, rfl⟩ := h68
            refine b_iret dX7_copy_71 rfl ⟨?_, n, c, q, ?_⟩
            · simp only [R_copy, if_pos (show isS (nI k) ∧ isS (nI o) from ⟨sheet_in hk, sheet_in ho⟩), dn_nI (show k < 2 ^ 31 by omega), dn_nI (show o < 2 ^ 31 by omega), if_neg n9, if_neg hln] <;> rfl
            · simp only [R_copy, if_pos (show isS (nI k) ∧ isS (nI o) from ⟨sheet_in hk, sheet_in ho⟩), dn_nI (show k < 2 ^ 31 by omega), dn_nI (show o < 2 ^ 31 by omega), if_neg n9, if_neg hln] <;> (rw [kset_kset]; exact hh.flt)
        · have h9 : g.1 1 k = -9 ∨ g.1 1 o = -9 := Or.inr (hSo.1.resolve_right (fun z => absurd (z.1.symm.trans h44) (by decide))).2
          refine b_aload_n dX7_copy_47 rfl ?_
          refine b_iconst (v := 1) dX7_copy_48 (by decide) ?_
          refine b_callV1 dX7_copy_49 lk_X7_66 rfl rfl rfl ⟨Nat.le_of_ble_eq_true rfl, Nat.le_of_ble_eq_true rfl⟩ (Nat.le_of_ble_eq_true rfl) (s_X7_faulted) (fun r w49 h49 => ?_)
          obtain ⟨rfl, rfl⟩ := h49
          refine b_iret dX7_copy_52 rfl ⟨?_, n, c, q, ?_⟩
          · simp only [R_copy, if_pos (show isS (nI k) ∧ isS (nI o) from ⟨sheet_in hk, sheet_in ho⟩), dn_nI (show k < 2 ^ 31 by omega), dn_nI (show o < 2 ^ 31 by omega), if_pos h9] <;> rfl
          · simp only [R_copy, if_pos (show isS (nI k) ∧ isS (nI o) from ⟨sheet_in hk, sheet_in ho⟩), dn_nI (show k < 2 ^ 31 by omega), dn_nI (show o < 2 ^ 31 by omega), if_pos h9] <;> (rw [kset_kset]; exact hh.flt)
    · refine b_astoreN dX7_copy_17 (by decide) ?_
      refine b_aload dX7_copy_19 rfl ?_
      refine b_ifnull dX7_copy_21 ?_
      refine b_aloadN dX7_copy_24 rfl ?_
      refine b_ifnonnullN dX7_copy_26 ?_
      refine b_iconst (v := (-1)) dX7_copy_29 (by decide) ?_
      refine b_iret dX7_copy_30 rfl ⟨?_, n, c, q, ?_⟩
      · simp only [R_copy, if_neg (show ¬ (isS _ ∧ isS _) from fun z => hnoo z.2)] <;> rfl
      · simp only [R_copy, if_neg (show ¬ (isS _ ∧ isS _) from fun z => hnoo z.2)] <;> exact hh0
  · refine b_astoreN dX7_copy_10 (by decide) ?_
    refine b_aload_n dX7_copy_12 rfl ?_
    refine b_iload_n dX7_copy_13 rfl ?_
    refine b_callV1 dX7_copy_14 lk_X7_54 rfl rfl rfl ⟨Nat.le_of_ble_eq_true rfl, Nat.le_of_ble_eq_true rfl⟩ (Nat.le_of_ble_eq_true rfl) (s_X7_sheetOf) (fun r w14 h14 => ?_)
    obtain ⟨rfl, h14⟩ := h14
    rcases h14 with ⟨o, ho, rfl, rfl⟩ | ⟨hnoo, rfl⟩
    · refine b_astore dX7_copy_17 (by decide) ?_
      refine b_aloadN dX7_copy_19 rfl ?_
      refine b_ifnullN (tgt := 29) dX7_copy_21 (by decide) ?_
      refine b_iconst (v := (-1)) dX7_copy_29 (by decide) ?_
      refine b_iret dX7_copy_30 rfl ⟨?_, n, c, q, ?_⟩
      · simp only [R_copy, if_neg (show ¬ (isS _ ∧ isS _) from fun z => hnok z.1)] <;> rfl
      · simp only [R_copy, if_neg (show ¬ (isS _ ∧ isS _) from fun z => hnok z.1)] <;> exact hh0
    · refine b_astoreN dX7_copy_17 (by decide) ?_
      refine b_aloadN dX7_copy_19 rfl ?_
      refine b_ifnullN (tgt := 29) dX7_copy_21 (by decide) ?_
      refine b_iconst (v := (-1)) dX7_copy_29 (by decide) ?_
      refine b_iret dX7_copy_30 rfl ⟨?_, n, c, q, ?_⟩
      · simp only [R_copy, if_neg (show ¬ (isS _ ∧ isS _) from fun z => hnok z.1)] <;> rfl
      · simp only [R_copy, if_neg (show ¬ (isS _ ∧ isS _) from fun z => hnok z.1)] <;> exact hh0
