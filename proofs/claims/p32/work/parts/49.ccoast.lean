def CoC (f : Nat → Int32) (nn : Nat) (w w' : kW) : Prop := ∃ u, CoR f nn nn w u ∧ kset (kset u 6 0 0) 11 0 0 = w'
def CCo (w g : kW) (k sort i m : Int32) (r : Option Value) (w' : kW) : Prop :=
  (¬ isS k ∧ r = some (.int (-1)) ∧ cK2 (kset w 0 6 0) w') ∨ (isS k ∧ ¬ isT sort ∧ r = some (.int (-2)) ∧ cK2 (kset w 0 6 0) w') ∨
  (isS k ∧ isT sort ∧ ¬ mAg g (dn k) sort i m = 0 ∧ r = some (.int (-10 - mAg g (dn k) sort i m)) ∧ cK2 (kset w 0 6 (mAg g (dn k) sort i m)) w') ∨
  (isS k ∧ isT sort ∧ mAg g (dn k) sort i m = 0 ∧ ((∃ t, FF (txt g k i) (dn m) t ∧ r = some (.int (-100 - nI t)) ∧ cK2 (kset w 0 6 0) w') ∨ (∃ nn, OKT (txt g k i) (dn m) nn ∧ r = some (.int (nI nn)) ∧ CoC (txt g k i) nn (kset w 0 6 0) w')))
theorem Rel.mkc {n c q : Nat} {w g g' : kW} (h : Rel n c q w g) (hk : mKc g g') : Rel n c q w g' := by
  obtain ⟨⟨g1, g2, g3, g4, g5, g6⟩, ⟨h2, h3, h4⟩, ⟨h5, h6⟩, h7, ⟨h8, h9⟩, h10, h11, h12⟩ := h
  obtain ⟨e, e0⟩ := hk
  have hP : Pn n g' := by
    unfold Pn fr at *
    rw [e0 5 (by decide) (by decide), e 4 (by decide) (by decide) (by decide) (by decide), e 5 (by decide) (by decide) (by decide) (by decide), e 6 (by decide) (by decide) (by decide) (by decide), e 7 (by decide) (by decide) (by decide) (by decide)]; exact g1
  refine ⟨⟨hP, ?_, g3, ?_, by rw [e0 20 (by decide) (by decide)]; exact g5, ?_⟩, ⟨hP, h3, ?_⟩, ⟨h5, ?_⟩, ?_, ⟨h8, ?_⟩, ?_, ?_, ?_⟩
  · unfold Ins at *
    rw [e0 15 (by decide) (by decide), e 11 (by decide) (by decide) (by decide) (by decide), e 12 (by decide) (by decide) (by decide) (by decide), e 13 (by decide) (by decide) (by decide) (by decide), e 14 (by decide) (by decide) (by decide) (by decide)]; exact g2
  · unfold Rd at *
    rw [e0 35 (by decide) (by decide), e 26 (by decide) (by decide) (by decide) (by decide), e 27 (by decide) (by decide) (by decide) (by decide), e 28 (by decide) (by decide) (by decide) (by decide)]; exact g4
  · unfold Shv at *
    rw [e 1 (by decide) (by decide) (by decide) (by decide), e 2 (by decide) (by decide) (by decide) (by decide)]; exact g6
  · intro p hp; rw [e 4 (by decide) (by decide) (by decide) (by decide), e 5 (by decide) (by decide) (by decide) (by decide), e 6 (by decide) (by decide) (by decide) (by decide)]; exact h4 p hp
  · intro k hk2; rw [e 11 (by decide) (by decide) (by decide) (by decide), e 12 (by decide) (by decide) (by decide) (by decide), e 13 (by decide) (by decide) (by decide) (by decide), e 14 (by decide) (by decide) (by decide) (by decide)]; exact h6 k hk2
  · intro p hp; rw [e 7 (by decide) (by decide) (by decide) (by decide)]; exact h7 p hp
  · intro k hk; rw [e 26 (by decide) (by decide) (by decide) (by decide), e 27 (by decide) (by decide) (by decide) (by decide), e 28 (by decide) (by decide) (by decide) (by decide)]; exact h9 k hk
  · intro k hk
    unfold RS1
    rw [e 1 (by decide) (by decide) (by decide) (by decide), e 2 (by decide) (by decide) (by decide) (by decide), e 3 (by decide) (by decide) (by decide) (by decide)]
    exact h10 k hk
  · rw [e0 1 (by decide) (by decide)]; exact h11
  · rw [e0 0 (by decide) (by decide)]; exact h12
theorem coast_ok {n c q nn : Nat} {w g w' g' : kW} {f : Nat → Int32} (h : Rel n c q w g) (hn2 : nn ≤ 6) (hc : CoC f nn (kset w 0 6 0) w') (hm : CoOK f nn g g') : Rel nn 0 0 w' g' := by
  obtain ⟨u, ⟨u1, u2, u3, u4⟩, rfl⟩ := hc
  obtain ⟨m1, m2, m3, m4, m5, m6, m7, m8, m9, m10⟩ := hm
  obtain ⟨⟨g1, g2, g3, g4, g5, g6⟩, ⟨h2, h3, h4⟩, ⟨h5, h6⟩, h7, ⟨h8, h9⟩, h10, h11, h12⟩ := h
  have kc : ∀ {x : Int32} {k : Nat}, kcode x k → k ≤ 2 := fun z => by rcases z with ⟨_, rfl⟩ | ⟨_, rfl⟩ | ⟨_, rfl⟩ <;> omega
  have hfr : ∀ p, p < nn → ∃ a b, a < nn ∧ b < nn ∧ g'.1 6 (2 * p) = nI a ∧ g'.1 6 (2 * p + 1) = nI b := fun p hp => by
    obtain ⟨k, hh, a, b, t, z1, z2, z3, z4, z5⟩ := m10 p hp
    exact ⟨a, b, t.2.2.1.1, t.2.2.2.1, z3, z4⟩
  have hP : Pn nn g' := by
    refine ⟨m1, hn2, fun p hp => ?_, fun k hk => ?_, fun p hp => ?_, fun p hp => ?_⟩
    · obtain ⟨k, hh, a, b, t, z1, z2, z3, z4, z5⟩ := m10 p hp
      exact ⟨hh, t.2.1.1, t.2.1.2.1, z2⟩
    · obtain ⟨a, b, ha, hb, e1, e2⟩ := hfr (k / 2) (by omega)
      unfold fr
      rcases (show k = 2 * (k / 2) ∨ k = 2 * (k / 2) + 1 by omega) with e | e
      · rw [e, e1, nI_clamp (by omega)]; exact ⟨ha, rfl⟩
      · rw [e, e2, nI_clamp (by omega)]; exact ⟨hb, rfl⟩
    · obtain ⟨k, hh, a, b, t, z1, z2, z3, z4, z5⟩ := m10 p hp
      exact Or.inl z5
    · obtain ⟨k, hh, a, b, t, z1, z2, z3, z4, z5⟩ := m10 p hp
      exact ⟨k, kc t.1, z1⟩
  have ew : ∀ j, (j < 1 ∨ 5 < j) → j ≠ 6 → j ≠ 11 → (kset (kset u 6 0 0) 11 0 0).1 j = (kset w 0 6 0).1 j := fun j a b d => by
    rw [kset_row _ _ _ _ d, kset_row _ _ _ _ b]; exact u3 j a
  refine ⟨⟨hP, ⟨m2, by omega, fun k hk => absurd hk (Nat.not_lt_zero _)⟩, by omega, ⟨m3, by omega, fun k hk => absurd hk (Nat.not_lt_zero _)⟩, by rw [m6]; exact g5, ?_⟩, ⟨hP, u1, fun p hp => ?_⟩, ⟨rfl, fun k hk => absurd hk (Nat.not_lt_zero _)⟩, fun p hp => ?_, ⟨rfl, fun k hk => absurd hk (Nat.not_lt_zero _)⟩, fun k hk => ?_, ?_, ?_⟩
  · unfold Shv at *; rw [m7, m8]; exact g6
  · obtain ⟨k, hh, a, b, t, z1, z2, z3, z4, z5⟩ := m10 p hp
    obtain ⟨k', hh', a', b', t', y1, y2, y3, y4⟩ := u4 p hp
    obtain ⟨rfl, rfl, rfl, rfl⟩ := TP_inj hn2 t t'
    exact ⟨y1.trans z1.symm, y2.trans z2.symm, y3.trans z3.symm, y4.trans z4.symm⟩
  · obtain ⟨k, hh, a, b, t, z1, z2, z3, z4, z5⟩ := m10 p hp
    show bt (u.1 1 1) p = false ↔ _
    rw [u2, z5, b_0]; simp
  · refine (h10 k hk).of ?_ ?_ (by rw [m7]) (by rw [m8]) (fun x _ => by rw [m9])
    · rw [ew _ (by omega) (by omega) (by omega), kset_row _ _ _ _ (by omega)]
    · rw [ew _ (by omega) (by omega) (by omega), kset_row _ _ _ _ (by omega)]
  · rw [ew 0 (by decide) (by decide) (by decide), m5]; exact h11
  · rw [ew 0 (by decide) (by decide) (by decide), m4]; rfl
theorem coast_pair {n c q : Nat} {w g w' g' : kW} {x sort i m : Int32} {r r' : Option Value} (h : Rel n c q w g) (hc : CCo w g x sort i m r w') (hm : PCo g x sort i m r' g') : r = r' ∧ ∃ n c q, Rel n c q w' g' := by
  have h0 : ∀ y, Rel n c q (kset w 0 6 y) (kset g 0 0 y) := fun y => h.flt
  rcases hc with ⟨a1, rfl, a4⟩ | ⟨a1, a2, rfl, a4⟩ | ⟨a1, a2, a3, rfl, a4⟩ | ⟨a1, a2, a3, a4⟩
  · rcases hm with ⟨b1, rfl, rfl⟩ | ⟨b1, _⟩ | ⟨b1, _⟩ | ⟨b1, _⟩
    · exact ⟨rfl, n, c, q, (h0 0).k2 a4⟩
    all_goals exact absurd b1 a1
  · rcases hm with ⟨b1, _⟩ | ⟨b1, b2, rfl, rfl⟩ | ⟨b1, b2, _⟩ | ⟨b1, b2, _⟩
    · exact absurd a1 b1
    · exact ⟨rfl, n, c, q, (h0 0).k2 a4⟩
    all_goals exact absurd b2 a2
  · rcases hm with ⟨b1, _⟩ | ⟨b1, b2, _⟩ | ⟨b1, b2, b3, rfl, rfl⟩ | ⟨b1, b2, b3, _⟩
    · exact absurd a1 b1
    · exact absurd a2 b2
    · exact ⟨rfl, n, c, q, (h0 _).k2 a4⟩
    · exact absurd b3 a3
  · rcases hm with ⟨b1, _⟩ | ⟨b1, b2, _⟩ | ⟨b1, b2, b3, _⟩ | ⟨b1, b2, b3, b4⟩
    · exact absurd a1 b1
    · exact absurd a2 b2
    · exact absurd a3 b3
    · rcases a4 with ⟨t, t1, rfl, t3⟩ | ⟨nn, t1, rfl, t3⟩
      · rcases b4 with ⟨t', s1, rfl, s3⟩ | ⟨nn, s1, rfl, s3⟩
        · rw [FF_inj t1 s1]
          exact ⟨rfl, n, c, q, ((h0 0).k2 t3).mkc s3⟩
        · exact (FF_OKT t1 s1).elim
      · rcases b4 with ⟨t', s1, rfl, s3⟩ | ⟨nn', s1, rfl, s3⟩
        · exact (FF_OKT s1 t1).elim
        · have e := cnt_inj t1.1 s1.1
          subst e
          exact ⟨rfl, nn, 0, 0, coast_ok h t1.1.2.1 t3 s3⟩
set_option maxRecDepth 100000 in
set_option maxHeartbeats 1000000 in
theorem s_X7_coast {w g : kW} {n c qq : Nat} (hh : Rel n c qq w g) {x sort i m0 : Int32} : Spec shC yX7_coast cX7_coast 8 (some .int) 3 69 [.ref 0, .int x, .int sort, .int i, .int m0] w (fun r w' => CCo w g x sort i m0 r w') := by
  obtain ⟨hM, hRP, hRI, hRA, hRR, hRS, hRN⟩ := id hh
  obtain ⟨hP, hI, hc8, hRd, hu, hS⟩ := id hM
  have hn := hP.le
  have hh0 := hh.flt (x := 0)
  refine k_enter pn_X7 (Nat.le_of_ble_eq_true rfl) ?_
  refine b_aload_n dX7_coast_0 rfl ?_
  refine b_iconst (v := 0) dX7_coast_1 (by decide) ?_
  refine b_puti dX7_coast_2 gf_X7_50 gs_X7_6 rfl rfl ?_
  refine b_wd (w' := kset w 0 6 0) rfl ?_
  refine b_aload_n dX7_coast_5 rfl ?_
  refine b_iload_n dX7_coast_6 rfl ?_
  refine b_callV1 dX7_coast_7 lk_X7_54 rfl rfl rfl ⟨Nat.le_of_ble_eq_true rfl, Nat.le_of_ble_eq_true rfl⟩ (Nat.le_of_ble_eq_true rfl) (s_X7_sheetOf) (fun r w7 h7 => ?_)
  obtain ⟨rfl, h7⟩ := h7
  rcases h7 with ⟨k, hk, rfl, rfl⟩ | ⟨hnok, rfl⟩
  · refine b_astore dX7_coast_10 (by decide) ?_
    refine b_aload dX7_coast_12 rfl ?_
    refine b_ifnonnull (tgt := 19) dX7_coast_14 (by decide) ?_
    refine b_iload_n dX7_coast_19 rfl ?_
    refine b_callS1 dX7_coast_20 lk_X7_58 ⟨Nat.le_of_ble_eq_true rfl, Nat.le_of_ble_eq_true rfl⟩ (Nat.le_of_ble_eq_true rfl) (s_X7_isLane) (fun r w20 h20 => ?_)
    obtain ⟨rfl, h20⟩ := h20
    rcases h20 with ⟨rfl, h20⟩ | ⟨rfl, h20⟩
    · refine b_if_ne (tgt := 29) dX7_coast_23 (by decide) (fun h23 => ?_) (fun h23 => absurd h23 (by decide))
      refine b_aload dX7_coast_29 rfl ?_
      refine b_iload_n dX7_coast_31 rfl ?_
      refine b_iload_n dX7_coast_32 rfl ?_
      refine b_iload dX7_coast_33 rfl ?_
      refine b_callV3 dX7_coast_35 lk_X7_62 (shK hk) rfl rfl ⟨Nat.le_of_ble_eq_true rfl, Nat.le_of_ble_eq_true rfl⟩ (Nat.le_of_ble_eq_true rfl) (s_X5_faultOfTaking hk (hh0.2.2.2.2.2.1 k hk)) (fun r w35 h35 => ?_)
      obtain ⟨rfl, rfl⟩ := h35
      refine b_topi (y := mAg g k sort i m0) rfl ?_
      refine b_istore dX7_coast_38 (by decide) ?_
      refine b_iload dX7_coast_40 rfl ?_
      refine b_if_eq (tgt := 52) dX7_coast_42 (by decide) (fun h42 => ?_) (fun h42 => ?_)
      · obtain ⟨l, hl5, hl⟩ := (hS k hk).2
        have hag : mAg g k sort i m0 = 0 := h42
        obtain ⟨ii, m, rfl, rfl, him, hso2⟩ := mAg_0 hag hl hl5
        have eL : (kset w 0 6 0).1 (31 + k) 2 = nI l := by rw [kset_row _ _ _ _ (by omega), ← (hRS k hk).2.1]; exact hl
        have etxt : txt g (nI k) (nI ii) = (fun x => g.1 3 (50 * k + ii + x)) := by
          unfold txt
          rw [dn_nI (by omega), dn_nI (by omega)]
        have hf : ∀ s, s < m → (kset w 0 6 0).1 (35 + k) (ii + s) = g.1 3 (50 * k + ii + s) := fun s hs => by
          rw [Nat.add_assoc]; exact (hh0.2.2.2.2.2.1 k hk).2.2 (ii + s) (by omega)
        refine b_aload dX7_coast_52 rfl ?_
        refine b_iload_n dX7_coast_54 rfl ?_
        refine b_iload dX7_coast_55 rfl ?_
        refine b_callS3 dX7_coast_57 lk_X7_70 ⟨Nat.le_of_ble_eq_true rfl, Nat.le_of_ble_eq_true rfl⟩ (Nat.le_of_ble_eq_true rfl) (s_X6_firstFault (f := fun x => g.1 3 (50 * k + ii + x)) hk eL hl5 him hf) (fun r w57 h57 => ?_)
        obtain ⟨h57, rfl⟩ := h57
        rcases h57 with ⟨t, ht, rfl⟩ | ⟨nn, hok, rfl⟩
        · refine b_istore dX7_coast_60 (by decide) ?_
          refine b_iload dX7_coast_62 rfl ?_
          refine b_bipush (v := (-9)) dX7_coast_64 (by decide) ?_
          refine b_icmp_eq (tgt := 75) dX7_coast_66 (by decide) (fun h66 => ?_) (fun h66 => ?_)
          · exact absurd h66 (nI_ne9 (by have := ht.1; omega))
          · refine b_bipush (v := (-100)) dX7_coast_69 (by decide) ?_
            refine b_iload dX7_coast_71 rfl ?_
            refine b_isub dX7_coast_73 ?_
            refine b_iret dX7_coast_74 rfl (Or.inr (Or.inr (Or.inr ⟨sheet_in hk, h20, ?_, Or.inl ⟨t, ?_, rfl, fun _ _ => rfl⟩⟩)))
            · rw [dn_nI (show k < 2 ^ 31 by omega)]; exact hag
            · rw [etxt, dn_nI (by omega)]; exact ht
        · refine b_istore dX7_coast_60 (by decide) ?_
          refine b_iload dX7_coast_62 rfl ?_
          refine b_bipush (v := (-9)) dX7_coast_64 (by decide) ?_
          refine b_icmp_eq (tgt := 75) dX7_coast_66 (by decide) (fun h66 => ?_) (fun h66 => absurd h66 (by decide))
          refine b_aload dX7_coast_75 rfl ?_
          refine b_iload_n dX7_coast_77 rfl ?_
          refine b_aload_n dX7_coast_78 rfl ?_
          refine b_getr dX7_coast_79 gf_X7_14 rfl rfl ?_
          refine b_callS3 dX7_coast_82 lk_X7_76 ⟨Nat.le_of_ble_eq_true rfl, Nat.le_of_ble_eq_true rfl⟩ (Nat.le_of_ble_eq_true rfl) (s_X6_read (f := fun x => g.1 3 (50 * k + ii + x)) hk eL hl5 him hf hok) (fun r w82 h82 => ?_)
          obtain ⟨rfl, hu⟩ := h82
          refine b_aload_n dX7_coast_85 rfl ?_
          refine b_getr dX7_coast_86 gf_X7_23 rfl rfl ?_
          refine b_iconst (v := 0) dX7_coast_89 (by decide) ?_
          refine b_puti dX7_coast_90 gf_X7_80 gs_X0_0 rfl rfl ?_
          refine b_aload_n dX7_coast_93 rfl ?_
          refine b_getr dX7_coast_94 gf_X7_30 rfl rfl ?_
          refine b_iconst (v := 0) dX7_coast_97 (by decide) ?_
          refine b_puti dX7_coast_98 gf_X7_83 gs_X3_0 rfl rfl ?_
          refine b_aload_n dX7_coast_101 rfl ?_
          refine b_getr dX7_coast_102 gf_X7_14 rfl rfl ?_
          refine b_geti dX7_coast_105 gf_X7_84 rfl rfl ?_
          refine b_iret dX7_coast_108 rfl (Or.inr (Or.inr (Or.inr ⟨sheet_in hk, h20, ?_, Or.inr ⟨nn, ?_, congrArg (fun x => some (Value.int x)) hu.1, ?_⟩⟩)))
          · rw [dn_nI (show k < 2 ^ 31 by omega)]; exact hag
          · rw [etxt, dn_nI (by omega)]; exact hok
          · rw [etxt]; exact ⟨_, hu, rfl⟩
      · refine b_aload_n dX7_coast_45 rfl ?_
        refine b_iload dX7_coast_46 rfl ?_
        refine b_callV1 dX7_coast_48 lk_X7_66 rfl rfl rfl ⟨Nat.le_of_ble_eq_true rfl, Nat.le_of_ble_eq_true rfl⟩ (Nat.le_of_ble_eq_true rfl) (s_X7_faulted) (fun r w48 h48 => ?_)
        obtain ⟨rfl, rfl⟩ := h48
        refine b_iret dX7_coast_51 rfl (Or.inr (Or.inr (Or.inl ⟨sheet_in hk, h20, ?_, ?_, ?_⟩)))
        · rw [dn_nI (show k < 2 ^ 31 by omega)]; exact h42
        · rw [dn_nI (show k < 2 ^ 31 by omega)]
        · rw [dn_nI (show k < 2 ^ 31 by omega), kset_kset]; exact fun _ _ => rfl
    · refine b_if_ne (tgt := 29) dX7_coast_23 (by decide) (fun h23 => absurd h23 (by decide)) (fun h23 => ?_)
      refine b_bipush (v := (-2)) dX7_coast_26 (by decide) ?_
      exact b_iret dX7_coast_28 rfl (Or.inr (Or.inl ⟨sheet_in hk, h20, rfl, fun _ _ => rfl⟩))
  · refine b_astoreN dX7_coast_10 (by decide) ?_
    refine b_aloadN dX7_coast_12 rfl ?_
    refine b_ifnonnullN dX7_coast_14 ?_
    refine b_iconst (v := (-1)) dX7_coast_17 (by decide) ?_
    exact b_iret dX7_coast_18 rfl (Or.inl ⟨hnok, rfl, fun _ _ => rfl⟩)
