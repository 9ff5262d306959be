/-! ===== row ===== -/
/-- what a row comes to: the number, and the fault left -/
def RowA (n c : Nat) (w : kW) (k sort i m v f : Int32) : Prop :=
  (¬ isS k ∧ v = -1 ∧ f = 0) ∨ (isS k ∧ ¬ isT sort ∧ v = -2 ∧ f = 0) ∨
  (isS k ∧ isT sort ∧ ¬ mAg w (dn k) sort i m = 0 ∧ v = -10 - mAg w (dn k) sort i m ∧ f = mAg w (dn k) sort i m) ∨
  (isS k ∧ isT sort ∧ mAg w (dn k) sort i m = 0 ∧ w.1 0 5 = 0 ∧ v = -3 ∧ f = 0) ∨
  (isS k ∧ isT sort ∧ mAg w (dn k) sort i m = 0 ∧ ¬ w.1 0 5 = 0 ∧ (∃ s, s < dn m ∧ ¬ isPr w (txt w k i s)) ∧ v = -1 ∧ f = 0) ∨
  (isS k ∧ isT sort ∧ mAg w (dn k) sort i m = 0 ∧ ¬ w.1 0 5 = 0 ∧ (∀ s, s < dn m → isPr w (txt w k i s)) ∧ (∃ t, FstP (frAt n c w (txt w k i)) (dn m) t ∧ v = nI t) ∧ f = 0)
set_option maxRecDepth 100000 in
theorem RowA.inj {n c : Nat} {w : kW} {k sort i m v f v' f' : Int32} (h : RowA n c w k sort i m v f) (h' : RowA n c w k sort i m v' f') : v = v' ∧ f = f' := by
  rcases h with ⟨a1, rfl, rfl⟩ | ⟨a1, a2, rfl, rfl⟩ | ⟨a1, a2, a3, rfl, rfl⟩ | ⟨a1, a2, a3, a4, rfl, rfl⟩ | ⟨a1, a2, a3, a4, ⟨s, s1, s2⟩, rfl, rfl⟩ | ⟨a1, a2, a3, a4, a5, ⟨t, t1, rfl⟩, rfl⟩ <;>
  rcases h' with ⟨b1, rfl, rfl⟩ | ⟨b1, b2, rfl, rfl⟩ | ⟨b1, b2, b3, rfl, rfl⟩ | ⟨b1, b2, b3, b4, rfl, rfl⟩ | ⟨b1, b2, b3, b4, ⟨s', s1', s2'⟩, rfl, rfl⟩ | ⟨b1, b2, b3, b4, b5, ⟨t', t1', rfl⟩, rfl⟩ <;>
  first
  | exact absurd b1 a1
  | exact absurd a1 b1
  | exact absurd b2 a2
  | exact absurd a2 b2
  | exact absurd b3 a3
  | exact absurd a3 b3
  | exact absurd b4 a4
  | exact absurd a4 b4
  | exact absurd (b5 s s1) s2
  | exact absurd (a5 s' s1') s2'
  | exact ⟨by rw [FstP_inj t1 t1'], rfl⟩
  | exact ⟨rfl, rfl⟩
theorem PRow.a {n c : Nat} {w w' : kW} {k sort i m : Int32} {r : Option Value} (h : PRow n c w k sort i m r w') : ∃ v f, RowA n c w k sort i m v f ∧ r = some (.int v) ∧ mKp c (kset w 0 0 f) w' := by
  rcases h with ⟨a1, rfl, rfl⟩ | ⟨a1, a2, rfl, rfl⟩ | ⟨a1, a2, a3, rfl, rfl⟩ | ⟨a1, a2, a3, a4, rfl, rfl⟩ | ⟨a1, a2, a3, a4, a5, rfl, rfl⟩ | ⟨a1, a2, a3, a4, a5, t, t1, rfl, a6⟩
  · exact ⟨_, _, Or.inl ⟨a1, rfl, rfl⟩, rfl, mKp.rf⟩
  · exact ⟨_, _, Or.inr (Or.inl ⟨a1, a2, rfl, rfl⟩), rfl, mKp.rf⟩
  · exact ⟨_, _, Or.inr (Or.inr (Or.inl ⟨a1, a2, a3, rfl, rfl⟩)), rfl, mKp.rf⟩
  · exact ⟨_, _, Or.inr (Or.inr (Or.inr (Or.inl ⟨a1, a2, a3, a4, rfl, rfl⟩))), rfl, mKp.rf⟩
  · exact ⟨_, _, Or.inr (Or.inr (Or.inr (Or.inr (Or.inl ⟨a1, a2, a3, a4, a5, rfl, rfl⟩)))), rfl, mKp.rf⟩
  · exact ⟨_, _, Or.inr (Or.inr (Or.inr (Or.inr (Or.inr ⟨a1, a2, a3, a4, a5, ⟨t, t1, rfl⟩, rfl⟩)))), rfl, a6⟩
def Rel0 (n c q : Nat) (w g : kW) : Prop := MInv n c q g ∧ RP n w g ∧ RI c w g ∧ RA n w g ∧ RR q w g ∧ (∀ k, k < 4 → RS1 k w g)
theorem Rel.r0 {n c q : Nat} {w g : kW} (h : Rel n c q w g) : Rel0 n c q (kset w 0 6 0) g := by
  have h0 := h.flt (x := 0)
  exact ⟨h.1, h.2.1, h.2.2.1, h.2.2.2.1, h.2.2.2.2.1, h0.2.2.2.2.2.1⟩
theorem s_has0 {w g : kW} {n : Nat} (h : RP n w g) {p : Int32} : Spec shC yX2_has cX2_has 2 (some .boolean) 0 0 [.ref 1, .int p] w (fun r w' => w = w' ∧ ((r = some (.int 1) ∧ isPr g p) ∨ (r = some (.int 0) ∧ ¬ isPr g p))) := by
  have := @s_X2_has w p
  rw [h.2.1.trans h.1.1.symm] at this
  exact this
set_option maxRecDepth 100000 in
set_option maxHeartbeats 1000000 in
theorem s_X7_freeInTurn_lp {w g : kW} {n c qq kk ii l m : Nat} (hh : Rel0 n c qq w g) (hkk : kk < 4) (hl : w.1 (31 + kk) 2 = nI l) (hl5 : l ≤ 50) (him : ii + m ≤ l) {f : Nat → Int32} (hf : ∀ s, s < m → g.1 3 (50 * kk + (ii + s)) = f s) (hpr : ∀ s, s < m → isPr g (f s)) : ∀ q k, k + q = m → ∀ v : kW, cK2 w v → RD n c k v (mAhead n c g k) → (∀ s, s < k → frAt n c g f s) → BS shC RX7 cX7_freeInTurn 5 (some .int) 4 105 (fun r w' => (∃ t, FstP (frAt n c g f) m t ∧ r = some (.int (nI t))) ∧ cK2 w w') 18 [(0, .ref 0), (1, .ref (31 + kk)), (2, .int (nI ii)), (3, .int (nI m)), (4, .int (nI k))] [] v := by
  intro q
  obtain ⟨hM, hRP, hRI, hRA, hRR, hRS⟩ := id hh
  obtain ⟨hP, hI, hc8, hRd, hu, hS⟩ := id hM
  have hn := hP.le
  induction q with
  | zero =>
    intro k hk v hv hRD hfr
    refine b_iload dX7_freeInTurn_18 rfl ?_
    refine b_iload_n dX7_freeInTurn_20 rfl ?_
    refine b_icmp_ge (tgt := 65) dX7_freeInTurn_21 (by decide) (fun h21 => ?_) (fun h21 => ?_)
    · refine b_iload_n dX7_freeInTurn_65 rfl ?_
      have e : k = m := by omega
      subst e
      exact b_iret dX7_freeInTurn_66 rfl ⟨⟨k, ⟨Nat.le_refl _, hfr, fun z => absurd z (Nat.lt_irrefl _)⟩, rfl⟩, hv⟩
    · exact absurd (nI_le (by omega) (by omega)) h21
  | succ q ih =>
    intro k hk v hv hRD hfr
    obtain ⟨p, hp, ep⟩ := pers_of hP (hpr k (by omega))
    have hlv := hRD.lv
    refine b_iload dX7_freeInTurn_18 rfl ?_
    refine b_iload_n dX7_freeInTurn_20 rfl ?_
    refine b_icmp_ge (tgt := 65) dX7_freeInTurn_21 (by decide) (fun h21 => ?_) (fun h21 => ?_)
    · exact absurd h21 (nI_ge (by omega) (by omega))
    · refine b_aload_n dX7_freeInTurn_24 rfl ?_
      refine b_getr dX7_freeInTurn_25 gf_X7_39 rfl rfl ?_
      refine b_iload dX7_freeInTurn_28 rfl ?_
      refine b_callV1 dX7_freeInTurn_30 lk_X7_146 rfl rfl rfl ⟨Nat.le_of_ble_eq_true rfl, Nat.le_of_ble_eq_true rfl⟩ (Nat.le_of_ble_eq_true rfl) (s_X4_freeAhead (w := v) (d := nI k) hlv.1.2.1 hn) (fun r w30 h30 => ?_)
      obtain ⟨rfl, fs, rfl, hfs⟩ := h30
      refine b_aload_n dX7_freeInTurn_33 rfl ?_
      refine b_iload_n dX7_freeInTurn_34 rfl ?_
      refine b_iload dX7_freeInTurn_35 rfl ?_
      refine b_iadd dX7_freeInTurn_37 ?_
      refine b_topi (y := nI (ii + k)) (nI_add _ _) ?_
      refine b_callV1 dX7_freeInTurn_38 lk_X7_177 (shK hkk) rfl rfl ⟨Nat.le_of_ble_eq_true rfl, Nat.le_of_ble_eq_true rfl⟩ (Nat.le_of_ble_eq_true rfl) (s_X5_at (l := l) hkk ((congrFun (hv (31 + kk) (by omega)) 2).trans hl) hl5 (by omega)) (fun r w38 h38 => ?_)
      obtain ⟨rfl, rfl⟩ := h38
      refine b_topi (y := nI p) ((((congrFun (hv (35 + kk) (by omega)) (ii + k)).trans ((hRS kk hkk).2.2 (ii + k) (by omega))).trans (hf k (by omega))).trans ep) ?_
      refine b_callS2 dX7_freeInTurn_41 lk_X7_107 ⟨Nat.le_of_ble_eq_true rfl, Nat.le_of_ble_eq_true rfl⟩ (Nat.le_of_ble_eq_true rfl) (s_X7_in (k := p) (by omega)) (fun r w41 h41 => ?_)
      obtain ⟨rfl, h41⟩ := h41
      rcases h41 with ⟨rfl, h41⟩ | ⟨rfl, h41⟩
      · refine b_if_ne (tgt := 50) dX7_freeInTurn_44 (by decide) (fun h44 => ?_) (fun h44 => absurd h44 (by decide))
        refine b_aload_n dX7_freeInTurn_50 rfl ?_
        refine b_getr dX7_freeInTurn_51 gf_X7_39 rfl rfl ?_
        refine b_iload dX7_freeInTurn_54 rfl ?_
        refine b_callV1 dX7_freeInTurn_56 lk_X7_187 rfl rfl rfl ⟨Nat.le_of_ble_eq_true rfl, Nat.le_of_ble_eq_true rfl⟩ (Nat.le_of_ble_eq_true rfl) (s_X4_pass hRD (by omega)) (fun r w56 h56 => ?_)
        obtain ⟨rfl, hRD2, hk2⟩ := h56
        refine b_iinc dX7_freeInTurn_59 rfl (nI_inc k) (by decide) ?_
        refine b_goto (tgt := 18) dX7_freeInTurn_62 (by decide) ?_
        refine b_sub [1, 2, 3, 4, 0] rfl ?_
        refine ih (k + 1) (by omega) _ (hv.tr hk2) hRD2 (fun s hs => ?_)
        by_cases e : s = k
        · subst e; unfold frAt; rw [ep, dn_nI (by omega)]; exact ((hlv.free hfs (by omega)).mp h41).2
        · exact hfr s (by omega)
      · refine b_if_ne (tgt := 50) dX7_freeInTurn_44 (by decide) (fun h44 => absurd h44 (by decide)) (fun h44 => ?_)
        refine b_iload dX7_freeInTurn_47 rfl ?_
        exact b_iret dX7_freeInTurn_49 rfl ⟨⟨k, ⟨by omega, hfr, fun _ z => h41 ((hlv.free hfs (by omega)).mpr ⟨hp, by unfold frAt at z; rw [ep, dn_nI (by omega)] at z; exact z⟩)⟩, rfl⟩, hv⟩
set_option maxRecDepth 100000 in
set_option maxHeartbeats 1000000 in
theorem s_X7_freeInTurn {w g : kW} {n c qq kk ii l m : Nat} (hh : Rel0 n c qq w g) (hkk : kk < 4) (hl : w.1 (31 + kk) 2 = nI l) (hl5 : l ≤ 50) (him : ii + m ≤ l) {f : Nat → Int32} (hf : ∀ s, s < m → g.1 3 (50 * kk + (ii + s)) = f s) (hpr : ∀ s, s < m → isPr g (f s)) : Spec shC yX7_freeInTurn cX7_freeInTurn 5 (some .int) 4 105 [.ref 0, .ref (31 + kk), .int (nI ii), .int (nI m)] w (fun r w' => (∃ t, FstP (frAt n c g f) m t ∧ r = some (.int (nI t))) ∧ cK2 w w') := by
  obtain ⟨hM, hRP, hRI, hRA, hRR, hRS⟩ := id hh
  obtain ⟨hP, hI, hc8, hRd, hu, hS⟩ := id hM
  have hn := hP.le
  refine k_enter pn_X7 (Nat.le_of_ble_eq_true rfl) ?_
  refine b_aload_n dX7_freeInTurn_0 rfl ?_
  refine b_getr dX7_freeInTurn_1 gf_X7_39 rfl rfl ?_
  refine b_iconst (v := (-1)) dX7_freeInTurn_4 (by decide) ?_
  refine b_aload_n dX7_freeInTurn_5 rfl ?_
  refine b_getr dX7_freeInTurn_6 gf_X7_14 rfl rfl ?_
  refine b_geti dX7_freeInTurn_9 gf_X7_104 rfl rfl ?_
  refine b_callV2 dX7_freeInTurn_12 lk_X7_183 rfl rfl rfl ⟨Nat.le_of_ble_eq_true rfl, Nat.le_of_ble_eq_true rfl⟩ (Nat.le_of_ble_eq_true rfl) (s_X4_begin (c := c) hRI.1 (by omega) (fun k hk => by obtain ⟨a, b, d, e, z1, z2, z3, z4, z5, z6, z7, z8, z9, z10⟩ := hI.2.2 k hk; exact ⟨d, z4, (hRI.2 k hk).2.2.1.trans z9⟩)) (fun r w12 h12 => ?_)
  obtain ⟨rfl, DB, hDB, rfl⟩ := h12
  refine b_iconst (v := 0) dX7_freeInTurn_15 (by decide) ?_
  refine b_istore dX7_freeInTurn_16 (by decide) ?_
  refine b_sub [1, 2, 3, 4, 0] rfl ?_
  refine s_X7_freeInTurn_lp hh hkk hl hl5 him hf hpr m 0 (by omega) _ (begW_k2 _ _ _ _) (beg_rel hRP hI hRI (fun k hk => ?_) hRA hDB) (fun s hs => absurd hs (Nat.not_lt_zero _))
  rw [b_m1 k (by omega), hu, b_0]; simp
set_option maxRecDepth 100000 in
set_option maxHeartbeats 1000000 in
theorem s_X7_row_lp {w g : kW} {n c qq kk ii l m : Nat} (hh : Rel0 n c qq w g) (hkk : kk < 4) (hl : w.1 (31 + kk) 2 = nI l) (hl5 : l ≤ 50) (him : ii + m ≤ l) {f : Nat → Int32} (hf : ∀ s, s < m → g.1 3 (50 * kk + (ii + s)) = f s) : ∀ q k, k + q = m → (∀ s, s < k → isPr g (f s)) → BS shC RX7 cX7_row 8 (some .int) 5 129 (fun r w' => ((∃ s, s < m ∧ ¬ isPr g (f s)) ∧ r = some (.int (-1)) ∧ cK2 w w') ∨ ((∀ s, s < m → isPr g (f s)) ∧ (∃ t, FstP (frAt n c g f) m t ∧ r = some (.int (nI t))) ∧ cK2 w w')) 65 [(0, .ref 0), (3, .int (nI ii)), (4, .int (nI m)), (5, .ref (31 + kk)), (7, .int (nI k))] [] w := by
  intro q
  obtain ⟨hM, hRP, hRI, hRA, hRR, hRS⟩ := id hh
  obtain ⟨hP, hI, hc8, hRd, hu, hS⟩ := id hM
  have hn := hP.le
  induction q with
  | zero =>
    intro k hk hpr
    refine b_iload dX7_row_65 rfl ?_
    refine b_iload dX7_row_67 rfl ?_
    refine b_icmp_ge (tgt := 99) dX7_row_69 (by decide) (fun h69 => ?_) (fun h69 => ?_)
    · have e : k = m := by omega
      subst e
      refine b_aload_n dX7_row_99 rfl ?_
      refine b_aload dX7_row_100 rfl ?_
      refine b_iload_n dX7_row_102 rfl ?_
      refine b_iload dX7_row_103 rfl ?_
      refine b_callV3 dX7_row_105 lk_X7_180 rfl rfl rfl ⟨Nat.le_of_ble_eq_true rfl, Nat.le_of_ble_eq_true rfl⟩ (Nat.le_of_ble_eq_true rfl) (s_X7_freeInTurn hh hkk hl hl5 him hf hpr) (fun r w105 h105 => ?_)
      obtain ⟨⟨t, ht, rfl⟩, hk⟩ := h105
      exact b_iret dX7_row_108 rfl (Or.inr ⟨hpr, ⟨t, ht, rfl⟩, hk⟩)
    · exact absurd (nI_le (by omega) (by omega)) h69
  | succ q ih =>
    intro k hk hpr
    refine b_iload dX7_row_65 rfl ?_
    refine b_iload dX7_row_67 rfl ?_
    refine b_icmp_ge (tgt := 99) dX7_row_69 (by decide) (fun h69 => ?_) (fun h69 => ?_)
    · exact absurd h69 (nI_ge (by omega) (by omega))
    · refine b_aload_n dX7_row_72 rfl ?_
      refine b_getr dX7_row_73 gf_X7_14 rfl rfl ?_
      refine b_aload dX7_row_76 rfl ?_
      refine b_iload_n dX7_row_78 rfl ?_
      refine b_iload dX7_row_79 rfl ?_
      refine b_iadd dX7_row_81 ?_
      refine b_topi (y := nI (ii + k)) (nI_add _ _) ?_
      refine b_callV1 dX7_row_82 lk_X7_177 (shK hkk) rfl rfl ⟨Nat.le_of_ble_eq_true rfl, Nat.le_of_ble_eq_true rfl⟩ (Nat.le_of_ble_eq_true rfl) (s_X5_at (l := l) hkk hl hl5 (by omega)) (fun r w82 h82 => ?_)
      obtain ⟨rfl, rfl⟩ := h82
      refine b_topi (y := f k) (((hRS kk hkk).2.2 (ii + k) (by omega)).trans (hf k (by omega))) ?_
      refine b_callV1 dX7_row_85 lk_X7_85 rfl rfl rfl ⟨Nat.le_of_ble_eq_true rfl, Nat.le_of_ble_eq_true rfl⟩ (Nat.le_of_ble_eq_true rfl) (s_has0 hRP) (fun r w85 h85 => ?_)
      obtain ⟨rfl, h85⟩ := h85
      rcases h85 with ⟨rfl, h85⟩ | ⟨rfl, h85⟩
      · refine b_if_ne (tgt := 93) dX7_row_88 (by decide) (fun h88 => ?_) (fun h88 => absurd h88 (by decide))
        refine b_iinc dX7_row_93 rfl (nI_inc k) (by decide) ?_
        refine b_goto (tgt := 65) dX7_row_96 (by decide) ?_
        refine b_sub [1, 2, 3, 4, 0] rfl ?_
        refine ih (k + 1) (by omega) (fun s hs => ?_)
        by_cases e : s = k
        · subst e; exact h85
        · exact hpr s (by omega)
      · refine b_if_ne (tgt := 93) dX7_row_88 (by decide) (fun h88 => absurd h88 (by decide)) (fun h88 => ?_)
        refine b_iconst (v := (-1)) dX7_row_91 (by decide) ?_
        exact b_iret dX7_row_92 rfl (Or.inl ⟨⟨k, by omega, h85⟩, rfl, fun _ _ => rfl⟩)
set_option maxRecDepth 100000 in
set_option maxHeartbeats 1000000 in
theorem s_X7_row {w g : kW} {n c qq : Nat} (hh : Rel n c qq w g) {x sort i m0 : Int32} : Spec shC yX7_row cX7_row 8 (some .int) 5 129 [.ref 0, .int x, .int sort, .int i, .int m0] w (fun r w' => ∃ v f, RowA n c g x sort i m0 v f ∧ r = some (.int v) ∧ cK2 (kset w 0 6 f) w') := by
  obtain ⟨hM, hRP, hRI, hRA, hRR, hRS, hRN⟩ := id hh
  obtain ⟨hP, hI, hc8, hRd, hu, hS⟩ := id hM
  have hn := hP.le
  have hh0 := hh.flt (x := 0)
  refine k_enter pn_X7 (Nat.le_of_ble_eq_true rfl) ?_
  refine b_aload_n dX7_row_0 rfl ?_
  refine b_iconst (v := 0) dX7_row_1 (by decide) ?_
  refine b_puti dX7_row_2 gf_X7_50 gs_X7_6 rfl rfl ?_
  refine b_wd (w' := kset w 0 6 0) rfl ?_
  refine b_aload_n dX7_row_5 rfl ?_
  refine b_iload_n dX7_row_6 rfl ?_
  refine b_callV1 dX7_row_7 lk_X7_54 rfl rfl rfl ⟨Nat.le_of_ble_eq_true rfl, Nat.le_of_ble_eq_true rfl⟩ (Nat.le_of_ble_eq_true rfl) (s_X7_sheetOf) (fun r w7 h7 => ?_)
  obtain ⟨rfl, h7⟩ := h7
  rcases h7 with ⟨k, hk, rfl, rfl⟩ | ⟨hnok, rfl⟩
  · refine b_astore dX7_row_10 (by decide) ?_
    refine b_aload dX7_row_12 rfl ?_
    refine b_ifnonnull (tgt := 19) dX7_row_14 (by decide) ?_
    refine b_iload_n dX7_row_19 rfl ?_
    refine b_callS1 dX7_row_20 lk_X7_58 ⟨Nat.le_of_ble_eq_true rfl, Nat.le_of_ble_eq_true rfl⟩ (Nat.le_of_ble_eq_true rfl) (s_X7_isLane) (fun r w20 h20 => ?_)
    obtain ⟨rfl, h20⟩ := h20
    rcases h20 with ⟨rfl, h20⟩ | ⟨rfl, h20⟩
    · refine b_if_ne (tgt := 29) dX7_row_23 (by decide) (fun h23 => ?_) (fun h23 => absurd h23 (by decide))
      refine b_aload dX7_row_29 rfl ?_
      refine b_iload_n dX7_row_31 rfl ?_
      refine b_iload_n dX7_row_32 rfl ?_
      refine b_iload dX7_row_33 rfl ?_
      refine b_callV3 dX7_row_35 lk_X7_62 (shK hk) rfl rfl ⟨Nat.le_of_ble_eq_true rfl, Nat.le_of_ble_eq_true rfl⟩ (Nat.le_of_ble_eq_true rfl) (s_X5_faultOfTaking hk (hh0.2.2.2.2.2.1 k hk)) (fun r w35 h35 => ?_)
      obtain ⟨rfl, rfl⟩ := h35
      refine b_topi (y := mAg g k sort i m0) rfl ?_
      refine b_istore dX7_row_38 (by decide) ?_
      refine b_iload dX7_row_40 rfl ?_
      refine b_if_eq (tgt := 52) dX7_row_42 (by decide) (fun h42 => ?_) (fun h42 => ?_)
      · obtain ⟨l, hl5, hl⟩ := (hS k hk).2
        have hag : mAg g k sort i m0 = 0 := h42
        obtain ⟨ii, m, rfl, rfl, him, hso2⟩ := mAg_0 hag hl hl5
        have eL : (kset w 0 6 0).1 (31 + k) 2 = nI l := by rw [kset_row _ _ _ _ (by omega), ← (hRS k hk).2.1]; exact hl
        have etxt : txt g (nI k) (nI ii) = (fun x => g.1 3 (50 * k + ii + x)) := by
          unfold txt
          rw [dn_nI (by omega), dn_nI (by omega)]
        refine b_aload_n dX7_row_52 rfl ?_
        refine b_callV0 dX7_row_53 lk_X7_127 rfl rfl rfl ⟨Nat.le_of_ble_eq_true rfl, Nat.le_of_ble_eq_true rfl⟩ (Nat.le_of_ble_eq_true rfl) (s_empty hh0) (fun r w53 h53 => ?_)
        obtain ⟨rfl, h53⟩ := h53
        rcases h53 with ⟨rfl, h53⟩ | ⟨rfl, h53⟩
        · refine b_if_eq (tgt := 62) dX7_row_56 (by decide) (fun h56 => absurd h56 (by decide)) (fun h56 => ?_)
          refine b_bipush (v := (-3)) dX7_row_59 (by decide) ?_
          exact b_iret dX7_row_61 rfl ⟨_, _, Or.inr (Or.inr (Or.inr (Or.inl ⟨sheet_in hk, h20, by rw [dn_nI (show k < 2 ^ 31 by omega)]; exact h42, h53, rfl, rfl⟩))), rfl, fun _ _ => rfl⟩
        · refine b_if_eq (tgt := 62) dX7_row_56 (by decide) (fun h56 => ?_) (fun h56 => absurd h56 (by decide))
          refine b_iconst (v := 0) dX7_row_62 (by decide) ?_
          refine b_istore dX7_row_63 (by decide) ?_
          refine b_sub [3, 6, 7, 2, 0] rfl ?_
          refine (s_X7_row_lp hh.r0 (kk := k) (ii := ii) (m := m) (f := fun x => g.1 3 (50 * k + ii + x)) hk eL hl5 him (fun s hs => by rw [← Nat.add_assoc]) m 0 (by omega) (fun s hs => absurd hs (Nat.not_lt_zero _))).mono (fun r w1 h => ?_)
          rcases h with ⟨⟨s, s1, s2⟩, rfl, h3⟩ | ⟨h1, ⟨t, ht, rfl⟩, h3⟩
          · exact ⟨_, _, Or.inr (Or.inr (Or.inr (Or.inr (Or.inl ⟨sheet_in hk, h20, by rw [dn_nI (show k < 2 ^ 31 by omega)]; exact hag, h53, ⟨s, by rw [dn_nI (by omega)]; exact s1, by rw [etxt]; exact s2⟩, rfl, rfl⟩)))), rfl, h3⟩
          · exact ⟨_, _, Or.inr (Or.inr (Or.inr (Or.inr (Or.inr ⟨sheet_in hk, h20, by rw [dn_nI (show k < 2 ^ 31 by omega)]; exact hag, h53, by rw [etxt, dn_nI (by omega)]; exact h1, ⟨t, by rw [etxt, dn_nI (by omega)]; exact ht, rfl⟩, rfl⟩)))), rfl, h3⟩
      · refine b_aload_n dX7_row_45 rfl ?_
        refine b_iload dX7_row_46 rfl ?_
        refine b_callV1 dX7_row_48 lk_X7_66 rfl rfl rfl ⟨Nat.le_of_ble_eq_true rfl, Nat.le_of_ble_eq_true rfl⟩ (Nat.le_of_ble_eq_true rfl) (s_X7_faulted) (fun r w48 h48 => ?_)
        obtain ⟨rfl, rfl⟩ := h48
        refine b_iret dX7_row_51 rfl ⟨_, _, Or.inr (Or.inr (Or.inl ⟨sheet_in hk, h20, ?_, rfl, rfl⟩)), ?_, ?_⟩
        · rw [dn_nI (show k < 2 ^ 31 by omega)]; exact h42
        · rw [dn_nI (show k < 2 ^ 31 by omega)]
        · rw [dn_nI (show k < 2 ^ 31 by omega), kset_kset]; exact fun _ _ => rfl
    · refine b_if_ne (tgt := 29) dX7_row_23 (by decide) (fun h23 => absurd h23 (by decide)) (fun h23 => ?_)
      refine b_bipush (v := (-2)) dX7_row_26 (by decide) ?_
      exact b_iret dX7_row_28 rfl ⟨_, _, Or.inr (Or.inl ⟨sheet_in hk, h20, rfl, rfl⟩), rfl, fun _ _ => rfl⟩
  · refine b_astoreN dX7_row_10 (by decide) ?_
    refine b_aloadN dX7_row_12 rfl ?_
    refine b_ifnonnullN dX7_row_14 ?_
    refine b_iconst (v := (-1)) dX7_row_17 (by decide) ?_
    exact b_iret dX7_row_18 rfl ⟨_, _, Or.inl ⟨hnok, rfl, rfl⟩, rfl, fun _ _ => rfl⟩
