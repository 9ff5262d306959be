/-! ===== the dawns ===== -/
def RI (c : Nat) (w g : kW) : Prop := w.1 6 0 = nI c ∧ ∀ k, k < c → w.1 7 k = g.1 11 k ∧ w.1 8 k = g.1 12 k ∧ w.1 9 k = g.1 13 k ∧ w.1 10 k = g.1 14 k
def RM (n c : Nat) (w g : kW) : Prop := (∀ k, k < c → (bt (w.1 15 7) k = true ↔ bt (g.1 0 20) k = false)) ∧ (∀ p, p < n → (bt (w.1 15 9) p = false ↔ g.1 7 p = 0)) ∧ dayBits c (w.1 15 7) w (w.2 15 8)
def QD (d : Nat) (w g : kW) : Prop := ∃ q t, w.1 15 5 = nI q ∧ q ≤ t ∧ t < 200 ∧ g.1 0 23 = nI t ∧ (∀ k, k < q → ∃ x, x < 60 ∧ g.1 19 k = nI x ∧ x + 1 < d) ∧ (∀ k, q ≤ k → k < t → ∃ x, g.1 19 k = nI x ∧ x + 1 = d)
def RD (n c d : Nat) (w g : kW) : Prop := RP n w g ∧ Ins n c g ∧ RI c w g ∧ RM n c w g ∧ DInv n (3 * d) g ∧ RLg n w g ∧ QD d w g
theorem RI.keep {c : Nat} {w w' g g' : kW} (h : RI c w g) (h1 : cK2 w w') (h2 : sKeep g g') : RI c w' g' := by
  unfold RI at *
  rw [h1 6 (by decide), h1 7 (by decide), h1 8 (by decide), h1 9 (by decide), h1 10 (by decide), h2.1 11 (by decide) (by decide), h2.1 12 (by decide) (by decide), h2.1 13 (by decide) (by decide), h2.1 14 (by decide) (by decide)]
  exact h
theorem RM.keep {n c : Nat} {w w' g g' : kW} (h : RM n c w g) (h1 : cKeep w w') (h2 : sKeep g g') : RM n c w' g' := by
  unfold RM dayBits at *
  rw [h1.1 9 (by decide), h1.2.1 7 (by decide) (by decide), h1.2.1 9 (by decide) (by decide), h1.2.2, h2.1 7 (by decide) (by decide), h2.2.1 20 (by decide) (by decide) (by decide)]
  exact h
theorem RMset {n c : Nat} {w g : kW} {v : Int32} (h : RM n c w g) : RM n c (kset w 15 5 v) g := h
theorem RLg.k {n c k : Nat} {w g : kW} {v : Int32} (h : RLg n w g) (hc : c = 15 ∧ k ≠ 1 ∨ c ≤ 14) : RLg n (kset w c k v) g := by
  obtain ⟨m, t, h1, h2, h3, h4, h5, h6, h7, h8⟩ := h
  refine ⟨m, t, h1, h2, h3, by rw [kset_ne _ _ (by omega)]; exact h4, h5, by rw [kset_ne _ _ (by omega)]; exact h6, h7.w (by omega), ?_⟩
  intro p hp
  rw [kset_ne _ _ (by omega)]
  exact h8 p hp
theorem RLg.z {n : Nat} {w g : kW} {v : Int32} (h : RLg n w g) : RLg n w (kset g 0 22 v) := by
  obtain ⟨m, t, h1, h2, h3, h4, h5, h6, h7, h8⟩ := h
  exact ⟨m, t, h1, h2, h3, h4, h5, h6, h7.g (by omega), h8⟩
/-- a dawn on which nobody answers -/
theorem mTold_none {n c d : Nat} {w g : kW} (hI : Ins n c g) (hno : ∀ k, k < c → ¬ (g.1 13 k = nI d - 1 ∧ bt (g.1 0 20) k = false)) : ∀ k, k ≤ c → mTold g d k = kset g 0 22 0 := by
  intro k
  induction k with
  | zero => exact fun _ => rfl
  | succ k ih =>
    intro hk
    have e := ih (by omega)
    rw [← mTold_no (by rw [e]; exact hno k (by omega)), e]
theorem skip_rel {n c d q t : Nat} {w g : kW} (h : RD n c d w g) (hd : d < 60) (hq : w.1 15 5 = nI q) (ht : g.1 0 23 = nI t) (hq2 : q < 200) (ht2 : t < 200) (hqt : q = t) (hno : ∀ k, k < c → ¬ (g.1 13 k = nI d - 1 ∧ bt (g.1 0 20) k = false)) : RD n c (d + 1) w (mDawn c g d) := by
  obtain ⟨h1, h2, h3, h4, h5, h6, q', t', e1, e2, e3, e4, e5, e6⟩ := h
  have a1 := nI_inj (by omega) (by omega) (e1.symm.trans hq)
  have a2 := nI_inj (by omega) (by omega) (e4.symm.trans ht)
  subst a1; subst a2; subst hqt
  have e : mDawn c g d = kset g 0 22 0 := by
    unfold mDawn
    rw [mTold_none (w := w) h2 hno c (Nat.le_refl _), cl_of e4 (by omega)]
    exact mTk_skip (w := kset g 0 22 0) (t := q') (q := q') e5 hd q' (Nat.le_refl _)
  have hk : sKeep g (kset g 0 22 0) := sKeep.rf.num (by decide)
  obtain ⟨d1, d2⟩ := mDawn_inv (c := c) (d := d) h5 (by omega) h2
  rw [e] at d1 ⊢
  refine ⟨h1.keep cKeep.rf hk, h2.keep hk, h3.keep (fun _ _ => rfl) hk, h4.keep cKeep.rf hk, d1.mono (by omega), h6.z, q', q', e1, Nat.le_refl _, e3, e4, fun k hk => ?_, fun k a b => by omega⟩
  obtain ⟨x, x1, x2, x3⟩ := e5 k hk
  exact ⟨x, x1, x2, by omega⟩
theorem RMno {n c d : Nat} {w g : kW} (hI : Ins n c g) (h3 : RI c w g) (h4 : RM n c w g) (hd : d < 60) (h : ¬ btL (w.2 15 8) d = true) : ∀ k, k < c → ¬ (g.1 13 k = nI (d + 1) - 1 ∧ bt (g.1 0 20) k = false) := by
  rintro k hk ⟨a, b⟩
  rw [nI_predS] at a
  exact h ((h4.2.2 d (by omega)).mpr ⟨k, hk, (h4.1 k hk).mpr b, (h3.2 k hk).2.2.1.trans a⟩)
theorem RMno0 {n c d : Nat} {g : kW} (hI : Ins n c g) (hd : nI d ≤ 0) (hd2 : d < 60) : ∀ k, k < c → ¬ (g.1 13 k = nI d - 1 ∧ bt (g.1 0 20) k = false) := by
  rintro k hk ⟨a, b⟩
  obtain ⟨a1, b1, dd, g1, h1, h2, h3, h4, h5, h6, h7, h8, h9, h10⟩ := hI.2.2 k hk
  have e : d = 0 := by
    rcases Nat.eq_zero_or_pos d with e | e
    · exact e
    · exact absurd hd (nI_nle e (by omega))
  subst e
  rw [h9] at a
  have : ∀ dd, dd < 30 → ¬ nI dd = nI 0 - 1 := by decide +kernel
  exact this dd h4 a
theorem pass_end {w g v : kW} {n c d m0 t t1 q0 : Nat} (hRD : RD n c d w g) (hd : d < 60) (hS0 : SInv n m0 (mTold g d c)) (hm0 : m0 ≤ 3 * d) (ht1 : (mTold g d c).1 0 23 = nI t1) (ht12 : t1 < 200) (htt : t ≤ t1) (hg : g.1 0 23 = nI t) (hX : TkX (nI d) t t1 g (mTold g d c)) (hk9 : sKeep g (mTold g d c)) (hold : ∀ k, k < q0 → ∃ x, x < 60 ∧ g.1 19 k = nI x ∧ x + 1 < d) (hnew : ∀ k, q0 ≤ k → k < t → ∃ x, g.1 19 k = nI x ∧ x + 1 = d) (hL : RLg n v (mTk (mTold g d c) d t)) (hkv : cKeep w v) : RD n c (d + 1) (kset v 15 5 (nI t)) (mDawn c g d) ∧ cK2 w (kset v 15 5 (nI t)) := by
  obtain ⟨h1, h2, h3, h4, h5, h6, h7⟩ := hRD
  obtain ⟨t2, t21, t22⟩ := mTk_x (d := d) hS0 (by omega) ht1 ht12 htt t (Nat.le_refl _)
  obtain ⟨k1, k2, -⟩ := mTk_inv (d := d) hS0 (by omega) ht1 ht12 htt t (Nat.le_refl _)
  have e : mDawn c g d = mTk (mTold g d c) d t := by
    unfold mDawn
    rw [cl_of hg (by omega)]
  have hkk := hk9.tr k2
  have hXX := hX.tr t22
  have hc2 : cK2 w (kset v 15 5 (nI t)) := fun c' hc' => by rw [kset_row _ _ _ _ (by omega)]; exact hkv.1 c' hc'
  rw [e]
  refine ⟨⟨?_, h2.keep hkk, h3.keep hc2 hkk, RMset (h4.keep hkv hkk), k1.stop.mono (by omega), hL.k (by decide), t, t2, kset_eq _ _ _ _, hXX.1.1, t21, hXX.1.2.1, fun k hk => ?_, fun k a b => ⟨d, hXX.2 k a b, rfl⟩⟩, hc2⟩
  · have h1' := h1.keep hkv hkk
    exact ⟨h1'.1, h1'.2.1, h1'.2.2⟩
  · rw [(hXX.1.2.2 k hk).2.2.2]
    by_cases hk0 : k < q0
    · obtain ⟨x, x1, x2, x3⟩ := hold k hk0
      exact ⟨x, x1, x2, by omega⟩
    · obtain ⟨x, x1, x2⟩ := hnew k (by omega) hk
      exact ⟨x, by omega, x1, by omega⟩
set_option maxRecDepth 100000 in
set_option maxHeartbeats 4000000 in
theorem s_X4_pass_l2 {w g : kW} {n c d m0 t t1 q0 : Nat} (hRD : RD n c d w g) (hd : d < 60) (hS0 : SInv n m0 (mTold g d c)) (hm0 : m0 ≤ 3 * d) (ht1 : (mTold g d c).1 0 23 = nI t1) (ht12 : t1 < 200) (htt : t ≤ t1) (ht8 : t < 180) (hg : g.1 0 23 = nI t) (hX : TkX (nI d) t t1 g (mTold g d c)) (hk9 : sKeep g (mTold g d c)) (hq0 : q0 ≤ t) (hold : ∀ k, k < q0 → ∃ x, x < 60 ∧ g.1 19 k = nI x ∧ x + 1 < d) (hnew : ∀ k, q0 ≤ k → k < t → ∃ x, g.1 19 k = nI x ∧ x + 1 = d) : ∀ q k, k + q = t → q0 ≤ k → ∀ v : kW, RLg n v (mTk (mTold g d c) d k) → RF n (nI d) v (mTk (mTold g d c) d k) → cKeep w v → BS shC RX4 cX4_pass 5 none 3 81 (fun r w' => r = none ∧ RD n c (d + 1) w' (mDawn c g d) ∧ cK2 w w') 127 [(0, .ref 15), (1, .int (nI d)), (3, .int (nI t)), (4, .int (nI k))] [] v := by
  intro q
  induction q with
  | zero =>
    intro k hk hk0 v hL hF hkv
    refine b_iload dX4_pass_127 rfl ?_
    refine b_iload_n dX4_pass_129 rfl ?_
    refine b_icmp_ge (tgt := 150) dX4_pass_130 (by decide) (fun h130 => ?_) (fun h130 => ?_)
    · refine b_aload_n dX4_pass_150 rfl ?_
      refine b_iload_n dX4_pass_151 rfl ?_
      refine b_puti dX4_pass_152 gf_X4_67 gs_X4_5 rfl rfl ?_
      have e : k = t := by omega
      subst e
      refine b_vret dX4_pass_155 rfl ⟨rfl, ?_⟩
      exact pass_end hRD hd hS0 hm0 ht1 ht12 htt hg hX hk9 hold hnew hL hkv
    · exact absurd (nI_le (by omega) (by omega)) h130
  | succ q ih =>
    intro k hk hk0 v hL hF hkv
    have hL0 := hL
    obtain ⟨v1, v2, t2, g1, g2⟩ := mTk_inv (d := d) hS0 (by omega) ht1 ht12 htt k (by omega)
    obtain ⟨m3, t3, b1, b2, b3, b4, b5, b6, hb, bh⟩ := hL0
    have e3 := nI_inj (by omega) (by omega) (b5.symm.trans g2.2.1)
    subst e3
    have g2l := g2.1
    obtain ⟨hP, mm, t4, c1, c2, c3, c4, c5⟩ := id hS0
    have e4 := nI_inj (by have := bs6_le ((mTold g d c).1 0 22); omega) (by omega) (c2.symm.trans ht1)
    subst e4
    obtain ⟨a, b2, h1, h2, h3, h4⟩ := c5 k (by omega)
    obtain ⟨r1, r2, r3, r4⟩ := g2.2.2 k (by omega)
    have hn := v1.1.le
    have hday : (mTk (mTold g d c) d k).1 19 k = nI d - 1 := by
      obtain ⟨x, x1, x2⟩ := hnew k hk0 (by omega)
      rw [r4, (hX.1.2.2 k (by omega)).2.2.2, x1, ← x2, nI_predS]
    refine b_iload dX4_pass_127 rfl ?_
    refine b_iload_n dX4_pass_129 rfl ?_
    refine b_icmp_ge (tgt := 150) dX4_pass_130 (by decide) (fun h130 => ?_) (fun h130 => ?_)
    · exact absurd h130 (nI_ge (by omega) (by omega))
    · refine b_aload_n dX4_pass_133 rfl ?_
      refine b_aload_n dX4_pass_134 rfl ?_
      refine b_getr dX4_pass_135 gf_X4_23 rfl rfl ?_
      refine b_iload dX4_pass_138 rfl ?_
      refine b_iload_n dX4_pass_140 rfl ?_
      refine b_callV3 dX4_pass_141 lk_X4_86 rfl rfl rfl ⟨Nat.le_of_ble_eq_true rfl, Nat.le_of_ble_eq_true rfl⟩ (Nat.le_of_ble_eq_true rfl) (s_X4_answer_24 (i := a) (j := b2) ((hRD.1.keep hkv (hk9.tr v2))) v1 (by omega) hL hF (by omega) h1 h2 ((hb.2.1 k (by omega)).1.trans (r1.trans h3)) ((hb.2.1 k (by omega)).2.1.trans (r2.trans h4))) (fun r w141 h141 => ?_)
      obtain ⟨rfl, q1, q2, q3⟩ := h141
      rw [(hb.2.1 k (by omega)).2.2.2, mTk_yes hday (r1.trans h3) (r2.trans h4) (by omega) (by omega)] at q1 q2
      refine b_iinc dX4_pass_144 rfl (nI_inc k) (by decide) ?_
      refine b_goto (tgt := 127) dX4_pass_147 (by decide) ?_
      refine b_sub [1, 2, 3, 0] rfl ?_
      exact ih (k + 1) (by omega) (by omega) w141 q1 q2 (hkv.tr q3)
set_option maxRecDepth 100000 in
set_option maxHeartbeats 4000000 in
theorem s_X4_pass_l1 {w g : kW} {n c d m0 t q0 : Nat} (hRD : RD n c d w g) (hd : d < 60) (hS : SInv n m0 (kset g 0 22 0)) (hm0 : m0 ≤ 3 * d) (hg : g.1 0 23 = nI t) (ht2 : t < 180) (hq0 : q0 ≤ t) (hq : w.1 15 5 = nI q0) (hold : ∀ k, k < q0 → ∃ x, x < 60 ∧ g.1 19 k = nI x ∧ x + 1 < d) (hnew : ∀ k, q0 ≤ k → k < t → ∃ x, g.1 19 k = nI x ∧ x + 1 = d) : ∀ q k, k + q = c → ∀ v : kW, RLg n v (mTold g d k) → RF n (nI d) v (mTold g d k) → cKeep w v → BS shC RX4 cX4_pass 5 none 3 81 (fun r w' => r = none ∧ RD n c (d + 1) w' (mDawn c g d) ∧ cK2 w w') 64 [(0, .ref 15), (1, .int (nI d)), (3, .int (nI t)), (4, .int (nI k))] [] v := by
  intro q
  induction q with
  | zero =>
    intro k hk v hL hF hkv
    obtain ⟨v1, v2⟩ := mTold_inv (d := d) hS hRD.2.1 (by omega) k (by omega)
    have hn := v1.1.le
    have hc9 := hRD.2.1.2.1
    refine b_iload dX4_pass_64 rfl ?_
    refine b_aload_n dX4_pass_66 rfl ?_
    refine b_getr dX4_pass_67 gf_X4_35 rfl rfl ?_
    refine b_geti dX4_pass_70 gf_X4_56 rfl rfl ?_
    refine b_topi (y := nI c) ((congrFun (hkv.1 6 (by decide)) 0).trans hRD.2.2.1.1) ?_
    refine b_icmp_ge (tgt := 121) dX4_pass_73 (by decide) (fun h73 => ?_) (fun h73 => ?_)
    · refine b_aload_n dX4_pass_121 rfl ?_
      refine b_geti dX4_pass_122 gf_X4_67 rfl rfl ?_
      refine b_topi (y := nI q0) ((hkv.2.1 5 (by decide) (by decide)).trans hq) ?_
      refine b_istore dX4_pass_125 (by decide) ?_
      refine b_sub [1, 2, 3, 0] rfl ?_
      have e : k = c := by omega
      subst e
      obtain ⟨t1, t11, t12⟩ := mTold_x (d := d) hS hRD.2.1 (by omega) hg (by omega) k (Nat.le_refl _)
      refine s_X4_pass_l2 hRD hd v1 hm0 t12.1.2.1 t11 t12.1.1 ht2 hg t12 v2 hq0 hold hnew (t - q0) q0 (by omega) (Nat.le_refl _) v ?_ ?_ hkv
      · rw [mTk_skip (t := t) (q := q0) (fun j hj => by rw [(t12.1.2.2 j (by omega)).2.2.2]; exact hold j hj) hd q0 (Nat.le_refl _)]; exact hL
      · rw [mTk_skip (t := t) (q := q0) (fun j hj => by rw [(t12.1.2.2 j (by omega)).2.2.2]; exact hold j hj) hd q0 (Nat.le_refl _)]; exact hF
    · exact absurd (nI_le (by omega) (by omega)) h73
  | succ q ih =>
    intro k hk v hL hF hkv
    obtain ⟨v1, v2⟩ := mTold_inv (d := d) hS hRD.2.1 (by omega) k (by omega)
    have hn := v1.1.le
    have hc9 := hRD.2.1.2.1
    obtain ⟨a, b2, dd, g0, h1, h2, h3, h4, h5, h6, h7, h8, h9, h10⟩ := (hRD.2.1.keep v2).2.2 k (by omega)
    obtain ⟨e7, e8, e9, e10⟩ := (hRD.2.2.1.keep hkv.k2 v2).2 k (by omega)
    refine b_iload dX4_pass_64 rfl ?_
    refine b_aload_n dX4_pass_66 rfl ?_
    refine b_getr dX4_pass_67 gf_X4_35 rfl rfl ?_
    refine b_geti dX4_pass_70 gf_X4_56 rfl rfl ?_
    refine b_topi (y := nI c) ((congrFun (hkv.1 6 (by decide)) 0).trans hRD.2.2.1.1) ?_
    refine b_icmp_ge (tgt := 121) dX4_pass_73 (by decide) (fun h73 => ?_) (fun h73 => ?_)
    · exact absurd h73 (nI_ge (by omega) (by omega))
    · refine b_aload_n dX4_pass_76 rfl ?_
      refine b_geti dX4_pass_77 gf_X4_45 rfl rfl ?_
      refine b_topi (y := w.1 15 7) (hkv.2.1 7 (by decide) (by decide)) ?_
      refine b_iload dX4_pass_80 rfl ?_
      refine b_callSN2 dX4_pass_82 lk_X4_59 ⟨Nat.le_of_ble_eq_true rfl, Nat.le_of_ble_eq_true rfl⟩ (Nat.le_of_ble_eq_true rfl) (s_X7_in (by omega)) (fun r w82 h82 => ?_)
      obtain ⟨rfl, h82⟩ := h82
      rcases h82 with ⟨rfl, h82⟩ | ⟨rfl, h82⟩
      · refine b_if_eq (tgt := 115) dX4_pass_85 (by decide) (fun h85 => absurd h85 (by decide)) (fun h85 => ?_)
        refine b_aload_n dX4_pass_88 rfl ?_
        refine b_getr dX4_pass_89 gf_X4_35 rfl rfl ?_
        refine b_getr dX4_pass_92 gf_X4_63 rfl rfl ?_
        refine b_iload dX4_pass_95 rfl ?_
        refine b_ialdN dX4_pass_97 rfl ⟨by omega, by decide⟩ ?_
        refine b_topi (y := (mTold g d k).1 13 k) e9 ?_
        refine b_iload_n dX4_pass_98 rfl ?_
        refine b_iconst (v := 1) dX4_pass_99 (by decide) ?_
        refine b_isub dX4_pass_100 ?_
        refine b_icmp_ne (tgt := 115) dX4_pass_101 (by decide) (fun h101 => ?_) (fun h101 => ?_)
        · refine b_iinc dX4_pass_115 rfl (nI_inc k) (by decide) ?_
          refine b_goto (tgt := 64) dX4_pass_118 (by decide) ?_
          refine b_sub [1, 2, 3, 0] rfl ?_
          rw [mTold_no (fun h => h101 h.1)] at hL hF
          exact ih (k + 1) (by omega) v hL hF hkv
        · refine b_aload_n dX4_pass_104 rfl ?_
          refine b_aload_n dX4_pass_105 rfl ?_
          refine b_getr dX4_pass_106 gf_X4_35 rfl rfl ?_
          refine b_iload dX4_pass_109 rfl ?_
          refine b_iload_n dX4_pass_111 rfl ?_
          refine b_callV3 dX4_pass_112 lk_X4_86 rfl rfl rfl ⟨Nat.le_of_ble_eq_true rfl, Nat.le_of_ble_eq_true rfl⟩ (Nat.le_of_ble_eq_true rfl) (s_X4_answer_6 (i := a) (j := b2) ((hRD.1.keep hkv v2)) v1 (by omega) hL hF (by omega) h1 h2 (e7.trans h7) (e8.trans h8)) (fun r w112 h112 => ?_)
          obtain ⟨rfl, q1, q2, q3⟩ := h112
          rw [e10, mTold_yes h101 ((hRD.2.2.2.1.1 k (by omega)).mp h82 |> fun z => by rw [v2.2.1 20 (by decide) (by decide) (by decide)]; exact z) h7 h8 (by omega) (by omega)] at q1 q2
          refine b_iinc dX4_pass_115 rfl (nI_inc k) (by decide) ?_
          refine b_goto (tgt := 64) dX4_pass_118 (by decide) ?_
          refine b_sub [1, 2, 3, 0] rfl ?_
          exact ih (k + 1) (by omega) w112 q1 q2 (hkv.tr q3)
      · refine b_if_eq (tgt := 115) dX4_pass_85 (by decide) (fun h85 => ?_) (fun h85 => absurd h85 (by decide))
        refine b_iinc dX4_pass_115 rfl (nI_inc k) (by decide) ?_
        refine b_goto (tgt := 64) dX4_pass_118 (by decide) ?_
        refine b_sub [1, 2, 3, 0] rfl ?_
        rw [mTold_no (fun h => h82 ((hRD.2.2.2.1.1 k (by omega)).mpr (by rw [← v2.2.1 20 (by decide) (by decide) (by decide)]; exact h.2)))] at hL hF
        exact ih (k + 1) (by omega) v hL hF hkv
set_option maxRecDepth 100000 in
set_option maxHeartbeats 4000000 in
theorem s_X4_pass_44 {w g : kW} {n c d : Nat} (hRD : RD n c d w g) (hd : d < 60) (b : Int32) : BS shC RX4 cX4_pass 5 none 3 81 (fun r w' => r = none ∧ RD n c (d + 1) w' (mDawn c g d) ∧ cK2 w w') 44 [(0, .ref 15), (1, .int (nI d)), (2, .int b)] [] w := by
  obtain ⟨m0, hm0, hS⟩ := hRD.2.2.2.2.1.start
  have hRD0 := hRD
  obtain ⟨h1, h2, h3, h4, h5, h6, q0, t, hq, hqt, ht200, hg, hold, hnew⟩ := hRD0
  obtain ⟨tt, tt1, tt2⟩ := h5.t (by omega)
  have ett := nI_inj (by omega) (by omega) (tt2.symm.trans hg)
  subst ett
  obtain ⟨m9, t9, z1, z2, z3, z4, z5, z6, z7, z8⟩ := id h6
  refine b_aload_n dX4_pass_44 rfl ?_
  refine b_getr dX4_pass_45 gf_X4_23 rfl rfl ?_
  refine b_geti dX4_pass_48 gf_X4_56 rfl rfl ?_
  refine b_topi (y := nI tt) (z6.trans (z5.symm.trans hg)) ?_
  refine b_istore_n dX4_pass_51 (by decide) ?_
  refine b_aload_n dX4_pass_52 rfl ?_
  refine b_aload_n dX4_pass_53 rfl ?_
  refine b_iload_n dX4_pass_54 rfl ?_
  refine b_callV1 dX4_pass_55 lk_X4_79 rfl rfl rfl ⟨Nat.le_of_ble_eq_true rfl, Nat.le_of_ble_eq_true rfl⟩ (Nat.le_of_ble_eq_true rfl) (s_X4_freeAhead (n := n) h1.2.1 h1.1.le) (fun r w55 h55 => ?_)
  obtain ⟨rfl, s, rfl, hs⟩ := h55
  refine b_puti dX4_pass_58 gf_X4_83 gs_X4_10 rfl rfl ?_
  refine b_iconst (v := 0) dX4_pass_61 (by decide) ?_
  refine b_istore dX4_pass_62 (by decide) ?_
  refine b_sub [2, 3, 1, 0] rfl ?_
  have hk1 : cKeep w (kset w 15 10 s) := cKeep.rf.num (by decide)
  have hRD1 : RD n c d (kset w 15 10 s) g := ⟨h1.keep hk1 sKeep.rf, h2, h3.keep hk1.k2 sKeep.rf, h4.keep hk1 sKeep.rf, h5, h6.k (by decide), q0, tt, hq, hqt, ht200, hg, hold, hnew⟩
  have hF1 : RF n (nI d) (kset w 15 10 s) (kset g 0 22 0) := by
    intro p hp
    have hsp := hs p hp
    rw [kset_eq, hsp]
    unfold mFree
    rw [kset_eq, b_0]
    constructor
    · rintro ⟨a1, a2, a3⟩
      exact ⟨a1, (h4.2.1 p a1).mp a2, by show g.1 15 p ≤ nI d; rw [← z7.2.2 p a1]; exact a3, rfl⟩
    · rintro ⟨a1, a2, a3, -⟩
      exact ⟨a1, (h4.2.1 p a1).mpr a2, by rw [z7.2.2 p a1]; exact a3⟩
  refine (s_X4_pass_l1 hRD1 hd hS hm0 hg (by omega) hqt hq hold hnew c 0 (by omega) _ (h6.k (by decide)).z hF1 cKeep.rf).mono (fun r w' h => ⟨h.1, h.2.1, hk1.k2.tr h.2.2⟩)
set_option maxRecDepth 100000 in
set_option maxHeartbeats 4000000 in
theorem s_X4_pass {w g : kW} {n c d : Nat} (hRD : RD n c d w g) (hd : d < 60) : Spec shC yX4_pass cX4_pass 5 none 3 81 [.ref 15, .int (nI d)] w (fun r w' => r = none ∧ RD n c (d + 1) w' (mDawn c g d) ∧ cK2 w w') := by
  refine k_enter pn_X4 (Nat.le_of_ble_eq_true rfl) ?_
  refine b_iload_n dX4_pass_0 rfl ?_
  refine b_if_le (tgt := 23) dX4_pass_1 (by decide) (fun h1 => ?_) (fun h1 => ?_)
  · refine b_iconst (v := 0) dX4_pass_23 (by decide) ?_
    refine b_istore_n dX4_pass_24 (by decide) ?_
    refine b_iload_n dX4_pass_25 rfl ?_
    refine b_if_ne (tgt := 44) dX4_pass_26 (by decide) (fun h26 => absurd h26 (by decide)) (fun h26 => ?_)
    refine b_aload_n dX4_pass_29 rfl ?_
    refine b_geti dX4_pass_30 gf_X4_67 rfl rfl ?_
    refine b_aload_n dX4_pass_33 rfl ?_
    refine b_getr dX4_pass_34 gf_X4_23 rfl rfl ?_
    refine b_geti dX4_pass_37 gf_X4_56 rfl rfl ?_
    refine b_icmp_ne (tgt := 44) dX4_pass_40 (by decide) (fun h40 => ?_) (fun h40 => ?_)
    · refine b_sub [1, 2, 0] rfl ?_
      exact s_X4_pass_44 hRD hd _
    · obtain ⟨-, -, -, -, h5, h6, q0, t, hq, hqt, ht200, hg, -, -⟩ := id hRD
      obtain ⟨m9, t9, z1, z2, z3, z4, z5, z6, z7, z8⟩ := h6
      have e1 := nI_inj (by omega) (by omega) ((hq.symm.trans h40).trans (z6.trans (z5.symm.trans hg)))
      exact b_vret dX4_pass_43 rfl ⟨rfl, skip_rel hRD hd hq hg (by omega) ht200 e1 (RMno0 hRD.2.1 h1 hd), fun _ _ => rfl⟩
  · refine b_aload_n dX4_pass_4 rfl ?_
    refine b_getl dX4_pass_5 gf_X4_52 rfl rfl ?_
    refine b_iload_n dX4_pass_8 rfl ?_
    refine b_iconst (v := 1) dX4_pass_9 (by decide) ?_
    refine b_isub dX4_pass_10 ?_
    obtain ⟨d1, rfl⟩ : ∃ d1, d = d1 + 1 := ⟨d - 1, by rcases Nat.eq_zero_or_pos d with e | e <;> first | omega | (subst e; exact absurd (by decide) h1)⟩
    refine b_topi (y := nI d1) nI_predS ?_
    refine b_lshr dX4_pass_11 ?_
    refine b_lconst (v := 1) dX4_pass_12 (by decide) ?_
    refine b_land dX4_pass_13 ?_
    refine b_lconst (v := 1) dX4_pass_14 (by decide) ?_
    refine b_lcmp dX4_pass_15 ?_
    refine b_if_ne (tgt := 23) dX4_pass_16 (by decide) (fun h16 => ?_) (fun h16 => ?_)
    · refine b_iconst (v := 0) dX4_pass_23 (by decide) ?_
      refine b_istore_n dX4_pass_24 (by decide) ?_
      refine b_iload_n dX4_pass_25 rfl ?_
      refine b_if_ne (tgt := 44) dX4_pass_26 (by decide) (fun h26 => absurd h26 (by decide)) (fun h26 => ?_)
      refine b_aload_n dX4_pass_29 rfl ?_
      refine b_geti dX4_pass_30 gf_X4_67 rfl rfl ?_
      refine b_aload_n dX4_pass_33 rfl ?_
      refine b_getr dX4_pass_34 gf_X4_23 rfl rfl ?_
      refine b_geti dX4_pass_37 gf_X4_56 rfl rfl ?_
      refine b_icmp_ne (tgt := 44) dX4_pass_40 (by decide) (fun h40 => ?_) (fun h40 => ?_)
      · refine b_sub [1, 2, 0] rfl ?_
        exact s_X4_pass_44 hRD hd _
      · obtain ⟨-, -, -, -, h5, h6, q0, t, hq, hqt, ht200, hg, -, -⟩ := id hRD
        obtain ⟨m9, t9, z1, z2, z3, z4, z5, z6, z7, z8⟩ := h6
        have e1 := nI_inj (by omega) (by omega) ((hq.symm.trans h40).trans (z6.trans (z5.symm.trans hg)))
        exact b_vret dX4_pass_43 rfl ⟨rfl, skip_rel hRD hd hq hg (by omega) ht200 e1 (RMno (w := w) hRD.2.1 hRD.2.2.1 hRD.2.2.2.1 (by omega) (fun hb => h16 (lg_cmp0.mpr ((btL_test _ (by omega)).mpr hb)))), fun _ _ => rfl⟩
    · refine b_iconst (v := 1) dX4_pass_19 (by decide) ?_
      refine b_goto (tgt := 24) dX4_pass_20 (by decide) ?_
      refine b_istore_n dX4_pass_24 (by decide) ?_
      refine b_iload_n dX4_pass_25 rfl ?_
      refine b_if_ne (tgt := 44) dX4_pass_26 (by decide) (fun h26 => ?_) (fun h26 => absurd h26 (by decide))
      refine b_sub [1, 2, 0] rfl ?_
      exact s_X4_pass_44 hRD hd _
