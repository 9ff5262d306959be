/-- t takings in w, t' in v, the first t as they were -/
def TkExt (t t' : Nat) (w v : kW) : Prop := t ≤ t' ∧ v.1 0 23 = nI t' ∧ ∀ k, k < t → v.1 16 k = w.1 16 k ∧ v.1 17 k = w.1 17 k ∧ v.1 18 k = w.1 18 k ∧ v.1 19 k = w.1 19 k
theorem TkExt.rf {t : Nat} {w : kW} (h : w.1 0 23 = nI t) : TkExt t t w w := ⟨Nat.le_refl _, h, fun _ _ => ⟨rfl, rfl, rfl, rfl⟩⟩
theorem TkExt.tr {t t' t'' : Nat} {w v u : kW} (h1 : TkExt t t' w v) (h2 : TkExt t' t'' v u) : TkExt t t'' w u := ⟨Nat.le_trans h1.1 h2.1, h2.2.1, fun k hk => by
  obtain ⟨a1, a2, a3, a4⟩ := h1.2.2 k hk
  obtain ⟨b1, b2, b3, b4⟩ := h2.2.2 k (Nat.lt_of_lt_of_le hk h1.1)
  exact ⟨b1.trans a1, b2.trans a2, b3.trans a3, b4.trans a4⟩⟩
theorem mHurtF_ext {w : kW} {t hu y : Nat} {dawn : Int32} (ht : w.1 0 23 = nI t) (ht2 : t < 200) : ∃ t', t' ≤ t + 1 ∧ TkExt t t' w (mHurtF w hu y dawn) := by
  simp only [mHurtF]
  split
  · exact ⟨t, by omega, Nat.le_refl _, ht, fun k hk => ⟨rfl, rfl, rfl, rfl⟩⟩
  · refine ⟨t + 1, Nat.le_refl _, by omega, by rw [kset_eq, ht, nI_1], fun k hk => ?_⟩
    rw [cl_of ht (by omega)]
    have e : ¬ k = t := by omega
    exact ⟨by simp [kset_1, e], by simp [kset_1, e], by simp [kset_1, e], by simp [kset_1, e]⟩
theorem TkExt.row {t t' c k : Nat} {x : Int32} {w v : kW} (h : TkExt t t' w v) (hc : c = 0 ∧ k ≠ 23 ∨ 20 ≤ c) : TkExt t t' w (kset v c k x) := by
  refine ⟨h.1, by rw [kset_ne _ _ (by omega)]; exact h.2.1, fun j hj => ?_⟩
  rw [kset_ne _ _ (by omega), kset_ne _ _ (by omega), kset_ne _ _ (by omega), kset_ne _ _ (by omega)]
  exact h.2.2 j hj
theorem mMeet_ext {w : kW} {t a b : Nat} {x y dawn : Int32} (ht : w.1 0 23 = nI t) (ht2 : t < 200) : ∃ t', t' ≤ t + 1 ∧ TkExt t t' w (mMeet w a b x y dawn) := by
  have h0 : TkExt t t w (mMeet0 w a b x y dawn) := by
    simp only [mMeet0]
    exact (((((((TkExt.rf ht).row (by omega)).row (by omega)).row (by omega)).row (by omega)).row (by omega)).row (by omega)).row (by omega)
  simp only [mMeet]
  split
  · exact ⟨t, by omega, h0.row (by omega)⟩
  · split
    · obtain ⟨t', h1, h2⟩ := mHurtF_ext (hu := b) (y := a) (dawn := dawn) h0.2.1 ht2
      exact ⟨t', h1, ((h0.tr h2).row (by omega)).row (by omega)⟩
    · obtain ⟨t', h1, h2⟩ := mHurtF_ext (hu := a) (y := b) (dawn := dawn) h0.2.1 ht2
      exact ⟨t', h1, ((h0.tr h2).row (by omega)).row (by omega)⟩
theorem mAnswer_ext {w : kW} {t i j : Nat} {deg dawn : Int32} (ht : w.1 0 23 = nI t) (ht2 : t < 200) : ∃ t', t' ≤ t + 1 ∧ TkExt t t' w (mAnswer w i j deg dawn) := by
  simp only [mAnswer]
  split
  · split
    · exact ⟨t, by omega, TkExt.rf ht⟩
    · split
      · exact ⟨t, by omega, TkExt.rf ht⟩
      · exact mMeet_ext ht ht2
  · exact ⟨t, by omega, TkExt.rf ht⟩
theorem SInv.t {w : kW} {n m0 : Nat} (h : SInv n m0 w) (hm0 : m0 ≤ 177) : ∃ t, w.1 0 23 = nI t ∧ t < 200 := by
  obtain ⟨m, t, h1, h2, h3, h4, h5⟩ := mTk_t h hm0
  exact ⟨t, h3, h4⟩
theorem mAnswer_ext2 {w : kW} {n m0 t i j : Nat} {deg dawn : Int32} (h : SInv n m0 w) (hm0 : m0 ≤ 177) (hi : i < n) (hj : j < n) (ht : w.1 0 23 = nI t) (ht2 : t < 200) : ∃ t', t' < 200 ∧ TkExt t t' w (mAnswer w i j deg dawn) := by
  obtain ⟨t', h1, h2⟩ := mAnswer_ext (i := i) (j := j) (deg := deg) (dawn := dawn) ht ht2
  obtain ⟨t2, e1, e2⟩ := (mAnswer_inv (deg := deg) (dawn := dawn) h hm0 hi hj).t hm0
  have e3 := nI_inj (by omega) (by omega) (e1.symm.trans h2.2.1)
  subst e3
  exact ⟨t2, e2, h2⟩
theorem mTold_ext {w : kW} {n c m0 d t : Nat} (h : SInv n m0 (kset w 0 22 0)) (hI : Ins n c w) (hm0 : m0 ≤ 177) (ht : w.1 0 23 = nI t) (ht2 : t < 200) : ∀ k, k ≤ c → ∃ t', t' < 200 ∧ TkExt t t' w (mTold w d k) := by
  intro k
  induction k with
  | zero => intro _; exact ⟨t, ht2, (TkExt.rf ht).row (by omega)⟩
  | succ k ih =>
    intro hk
    obtain ⟨t', g1, g2⟩ := ih (by omega)
    obtain ⟨v1, v2⟩ := mTold_inv (d := d) h hI hm0 k (by omega)
    simp only [mTold]
    split
    · obtain ⟨a, b, dd, g, h1, h2, h3, h4, h5, h6, h7, h8, h9, h10⟩ := (hI.keep v2).2.2 k (by omega)
      have hn := v1.1.le
      rw [cl_of h7 (by omega), cl_of h8 (by omega)]
      obtain ⟨t'', e1, e2⟩ := mAnswer_ext2 (deg := (mTold w d k).1 14 k) (dawn := nI d) v1 hm0 h1 h2 g2.2.1 g1
      exact ⟨t'', e1, g2.tr e2⟩
    · exact ⟨t', g1, g2⟩
theorem mTk_inv {w : kW} {n m0 d t b : Nat} (h : SInv n m0 w) (hm0 : m0 ≤ 177) (ht : w.1 0 23 = nI t) (ht2 : t < 200) (hb : b ≤ t) : ∀ k, k ≤ b → SInv n m0 (mTk w d k) ∧ sKeep w (mTk w d k) ∧ ∃ t', t' < 200 ∧ TkExt t t' w (mTk w d k) := by
  intro k
  induction k with
  | zero => intro _; exact ⟨h, sKeep.rf, t, ht2, TkExt.rf ht⟩
  | succ k ih =>
    intro hk
    obtain ⟨v1, v2, t', g1, g2⟩ := ih (by omega)
    simp only [mTk]
    split
    · obtain ⟨hP, m, t2, c1, c2, c3, c4, c5⟩ := id h
      have e3 := nI_inj (by have := bs6_le (w.1 0 22); omega) (by omega) (c2.symm.trans ht)
      subst e3
      obtain ⟨a, b', h1, h2, h3, h4⟩ := c5 k (by omega)
      obtain ⟨r1, r2, r3, r4⟩ := g2.2.2 k (by omega)
      have hn := v1.1.le
      rw [cl_of (r1.trans h3) (by omega), cl_of (r2.trans h4) (by omega)]
      obtain ⟨t'', e1, e2⟩ := mAnswer_ext2 (deg := (mTk w d k).1 18 k) (dawn := nI d) v1 hm0 h1 h2 g2.2.1 g1
      exact ⟨mAnswer_inv v1 hm0 h1 h2, v2.tr (mAnswer_keep ..), t'', e1, g2.tr e2⟩
    · exact ⟨v1, v2, t', g1, g2⟩
/-- between two dawns: at most M meetings -/
def DInv (n M : Nat) (w : kW) : Prop := Pn n w ∧ ∃ m t, w.1 0 28 = nI m ∧ m ≤ M ∧ w.1 0 23 = nI t ∧ t ≤ m ∧ TkOk n t w
theorem DInv.start {w : kW} {n M : Nat} (h : DInv n M w) : ∃ m, m ≤ M ∧ SInv n m (kset w 0 22 0) := by
  obtain ⟨hP, m, t, h1, h2, h3, h4, h5⟩ := h
  exact ⟨m, h2, hP.keep (sKeep.rf.num (by decide)), m, t, h1, h3, h4, by rw [kset_eq, bs6_0, Nat.add_zero], h5.of rfl rfl⟩
theorem DInv.t {w : kW} {n M : Nat} (h : DInv n M w) (hM : M ≤ 177) : ∃ t, t < 178 ∧ w.1 0 23 = nI t := by
  obtain ⟨hP, m, t, h1, h2, h3, h4, h5⟩ := h
  exact ⟨t, by omega, h3⟩
theorem SInv.stop {w : kW} {n m0 : Nat} (h : SInv n m0 w) : DInv n (m0 + 3) w := by
  obtain ⟨hP, m, t, h1, h2, h3, h4, h5⟩ := h
  have := bs6_le (w.1 0 22)
  exact ⟨hP, m, t, h1, by omega, h2, h3, h5⟩
theorem DInv.mono {w : kW} {n M M' : Nat} (h : DInv n M w) (hm : M ≤ M') : DInv n M' w := by
  obtain ⟨hP, m, t, h1, h2, h3, h4, h5⟩ := h
  exact ⟨hP, m, t, h1, by omega, h3, h4, h5⟩
theorem mDawn_inv {w : kW} {n c M d : Nat} (h : DInv n M w) (hM : M ≤ 177) (hI : Ins n c w) : DInv n (M + 3) (mDawn c w d) ∧ sKeep w (mDawn c w d) := by
  obtain ⟨m0, hm0, hS⟩ := h.start
  obtain ⟨b, hb, eb⟩ := h.t hM
  obtain ⟨g1, g2⟩ := mTold_inv (d := d) hS hI (by omega) c (Nat.le_refl _)
  obtain ⟨t', e1, e2⟩ := mTold_ext (d := d) hS hI (by omega) eb (by omega) c (Nat.le_refl _)
  obtain ⟨f1, f2, f3⟩ := mTk_inv (d := d) g1 (by omega) e2.2.1 e1 e2.1 b (Nat.le_refl _)
  unfold mDawn
  rw [cl_of eb (by omega)]
  exact ⟨f1.stop.mono (by omega), g2.tr f2⟩
theorem mZero_keep (w : kW) (k : Nat) : sKeep w (mZero w k) := by
  induction k with
  | zero => exact (sKeep.rf.num (by decide)).num (by decide)
  | succ k ih => exact ih.row (by decide)
theorem mZero_23 (w : kW) (k : Nat) : (mZero w k).1 0 23 = 0 ∧ (mZero w k).1 0 28 = 0 := by
  induction k with
  | zero => exact ⟨rfl, rfl⟩
  | succ k ih => exact ih
theorem mBegin_inv {w : kW} {n : Nat} (h : Pn n w) : DInv n 0 (mBegin n w) ∧ sKeep w (mBegin n w) := by
  have hk : sKeep w (mBegin n w) := (mZero_keep w n).num (by decide)
  exact ⟨⟨h.keep hk, 0, 0, (mZero_23 w n).2, Nat.le_refl _, (mZero_23 w n).1, Nat.le_refl _, fun k hk => absurd hk (Nat.not_lt_zero _)⟩, hk⟩
theorem mAhead_inv {w : kW} {n c : Nat} (h : Pn n w) (hI : Ins n c w) : ∀ d, d ≤ 60 → DInv n (3 * d) (mAhead n c w d) ∧ sKeep w (mAhead n c w d) := by
  intro d
  induction d with
  | zero => intro _; exact mBegin_inv h
  | succ d ih =>
    intro hd
    obtain ⟨g1, g2⟩ := ih (by omega)
    obtain ⟨f1, f2⟩ := mDawn_inv (d := d) g1 (by omega) (hI.keep g2)
    exact ⟨f1, g2.tr f2⟩
theorem mGo_keep {w : kW} {n c d : Nat} (h : Pn n w) (hI : Ins n c w) (hd : d ≤ 60) : sKeep w (mGo n c w d) := (mAhead_inv h hI d hd).2.num (by decide)
theorem mGo_inv {w : kW} {n c d : Nat} (h : Pn n w) (hI : Ins n c w) (hd : d ≤ 60) : DInv n (3 * d) (mGo n c w d) := by
  obtain ⟨⟨hP, m, t, h1, h2, h3, h4, h5⟩, hk⟩ := mAhead_inv h hI d hd
  exact ⟨hP.keep (sKeep.rf.num (by decide)), m, t, h1, h2, h3, h4, h5.of rfl rfl⟩
theorem mTold_yes {w : kW} {d k a b : Nat} (h1 : (mTold w d k).1 13 k = nI d - 1) (h2 : bt ((mTold w d k).1 0 20) k = false) (ha : (mTold w d k).1 11 k = nI a) (hb : (mTold w d k).1 12 k = nI b) (ha2 : a < 6) (hb2 : b < 6) : mAnswer (mTold w d k) a b ((mTold w d k).1 14 k) (nI d) = mTold w d (k + 1) := by
  simp only [mTold]
  rw [if_pos ⟨h1, h2⟩, cl_of ha (by omega), cl_of hb (by omega)]
theorem mTold_no {w : kW} {d k : Nat} (h : ¬ ((mTold w d k).1 13 k = nI d - 1 ∧ bt ((mTold w d k).1 0 20) k = false)) : mTold w d k = mTold w d (k + 1) := by
  simp only [mTold]
  rw [if_neg h]
theorem mTk_yes {w : kW} {d k a b : Nat} (h1 : (mTk w d k).1 19 k = nI d - 1) (ha : (mTk w d k).1 16 k = nI a) (hb : (mTk w d k).1 17 k = nI b) (ha2 : a < 6) (hb2 : b < 6) : mAnswer (mTk w d k) a b ((mTk w d k).1 18 k) (nI d) = mTk w d (k + 1) := by
  simp only [mTk]
  rw [if_pos h1, cl_of ha (by omega), cl_of hb (by omega)]
theorem mTk_no {w : kW} {d k : Nat} (h : ¬ (mTk w d k).1 19 k = nI d - 1) : mTk w d k = mTk w d (k + 1) := by
  simp only [mTk]
  rw [if_neg h]

set_option maxRecDepth 100000 in
set_option maxHeartbeats 4000000 in
theorem s_X8_goDawn_l2 {w u : kW} {n c m0 d b t : Nat} (hS : SInv n m0 u) (hm0 : m0 ≤ 177) (ht : u.1 0 23 = nI t) (ht2 : t < 200) (hb : b ≤ t) (he : mTk u d b = mDawn c w d) (hd : d < 60) : ∀ q k, k + q = b → BS shM RX8 cX8_goDawn 4 none 4 101 (fun r w' => r = none ∧ mDawn c w d = w') 74 [(0, .ref 0), (1, .int (nI d)), (2, .int (nI b)), (3, .int (nI k))] [] (mTk u d k) := by
  intro q
  have hn := hS.1.le
  induction q with
  | zero =>
    intro k hk
    refine b_iload_n dX8_goDawn_74 rfl ?_
    refine b_iload_n dX8_goDawn_75 rfl ?_
    refine b_icmp_ge (tgt := 120) dX8_goDawn_76 (by decide) (fun h76 => ?_) (fun h76 => ?_)
    · refine b_vret dX8_goDawn_120 rfl ⟨rfl, ?_⟩
      (have e : k = b := by omega); subst e; exact he.symm
    · exact absurd (nI_le (by omega) (by omega)) h76
  | succ q ih =>
    intro k hk
    obtain ⟨v1, v2, t2, g1, g2⟩ := mTk_inv (d := d) hS hm0 ht ht2 hb k (by omega)
    obtain ⟨m, t3, g5, g6, g7, g8, g9⟩ := mTk_t v1 hm0
    obtain ⟨hP, mm, t4, c1, c2, c3, c4, c5⟩ := id hS
    have e3 := nI_inj (by have := bs6_le (u.1 0 22); omega) (by omega) (c2.symm.trans ht)
    subst e3
    obtain ⟨a, b2, h1, h2, h3, h4⟩ := c5 k (by omega)
    obtain ⟨r1, r2, r3, r4⟩ := g2.2.2 k (by omega)
    refine b_iload_n dX8_goDawn_74 rfl ?_
    refine b_iload_n dX8_goDawn_75 rfl ?_
    refine b_icmp_ge (tgt := 120) dX8_goDawn_76 (by decide) (fun h76 => ?_) (fun h76 => ?_)
    · exact absurd h76 (nI_ge (by omega) (by omega))
    · refine b_aload_n dX8_goDawn_79 rfl ?_
      refine b_getr dX8_goDawn_80 gf_X8_65 rfl rfl ?_
      refine b_iload_n dX8_goDawn_83 rfl ?_
      refine b_ialdN dX8_goDawn_84 rfl ⟨by omega, by decide⟩ ?_
      refine b_iload_n dX8_goDawn_85 rfl ?_
      refine b_iconst (v := 1) dX8_goDawn_86 (by decide) ?_
      refine b_isub dX8_goDawn_87 ?_
      refine b_icmp_ne (tgt := 114) dX8_goDawn_88 (by decide) (fun h88 => ?_) (fun h88 => ?_)
      · refine b_iinc dX8_goDawn_114 rfl (nI_inc k) (by decide) ?_
        refine b_goto (tgt := 74) dX8_goDawn_117 (by decide) ?_
        refine b_sub [1, 2, 3, 0] rfl ?_
        refine b_wd (mTk_no h88) (ih (k + 1) (by omega))
      · refine b_aload_n dX8_goDawn_91 rfl ?_
        refine b_aload_n dX8_goDawn_92 rfl ?_
        refine b_getr dX8_goDawn_93 gf_X8_56 rfl rfl ?_
        refine b_iload_n dX8_goDawn_96 rfl ?_
        refine b_ialdN dX8_goDawn_97 rfl ⟨by omega, by decide⟩ ?_
        refine b_topi (y := nI a) (r1.trans h3) ?_
        refine b_aload_n dX8_goDawn_98 rfl ?_
        refine b_getr dX8_goDawn_99 gf_X8_59 rfl rfl ?_
        refine b_iload_n dX8_goDawn_102 rfl ?_
        refine b_ialdN dX8_goDawn_103 rfl ⟨by omega, by decide⟩ ?_
        refine b_topi (y := nI b2) (r2.trans h4) ?_
        refine b_aload_n dX8_goDawn_104 rfl ?_
        refine b_getr dX8_goDawn_105 gf_X8_62 rfl rfl ?_
        refine b_iload_n dX8_goDawn_108 rfl ?_
        refine b_ialdN dX8_goDawn_109 rfl ⟨by omega, by decide⟩ ?_
        refine b_iload_n dX8_goDawn_110 rfl ?_
        refine b_callV4 dX8_goDawn_111 lk_X8_184 rfl rfl rfl ⟨Nat.le_of_ble_eq_true rfl, Nat.le_of_ble_eq_true rfl⟩ (Nat.le_of_ble_eq_true rfl) (s_X8_answer v1.1 h1 h2 g5 g6 g2.2.1 g1) (fun r w111 h111 => ?_)
        obtain ⟨rfl, rfl⟩ := h111
        refine b_iinc dX8_goDawn_114 rfl (nI_inc k) (by decide) ?_
        refine b_goto (tgt := 74) dX8_goDawn_117 (by decide) ?_
        refine b_sub [1, 2, 3, 0] rfl ?_
        refine b_wd (mTk_yes h88 (r1.trans h3) (r2.trans h4) (by omega) (by omega)) (ih (k + 1) (by omega))

set_option maxRecDepth 100000 in
set_option maxHeartbeats 4000000 in
theorem s_X8_goDawn_l1 {w : kW} {n c m0 d b : Nat} (hS : SInv n m0 (kset w 0 22 0)) (hI : Ins n c w) (hm0 : m0 ≤ 177) (eb : w.1 0 23 = nI b) (hb : b < 200) (hd : d < 60) : ∀ q k, k + q = c → BS shM RX8 cX8_goDawn 4 none 4 101 (fun r w' => r = none ∧ mDawn c w d = w') 12 [(0, .ref 0), (1, .int (nI d)), (2, .int (nI b)), (3, .int (nI k))] [] (mTold w d k) := by
  intro q
  induction q with
  | zero =>
    intro k hk
    obtain ⟨v1, v2⟩ := mTold_inv (d := d) hS hI hm0 k (by omega)
    have hn := v1.1.le
    have hc := hI.2.1
    refine b_iload_n dX8_goDawn_12 rfl ?_
    refine b_aload_n dX8_goDawn_13 rfl ?_
    refine b_geti dX8_goDawn_14 gf_X8_132 rfl rfl ?_
    refine b_topi (y := nI c) (hI.keep v2).1 ?_
    refine b_icmp_ge (tgt := 72) dX8_goDawn_17 (by decide) (fun h17 => ?_) (fun h17 => ?_)
    · refine b_iconst (v := 0) dX8_goDawn_72 (by decide) ?_
      refine b_istore_n dX8_goDawn_73 (by decide) ?_
      refine b_sub [1, 2, 3, 0] rfl ?_
      have e : k = c := by omega
      subst e
      obtain ⟨t2, q1, q2⟩ := mTold_ext (d := d) hS hI hm0 eb hb k (Nat.le_refl _)
      exact s_X8_goDawn_l2 v1 hm0 q2.2.1 q1 q2.1 (by unfold mDawn; rw [cl_of eb (by omega)]) hd b 0 (by omega)
    · exact absurd (nI_le (by omega) (by omega)) h17
  | succ q ih =>
    intro k hk
    obtain ⟨v1, v2⟩ := mTold_inv (d := d) hS hI hm0 k (by omega)
    have hn := v1.1.le
    have hc := hI.2.1
    obtain ⟨m, t3, g5, g6, g7, g8, g9⟩ := mTk_t v1 hm0
    obtain ⟨a, b2, dd, g, h1, h2, h3, h4, h5, h6, h7, h8, h9, h10⟩ := (hI.keep v2).2.2 k (by omega)
    refine b_iload_n dX8_goDawn_12 rfl ?_
    refine b_aload_n dX8_goDawn_13 rfl ?_
    refine b_geti dX8_goDawn_14 gf_X8_132 rfl rfl ?_
    refine b_topi (y := nI c) (hI.keep v2).1 ?_
    refine b_icmp_ge (tgt := 72) dX8_goDawn_17 (by decide) (fun h17 => ?_) (fun h17 => ?_)
    · exact absurd h17 (nI_ge (by omega) (by omega))
    · refine b_aload_n dX8_goDawn_20 rfl ?_
      refine b_getr dX8_goDawn_21 gf_X8_47 rfl rfl ?_
      refine b_iload_n dX8_goDawn_24 rfl ?_
      refine b_ialdN dX8_goDawn_25 rfl ⟨by omega, by decide⟩ ?_
      refine b_iload_n dX8_goDawn_26 rfl ?_
      refine b_iconst (v := 1) dX8_goDawn_27 (by decide) ?_
      refine b_isub dX8_goDawn_28 ?_
      refine b_icmp_ne (tgt := 66) dX8_goDawn_29 (by decide) (fun h29 => ?_) (fun h29 => ?_)
      · refine b_iinc dX8_goDawn_66 rfl (nI_inc k) (by decide) ?_
        refine b_goto (tgt := 12) dX8_goDawn_69 (by decide) ?_
        refine b_sub [1, 2, 3, 0] rfl ?_
        refine b_wd (mTold_no (fun h => h29 h.1)) (ih (k + 1) (by omega))
      · refine b_aload_n dX8_goDawn_32 rfl ?_
        refine b_geti dX8_goDawn_33 gf_X8_181 rfl rfl ?_
        refine b_iload_n dX8_goDawn_36 rfl ?_
        refine b_ishr dX8_goDawn_37 ?_
        refine b_iconst (v := 1) dX8_goDawn_38 (by decide) ?_
        refine b_iand dX8_goDawn_39 ?_
        refine b_if_ne (tgt := 66) dX8_goDawn_40 (by decide) (fun h40 => ?_) (fun h40 => ?_)
        · refine b_iinc dX8_goDawn_66 rfl (nI_inc k) (by decide) ?_
          refine b_goto (tgt := 12) dX8_goDawn_69 (by decide) ?_
          refine b_sub [1, 2, 3, 0] rfl ?_
          refine b_wd (mTold_no (fun h => h40 ((bit_0 _ (by omega)).mpr h.2))) (ih (k + 1) (by omega))
        · refine b_aload_n dX8_goDawn_43 rfl ?_
          refine b_aload_n dX8_goDawn_44 rfl ?_
          refine b_getr dX8_goDawn_45 gf_X8_41 rfl rfl ?_
          refine b_iload_n dX8_goDawn_48 rfl ?_
          refine b_ialdN dX8_goDawn_49 rfl ⟨by omega, by decide⟩ ?_
          refine b_topi (y := nI a) h7 ?_
          refine b_aload_n dX8_goDawn_50 rfl ?_
          refine b_getr dX8_goDawn_51 gf_X8_44 rfl rfl ?_
          refine b_iload_n dX8_goDawn_54 rfl ?_
          refine b_ialdN dX8_goDawn_55 rfl ⟨by omega, by decide⟩ ?_
          refine b_topi (y := nI b2) h8 ?_
          refine b_aload_n dX8_goDawn_56 rfl ?_
          refine b_getr dX8_goDawn_57 gf_X8_50 rfl rfl ?_
          refine b_iload_n dX8_goDawn_60 rfl ?_
          refine b_ialdN dX8_goDawn_61 rfl ⟨by omega, by decide⟩ ?_
          refine b_iload_n dX8_goDawn_62 rfl ?_
          refine b_callV4 dX8_goDawn_63 lk_X8_184 rfl rfl rfl ⟨Nat.le_of_ble_eq_true rfl, Nat.le_of_ble_eq_true rfl⟩ (Nat.le_of_ble_eq_true rfl) (s_X8_answer v1.1 h1 h2 g5 g6 g7 g8) (fun r w63 h63 => ?_)
          obtain ⟨rfl, rfl⟩ := h63
          refine b_iinc dX8_goDawn_66 rfl (nI_inc k) (by decide) ?_
          refine b_goto (tgt := 12) dX8_goDawn_69 (by decide) ?_
          refine b_sub [1, 2, 3, 0] rfl ?_
          refine b_wd (mTold_yes h29 ((bit_0 _ (by omega)).mp h40) h7 h8 (by omega) (by omega)) (ih (k + 1) (by omega))

set_option maxRecDepth 100000 in
set_option maxHeartbeats 4000000 in
theorem s_X8_goDawn {w : kW} {n c M d : Nat} (h : DInv n M w) (hM : M ≤ 177) (hI : Ins n c w) (hd : d < 60) : Spec shM yX8_goDawn cX8_goDawn 4 none 4 101 [.ref 0, .int (nI d)] w (fun r w' => r = none ∧ mDawn c w d = w') := by
  obtain ⟨m0, hm0, hS⟩ := h.start
  obtain ⟨b, hb, eb⟩ := h.t hM
  refine k_enter pn_X8 (Nat.le_of_ble_eq_true rfl) ?_
  refine b_aload_n dX8_goDawn_0 rfl ?_
  refine b_iconst (v := 0) dX8_goDawn_1 (by decide) ?_
  refine b_puti dX8_goDawn_2 gf_X8_155 gs_X8_22 rfl rfl ?_
  refine b_aload_n dX8_goDawn_5 rfl ?_
  refine b_geti dX8_goDawn_6 gf_X8_172 rfl rfl ?_
  refine b_topi (y := nI b) eb ?_
  refine b_istore_n dX8_goDawn_9 (by decide) ?_
  refine b_iconst (v := 0) dX8_goDawn_10 (by decide) ?_
  refine b_istore_n dX8_goDawn_11 (by decide) ?_
  refine b_sub [2, 3, 1, 0] rfl ?_
  exact s_X8_goDawn_l1 hS hI (by omega) eb (by omega) hd c 0 (by omega)

set_option maxRecDepth 100000 in
set_option maxHeartbeats 4000000 in
theorem s_X8_goAhead_lp {w : kW} {n c D : Nat} (hP : Pn n w) (hI : Ins n c w) (hD : D ≤ 60) : ∀ q k, k + q = D → BS shM RX8 cX8_goAhead 3 none 5 124 (fun r w' => r = none ∧ mGo n c w D = w') 6 [(0, .ref 0), (1, .int (nI D)), (2, .int (nI k))] [] (mAhead n c w k) := by
  intro q
  induction q with
  | zero =>
    intro k hk
    refine b_iload_n dX8_goAhead_6 rfl ?_
    refine b_iload_n dX8_goAhead_7 rfl ?_
    refine b_icmp_ge (tgt := 22) dX8_goAhead_8 (by decide) (fun h8 => ?_) (fun h8 => ?_)
    · refine b_aload_n dX8_goAhead_22 rfl ?_
      refine b_iconst (v := 0) dX8_goAhead_23 (by decide) ?_
      refine b_puti dX8_goAhead_24 gf_X8_155 gs_X8_22 rfl rfl ?_
      refine b_vret dX8_goAhead_27 rfl ⟨rfl, ?_⟩
      (have e : k = D := by omega); subst e; rfl
    · exact absurd (nI_le (by omega) (by omega)) h8
  | succ q ih =>
    intro k hk
    obtain ⟨g1, g2⟩ := mAhead_inv hP hI k (by omega)
    refine b_iload_n dX8_goAhead_6 rfl ?_
    refine b_iload_n dX8_goAhead_7 rfl ?_
    refine b_icmp_ge (tgt := 22) dX8_goAhead_8 (by decide) (fun h8 => ?_) (fun h8 => ?_)
    · exact absurd h8 (nI_ge (by omega) (by omega))
    · refine b_aload_n dX8_goAhead_11 rfl ?_
      refine b_iload_n dX8_goAhead_12 rfl ?_
      refine b_callV1 dX8_goAhead_13 lk_X8_191 rfl rfl rfl ⟨Nat.le_of_ble_eq_true rfl, Nat.le_of_ble_eq_true rfl⟩ (Nat.le_of_ble_eq_true rfl) (s_X8_goDawn g1 (by omega) (hI.keep g2) (by omega)) (fun r w13 h13 => ?_)
      obtain ⟨rfl, rfl⟩ := h13
      refine b_iinc dX8_goAhead_16 rfl (nI_inc k) (by decide) ?_
      refine b_goto (tgt := 6) dX8_goAhead_19 (by decide) ?_
      refine b_sub [1, 2, 0] rfl ?_
      exact ih (k + 1) (by omega)

set_option maxRecDepth 100000 in
set_option maxHeartbeats 4000000 in
theorem s_X8_goAhead {w : kW} {n c D : Nat} (hP : Pn n w) (hI : Ins n c w) (hD : D ≤ 60) : Spec shM yX8_goAhead cX8_goAhead 3 none 5 124 [.ref 0, .int (nI D)] w (fun r w' => r = none ∧ mGo n c w D = w') := by
  refine k_enter pn_X8 (Nat.le_of_ble_eq_true rfl) ?_
  refine b_aload_n dX8_goAhead_0 rfl ?_
  refine b_callV0 dX8_goAhead_1 lk_X8_188 rfl rfl rfl ⟨Nat.le_of_ble_eq_true rfl, Nat.le_of_ble_eq_true rfl⟩ (Nat.le_of_ble_eq_true rfl) (s_X8_begin hP) (fun r w1 h1 => ?_)
  obtain ⟨rfl, rfl⟩ := h1
  refine b_iconst (v := 0) dX8_goAhead_4 (by decide) ?_
  refine b_istore_n dX8_goAhead_5 (by decide) ?_
  refine b_sub [1, 2, 0] rfl ?_
  exact s_X8_goAhead_lp hP hI hD D 0 (by omega)
