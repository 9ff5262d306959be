/-- t takings in w, t' in v, the first t as they were -/
def TkExt (t t' : Nat) (w v : kW) : Prop := t ≤ t' ∧ v.1 0 23 = nI t' ∧ ∀ k, k < t → v.1 16 k = w.1 16 k ∧ v.1 17 k = w.1 17 k ∧ v.1 18 k = w.1 18 k ∧ v.1 19 k = w.1 19 k
theorem TkExt.rf {t : Nat} {w : kW} (h : w.1 0 23 = nI t) : TkExt t t w w := ⟨Nat.le_refl _, h, fun _ _ => ⟨rfl, rfl, rfl, rfl⟩⟩
theorem TkExt.tr {t t' t'' : Nat} {w v u : kW} (h1 : TkExt t t' w v) (h2 : TkExt t' t'' v u) : TkExt t t'' w u := ⟨Nat.le_trans h1.1 h2.1, h2.2.1, fun k hk => by
  obtain ⟨a1, a2, a3, a4⟩ := h1.2.2 k hk
  obtain ⟨b1, b2, b3, b4⟩ := h2.2.2 k (Nat.lt_of_lt_of_le hk h1.1)
  exact ⟨b1.trans a1, b2.trans a2, b3.trans a3, b4.trans a4⟩⟩
theorem mHurtF_ext {w : kW} {t hu y : Nat} {dawn : Int32} (ht : w.1 0 23 = nI t) (ht2 : t < 200) : ∃ t', t' ≤ t + 1 ∧ TkExt t t' w (mHurtF w hu y dawn) := by
  simp only [mHurtF]
  split
  · exact ⟨t, by omega, Nat.le_refl _, ht, fun k hk => ⟨rfl, rfl, rfl, rfl⟩⟩
  · refine ⟨t + 1, Nat.le_refl _, by omega, by rw [kset_eq, ht, nI_1], fun k hk => ?_⟩
    rw [cl_of ht (by omega)]
    have e : ¬ k = t := by omega
    exact ⟨by simp [kset_1, e], by simp [kset_1, e], by simp [kset_1, e], by simp [kset_1, e]⟩
theorem TkExt.row {t t' c k : Nat} {x : Int32} {w v : kW} (h : TkExt t t' w v) (hc : c = 0 ∧ k ≠ 23 ∨ 20 ≤ c) : TkExt t t' w (kset v c k x) := by
  refine ⟨h.1, by rw [kset_ne _ _ (by omega)]; exact h.2.1, fun j hj => ?_⟩
  rw [kset_ne _ _ (by omega), kset_ne _ _ (by omega), kset_ne _ _ (by omega), kset_ne _ _ (by omega)]
  exact h.2.2 j hj
theorem mMeet_ext {w : kW} {t a b : Nat} {x y dawn : Int32} (ht : w.1 0 23 = nI t) (ht2 : t < 200) : ∃ t', t' ≤ t + 1 ∧ TkExt t t' w (mMeet w a b x y dawn) := by
  have h0 : TkExt t t w (mMeet0 w a b x y dawn) := by
    simp only [mMeet0]
    exact (((((((TkExt.rf ht).row (by omega)).row (by omega)).row (by omega)).row (by omega)).row (by omega)).row (by omega)).row (by omega)
  simp only [mMeet]
  split
  · exact ⟨t, by omega, h0.row (by omega)⟩
  · split
    · obtain ⟨t', h1, h2⟩ := mHurtF_ext (hu := b) (y := a) (dawn := dawn) h0.2.1 ht2
      exact ⟨t', h1, ((h0.tr h2).row (by omega)).row (by omega)⟩
    · obtain ⟨t', h1, h2⟩ := mHurtF_ext (hu := a) (y := b) (dawn := dawn) h0.2.1 ht2
      exact ⟨t', h1, ((h0.tr h2).row (by omega)).row (by omega)⟩
theorem mAnswer_ext {w : kW} {t i j : Nat} {deg dawn : Int32} (ht : w.1 0 23 = nI t) (ht2 : t < 200) : ∃ t', t' ≤ t + 1 ∧ TkExt t t' w (mAnswer w i j deg dawn) := by
  simp only [mAnswer]
  split
  · split
    · exact ⟨t, by omega, TkExt.rf ht⟩
    · split
      · exact ⟨t, by omega, TkExt.rf ht⟩
      · exact mMeet_ext ht ht2
  · exact ⟨t, by omega, TkExt.rf ht⟩
theorem SInv.t {w : kW} {n m0 : Nat} (h : SInv n m0 w) (hm0 : m0 ≤ 177) : ∃ t, w.1 0 23 = nI t ∧ t < 200 := by
  obtain ⟨m, t, h1, h2, h3, h4, h5⟩ := mTk_t h hm0
  exact ⟨t, h3, h4⟩
theorem mAnswer_ext2 {w : kW} {n m0 t i j : Nat} {deg dawn : Int32} (h : SInv n m0 w) (hm0 : m0 ≤ 177) (hi : i < n) (hj : j < n) (ht : w.1 0 23 = nI t) (ht2 : t < 200) : ∃ t', t' < 200 ∧ TkExt t t' w (mAnswer w i j deg dawn) := by
  obtain ⟨t', h1, h2⟩ := mAnswer_ext (i := i) (j := j) (deg := deg) (dawn := dawn) ht ht2
  obtain ⟨t2, e1, e2⟩ := (mAnswer_inv (deg := deg) (dawn := dawn) h hm0 hi hj).t hm0
  have e3 := nI_inj (by omega) (by omega) (e1.symm.trans h2.2.1)
  subst e3
  exact ⟨t2, e2, h2⟩
theorem mTold_ext {w : kW} {n c m0 d t : Nat} (h : SInv n m0 (kset w 0 22 0)) (hI : Ins n c w) (hm0 : m0 ≤ 177) (ht : w.1 0 23 = nI t) (ht2 : t < 200) : ∀ k, k ≤ c → ∃ t', t' < 200 ∧ TkExt t t' w (mTold w d k) := by
  intro k
  induction k with
  | zero => intro _; exact ⟨t, ht2, (TkExt.rf ht).row (by omega)⟩
  | succ k ih =>
    intro hk
    obtain ⟨t', g1, g2⟩ := ih (by omega)
    obtain ⟨v1, v2⟩ := mTold_inv (d := d) h hI hm0 k (by omega)
    simp only [mTold]
    split
    · obtain ⟨a, b, dd, g, h1, h2, h3, h4, h5, h6, h7, h8, h9, h10⟩ := (hI.keep v2).2.2 k (by omega)
      have hn := v1.1.le
      rw [cl_of h7 (by omega), cl_of h8 (by omega)]
      obtain ⟨t'', e1, e2⟩ := mAnswer_ext2 (deg := (mTold w d k).1 14 k) (dawn := nI d) v1 hm0 h1 h2 g2.2.1 g1
      exact ⟨t'', e1, g2.tr e2⟩
    · exact ⟨t', g1, g2⟩
theorem mTk_inv {w : kW} {n m0 d t b : Nat} (h : SInv n m0 w) (hm0 : m0 ≤ 177) (ht : w.1 0 23 = nI t) (ht2 : t < 200) (hb : b ≤ t) : ∀ k, k ≤ b → SInv n m0 (mTk w d k) ∧ sKeep w (mTk w d k) ∧ ∃ t', t' < 200 ∧ TkExt t t' w (mTk w d k) := by
  intro k
  induction k with
  | zero => intro _; exact ⟨h, sKeep.rf, t, ht2, TkExt.rf ht⟩
  | succ k ih =>
    intro hk
    obtain ⟨v1, v2, t', g1, g2⟩ := ih (by omega)
    simp only [mTk]
    split
    · obtain ⟨hP, m, t2, c1, c2, c3, c4, c5⟩ := id h
      have e3 := nI_inj (by have := bs6_le (w.1 0 22); omega) (by omega) (c2.symm.trans ht)
      subst e3
      obtain ⟨a, b', h1, h2, h3, h4⟩ := c5 k (by omega)
      obtain ⟨r1, r2, r3, r4⟩ := g2.2.2 k (by omega)
      have hn := v1.1.le
      rw [cl_of (r1.trans h3) (by omega), cl_of (r2.trans h4) (by omega)]
      obtain ⟨t'', e1, e2⟩ := mAnswer_ext2 (deg := (mTk w d k).1 18 k) (dawn := nI d) v1 hm0 h1 h2 g2.2.1 g1
      exact ⟨mAnswer_inv v1 hm0 h1 h2, v2.tr (mAnswer_keep ..), t'', e1, g2.tr e2⟩
    · exact ⟨v1, v2, t', g1, g2⟩
/-- between two dawns: at most M meetings -/
def DInv (n M : Nat) (w : kW) : Prop := Pn n w ∧ ∃ m t, w.1 0 28 = nI m ∧ m ≤ M ∧ w.1 0 23 = nI t ∧ t ≤ m ∧ TkOk n t w
theorem DInv.start {w : kW} {n M : Nat} (h : DInv n M w) : ∃ m, m ≤ M ∧ SInv n m (kset w 0 22 0) := by
  obtain ⟨hP, m, t, h1, h2, h3, h4, h5⟩ := h
  exact ⟨m, h2, hP.keep (sKeep.rf.num (by decide)), m, t, h1, h3, h4, by rw [kset_eq, bs6_0, Nat.add_zero], h5.of rfl rfl⟩
theorem DInv.t {w : kW} {n M : Nat} (h : DInv n M w) (hM : M ≤ 177) : ∃ t, t < 178 ∧ w.1 0 23 = nI t := by
  obtain ⟨hP, m, t, h1, h2, h3, h4, h5⟩ := h
  exact ⟨t, by omega, h3⟩
theorem SInv.stop {w : kW} {n m0 : Nat} (h : SInv n m0 w) : DInv n (m0 + 3) w := by
  obtain ⟨hP, m, t, h1, h2, h3, h4, h5⟩ := h
  have := bs6_le (w.1 0 22)
  exact ⟨hP, m, t, h1, by omega, h2, h3, h5⟩
theorem DInv.mono {w : kW} {n M M' : Nat} (h : DInv n M w) (hm : M ≤ M') : DInv n M' w := by
  obtain ⟨hP, m, t, h1, h2, h3, h4, h5⟩ := h
  exact ⟨hP, m, t, h1, by omega, h3, h4, h5⟩
theorem mDawn_inv {w : kW} {n c M d : Nat} (h : DInv n M w) (hM : M ≤ 177) (hI : Ins n c w) : DInv n (M + 3) (mDawn c w d) ∧ sKeep w (mDawn c w d) := by
  obtain ⟨m0, hm0, hS⟩ := h.start
  obtain ⟨b, hb, eb⟩ := h.t hM
  obtain ⟨g1, g2⟩ := mTold_inv (d := d) hS hI (by omega) c (Nat.le_refl _)
  obtain ⟨t', e1, e2⟩ := mTold_ext (d := d) hS hI (by omega) eb (by omega) c (Nat.le_refl _)
  obtain ⟨f1, f2, f3⟩ := mTk_inv (d := d) g1 (by omega) e2.2.1 e1 e2.1 b (Nat.le_refl _)
  unfold mDawn
  rw [cl_of eb (by omega)]
  exact ⟨f1.stop.mono (by omega), g2.tr f2⟩
theorem mZero_keep (w : kW) (k : Nat) : sKeep w (mZero w k) := by
  induction k with
  | zero => exact (sKeep.rf.num (by decide)).num (by decide)
  | succ k ih => exact ih.row (by decide)
theorem mZero_23 (w : kW) (k : Nat) : (mZero w k).1 0 23 = 0 ∧ (mZero w k).1 0 28 = 0 := by
  induction k with
  | zero => exact ⟨rfl, rfl⟩
  | succ k ih => exact ih
theorem mBegin_inv {w : kW} {n : Nat} (h : Pn n w) : DInv n 0 (mBegin n w) ∧ sKeep w (mBegin n w) := by
  have hk : sKeep w (mBegin n w) := (mZero_keep w n).num (by decide)
  exact ⟨⟨h.keep hk, 0, 0, (mZero_23 w n).2, Nat.le_refl _, (mZero_23 w n).1, Nat.le_refl _, fun k hk => absurd hk (Nat.not_lt_zero _)⟩, hk⟩
theorem mAhead_inv {w : kW} {n c : Nat} (h : Pn n w) (hI : Ins n c w) : ∀ d, d ≤ 60 → DInv n (3 * d) (mAhead n c w d) ∧ sKeep w (mAhead n c w d) := by
  intro d
  induction d with
  | zero => intro _; exact mBegin_inv h
  | succ d ih =>
    intro hd
    obtain ⟨g1, g2⟩ := ih (by omega)
    obtain ⟨f1, f2⟩ := mDawn_inv (d := d) g1 (by omega) (hI.keep g2)
    exact ⟨f1, g2.tr f2⟩
theorem mGo_keep {w : kW} {n c d : Nat} (h : Pn n w) (hI : Ins n c w) (hd : d ≤ 60) : sKeep w (mGo n c w d) := (mAhead_inv h hI d hd).2.num (by decide)
theorem mGo_inv {w : kW} {n c d : Nat} (h : Pn n w) (hI : Ins n c w) (hd : d ≤ 60) : DInv n (3 * d) (mGo n c w d) := by
  obtain ⟨⟨hP, m, t, h1, h2, h3, h4, h5⟩, hk⟩ := mAhead_inv h hI d hd
  exact ⟨hP.keep (sKeep.rf.num (by decide)), m, t, h1, h2, h3, h4, h5.of rfl rfl⟩
theorem mTold_yes {w : kW} {d k a b : Nat} (h1 : (mTold w d k).1 13 k = nI d - 1) (h2 : bt ((mTold w d k).1 0 20) k = false) (ha : (mTold w d k).1 11 k = nI a) (hb : (mTold w d k).1 12 k = nI b) (ha2 : a < 6) (hb2 : b < 6) : mAnswer (mTold w d k) a b ((mTold w d k).1 14 k) (nI d) = mTold w d (k + 1) := by
  simp only [mTold]
  rw [if_pos ⟨h1, h2⟩, cl_of ha (by omega), cl_of hb (by omega)]
theorem mTold_no {w : kW} {d k : Nat} (h : ¬ ((mTold w d k).1 13 k = nI d - 1 ∧ bt ((mTold w d k).1 0 20) k = false)) : mTold w d k = mTold w d (k + 1) := by
  simp only [mTold]
  rw [if_neg h]
theorem mTk_yes {w : kW} {d k a b : Nat} (h1 : (mTk w d k).1 19 k = nI d - 1) (ha : (mTk w d k).1 16 k = nI a) (hb : (mTk w d k).1 17 k = nI b) (ha2 : a < 6) (hb2 : b < 6) : mAnswer (mTk w d k) a b ((mTk w d k).1 18 k) (nI d) = mTk w d (k + 1) := by
  simp only [mTk]
  rw [if_pos h1, cl_of ha (by omega), cl_of hb (by omega)]
theorem mTk_no {w : kW} {d k : Nat} (h : ¬ (mTk w d k).1 19 k = nI d - 1) : mTk w d k = mTk w d (k + 1) := by
  simp only [mTk]
  rw [if_neg h]
