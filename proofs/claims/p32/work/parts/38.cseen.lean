theorem mHurtF_ge (w : kW) (hu y : Nat) (d : Int32) {c : Nat} (hc : 20 ≤ c) : (mHurtF w hu y d).1 c = w.1 c := by
  simp only [mHurtF]
  split
  · rw [kset_row _ _ _ _ (by omega)]
  · rw [kset_row _ _ _ _ (by omega), kset_row _ _ _ _ (by omega), kset_row _ _ _ _ (by omega), kset_row _ _ _ _ (by omega), kset_row _ _ _ _ (by omega), kset_row _ _ _ _ (by omega)]
/-- the seconds of the meetings are persons -/
def MtOk (n : Nat) (w : kW) : Prop := ∀ k, k < dn (w.1 0 28) → ∃ a b, a < n ∧ b < n ∧ w.1 21 k = nI a ∧ w.1 22 k = nI b
theorem mMeet_mt {w : kW} {n m a b : Nat} {x y d : Int32} (h : MtOk n w) (hm : w.1 0 28 = nI m) (hm2 : m < 200) (ha : a < n) (hb : b < n) : MtOk n (mMeet w a b x y d) := by
  have e28 : (mMeet w a b x y d).1 0 28 = nI (m + 1) := by
    simp only [mMeet]
    rw [kset_eq, ← nI_1]
    congr 1
    split
    · exact hm
    · split
      · rw [kset_ne _ _ (Or.inl (by decide)), mHurtF_met]; exact hm
      · rw [kset_ne _ _ (Or.inl (by decide)), mHurtF_met]; exact hm
  have e21 : ∀ c, c = 21 ∨ c = 22 → (mMeet w a b x y d).1 c = (mMeet0 w a b x y d).1 c := by
    intro c hc
    simp only [mMeet]
    rw [kset_row _ _ _ _ (by omega)]
    split
    · rfl
    · split
      · rw [kset_row _ _ _ _ (by omega), mHurtF_ge _ _ _ _ (by omega)]
      · rw [kset_row _ _ _ _ (by omega), mHurtF_ge _ _ _ _ (by omega)]
  intro k hk
  rw [e28, dn_nI (by omega)] at hk
  rw [e21 21 (Or.inl rfl), e21 22 (Or.inr rfl)]
  simp only [mMeet0]
  have em : (w.1 0 28).toNatClampNeg = m := by rw [hm]; exact dn_nI (by omega)
  rw [em]
  by_cases e : k = m
  · subst e
    exact ⟨a, b, ha, hb, by simp [kset_1], by simp [kset_1]⟩
  · obtain ⟨a', b', h1, h2, h3, h4⟩ := h k (by rw [hm, dn_nI (by omega)]; omega)
    exact ⟨a', b', h1, h2, by simp [kset_1, e, h3], by simp [kset_1, e, h4]⟩
theorem mAnswer_mt {w : kW} {n m0 i j : Nat} {deg d : Int32} (h : MtOk n w) (hS : SInv n m0 w) (hm0 : m0 ≤ 177) (hi : i < n) (hj : j < n) : MtOk n (mAnswer w i j deg d) := by
  obtain ⟨m, hm, hm2⟩ := hS.m hm0
  simp only [mAnswer]
  split
  · split
    · exact h
    · rename_i a ha
      have g1 := mSec_some hS.1 hj ha
      split
      · exact h
      · rename_i b hb
        have g2 := mSec_some hS.1 hi hb
        exact mMeet_mt h hm hm2 g1.1 g2.1
  · exact h
theorem mTold_mt {w : kW} {n c m0 d : Nat} (hM : MtOk n w) (h : SInv n m0 (kset w 0 22 0)) (hI : Ins n c w) (hm0 : m0 ≤ 177) : ∀ k, k ≤ c → MtOk n (mTold w d k) := by
  intro k
  induction k with
  | zero => intro _; exact hM
  | succ k ih =>
    intro hk
    have g := ih (by omega)
    obtain ⟨g1, g2⟩ := mTold_inv (d := d) h hI hm0 k (by omega)
    simp only [mTold]
    split
    · obtain ⟨a, b, dd, gg, h1, h2, h3, h4, h5, h6, h7, h8, h9, h10⟩ := (hI.keep g2).2.2 k (by omega)
      have hn := g1.1.le
      rw [cl_of h7 (by omega), cl_of h8 (by omega)]
      exact mAnswer_mt g g1 hm0 h1 h2
    · exact g
theorem mTk_mt {w : kW} {n m0 d t b : Nat} (hM : MtOk n w) (h : SInv n m0 w) (hm0 : m0 ≤ 177) (ht : w.1 0 23 = nI t) (ht2 : t < 200) (hb : b ≤ t) : ∀ k, k ≤ b → MtOk n (mTk w d k) := by
  intro k
  induction k with
  | zero => intro _; exact hM
  | succ k ih =>
    intro hk
    have g := ih (by omega)
    obtain ⟨g1, g2, t', g3, g4⟩ := mTk_inv (d := d) h hm0 ht ht2 hb k (by omega)
    obtain ⟨m, t2, q1, q2, q3, q4, q5⟩ := mTk_t h hm0
    have e : t = t2 := nI_inj (by omega) (by omega) (ht.symm.trans q3)
    subst e
    simp only [mTk]
    split
    · obtain ⟨a, b, h1, h2, h3, h4⟩ := q5 k (by omega)
      obtain ⟨k1, k2, k3, k4⟩ := g4.2.2 k (by omega)
      have hn := g1.1.le
      rw [cl_of (k1.trans h3) (by omega), cl_of (k2.trans h4) (by omega)]
      exact mAnswer_mt g g1 hm0 h1 h2
    · exact g
theorem mDawn_mt {w : kW} {n c M d : Nat} (hM : MtOk n w) (h : DInv n M w) (hM2 : M ≤ 177) (hI : Ins n c w) : MtOk n (mDawn c w d) := by
  obtain ⟨m, hm, hS⟩ := h.start
  obtain ⟨t, ht2, ht⟩ := h.t hM2
  obtain ⟨t', h1, h2, h3, h4⟩ := mTold_ext (d := d) hS hI (by omega) ht (by omega) c (Nat.le_refl c)
  unfold mDawn
  rw [cl_of ht (by omega)]
  exact mTk_mt (mTold_mt hM hS hI (by omega) c (Nat.le_refl c)) (mTold_inv hS hI (by omega) c (Nat.le_refl c)).1 (by omega) h3 h1 h2 t (Nat.le_refl t)
theorem mAhead_mt {w : kW} {n c : Nat} (hP : Pn n w) (hI : Ins n c w) : ∀ d, d ≤ 60 → MtOk n (mAhead n c w d)
  | 0, _ => fun k hk => by
    have : (mAhead n c w 0).1 0 28 = 0 := (mZero_23 w n).2
    rw [this] at hk
    exact absurd hk (Nat.not_lt_zero _)
  | d + 1, hd => by
    obtain ⟨h1, h2⟩ := mAhead_inv hP hI d (by omega)
    exact mDawn_mt (mAhead_mt hP hI d (by omega)) h1 (by omega) (hI.keep h2)
theorem mGo_mt {w : kW} {n c d : Nat} (hP : Pn n w) (hI : Ins n c w) (hd : d ≤ 60) : MtOk n (mGo n c w d) := mAhead_mt hP hI d hd
