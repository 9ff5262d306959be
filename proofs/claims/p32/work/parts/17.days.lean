/-! ===== new takings are of the dawn; bits of a long ===== -/
def TkX (dawn : Int32) (t t' : Nat) (w v : kW) : Prop := TkExt t t' w v ∧ ∀ k, t ≤ k → k < t' → v.1 19 k = dawn
theorem TkX.rf {dawn : Int32} {t : Nat} {w : kW} (h : w.1 0 23 = nI t) : TkX dawn t t w w := ⟨TkExt.rf h, fun k h1 h2 => by omega⟩
theorem TkX.tr {dawn : Int32} {t t' t'' : Nat} {w v u : kW} (h1 : TkX dawn t t' w v) (h2 : TkX dawn t' t'' v u) : TkX dawn t t'' w u := ⟨h1.1.tr h2.1, fun k a b => by
  by_cases e : k < t'
  · rw [(h2.1.2.2 k e).2.2.2]; exact h1.2 k a e
  · exact h2.2 k (by omega) b⟩
theorem TkX.row {dawn : Int32} {t t' c k : Nat} {x : Int32} {w v : kW} (h : TkX dawn t t' w v) (hc : c = 0 ∧ k ≠ 23 ∨ 20 ≤ c) : TkX dawn t t' w (kset v c k x) := ⟨h.1.row hc, fun j a b => by rw [kset_ne _ _ (by omega)]; exact h.2 j a b⟩
theorem mHurtF_x {w : kW} {t hu y : Nat} {dawn : Int32} (ht : w.1 0 23 = nI t) (ht2 : t < 200) : ∃ t', t' ≤ t + 1 ∧ TkX dawn t t' w (mHurtF w hu y dawn) := by
  simp only [mHurtF]
  split
  · exact ⟨t, by omega, ⟨Nat.le_refl _, ht, fun k hk => ⟨rfl, rfl, rfl, rfl⟩⟩, fun k h1 h2 => by omega⟩
  · refine ⟨t + 1, Nat.le_refl _, ⟨by omega, by rw [kset_eq, ht, nI_1], fun k hk => ?_⟩, fun k h1 h2 => ?_⟩
    · rw [cl_of ht (by omega)]
      have e : ¬ k = t := by omega
      exact ⟨by simp [kset_1, e], by simp [kset_1, e], by simp [kset_1, e], by simp [kset_1, e]⟩
    · rw [cl_of ht (by omega)]
      have e : k = t := by omega
      simp [kset_1, e]
theorem mMeet_x {w : kW} {t a b : Nat} {x y dawn : Int32} (ht : w.1 0 23 = nI t) (ht2 : t < 200) : ∃ t', t' ≤ t + 1 ∧ TkX dawn t t' w (mMeet w a b x y dawn) := by
  have h0 : TkX dawn t t w (mMeet0 w a b x y dawn) := by
    simp only [mMeet0]
    exact (((((((TkX.rf ht).row (by omega)).row (by omega)).row (by omega)).row (by omega)).row (by omega)).row (by omega)).row (by omega)
  simp only [mMeet]
  split
  · exact ⟨t, by omega, h0.row (by omega)⟩
  · split
    · obtain ⟨t', h1, h2⟩ := mHurtF_x (hu := b) (y := a) (dawn := dawn) h0.1.2.1 ht2
      exact ⟨t', h1, ((h0.tr h2).row (by omega)).row (by omega)⟩
    · obtain ⟨t', h1, h2⟩ := mHurtF_x (hu := a) (y := b) (dawn := dawn) h0.1.2.1 ht2
      exact ⟨t', h1, ((h0.tr h2).row (by omega)).row (by omega)⟩
theorem mAnswer_x {w : kW} {t i j : Nat} {deg dawn : Int32} (ht : w.1 0 23 = nI t) (ht2 : t < 200) : ∃ t', t' ≤ t + 1 ∧ TkX dawn t t' w (mAnswer w i j deg dawn) := by
  simp only [mAnswer]
  split
  · split
    · exact ⟨t, by omega, TkX.rf ht⟩
    · split
      · exact ⟨t, by omega, TkX.rf ht⟩
      · exact mMeet_x ht ht2
  · exact ⟨t, by omega, TkX.rf ht⟩
theorem mAnswer_x2 {w : kW} {n m0 t i j : Nat} {deg dawn : Int32} (h : SInv n m0 w) (hm0 : m0 ≤ 177) (hi : i < n) (hj : j < n) (ht : w.1 0 23 = nI t) (ht2 : t < 200) : ∃ t', t' < 200 ∧ TkX dawn t t' w (mAnswer w i j deg dawn) := by
  obtain ⟨t', h1, h2⟩ := mAnswer_x (i := i) (j := j) (deg := deg) (dawn := dawn) ht ht2
  obtain ⟨t2, e1, e2⟩ := (mAnswer_inv (deg := deg) (dawn := dawn) h hm0 hi hj).t hm0
  have e3 := nI_inj (by omega) (by omega) (e1.symm.trans h2.1.2.1)
  subst e3
  exact ⟨t2, e2, h2⟩
theorem mTold_x {w : kW} {n c m0 d t : Nat} (h : SInv n m0 (kset w 0 22 0)) (hI : Ins n c w) (hm0 : m0 ≤ 177) (ht : w.1 0 23 = nI t) (ht2 : t < 200) : ∀ k, k ≤ c → ∃ t', t' < 200 ∧ TkX (nI d) t t' w (mTold w d k) := by
  intro k
  induction k with
  | zero => intro _; exact ⟨t, ht2, (TkX.rf ht).row (by omega)⟩
  | succ k ih =>
    intro hk
    obtain ⟨t', g1, g2⟩ := ih (by omega)
    obtain ⟨v1, v2⟩ := mTold_inv (d := d) h hI hm0 k (by omega)
    simp only [mTold]
    split
    · obtain ⟨a, b, dd, g, h1, h2, h3, h4, h5, h6, h7, h8, h9, h10⟩ := (hI.keep v2).2.2 k (by omega)
      have hn := v1.1.le
      rw [cl_of h7 (by omega), cl_of h8 (by omega)]
      obtain ⟨t'', e1, e2⟩ := mAnswer_x2 (deg := (mTold w d k).1 14 k) (dawn := nI d) v1 hm0 h1 h2 g2.1.2.1 g1
      exact ⟨t'', e1, g2.tr e2⟩
    · exact ⟨t', g1, g2⟩
theorem mTk_x {w : kW} {n m0 d t b : Nat} (h : SInv n m0 w) (hm0 : m0 ≤ 177) (ht : w.1 0 23 = nI t) (ht2 : t < 200) (hb : b ≤ t) : ∀ k, k ≤ b → ∃ t', t' < 200 ∧ TkX (nI d) t t' w (mTk w d k) := by
  intro k
  induction k with
  | zero => intro _; exact ⟨t, ht2, TkX.rf ht⟩
  | succ k ih =>
    intro hk
    obtain ⟨t', g1, g2⟩ := ih (by omega)
    obtain ⟨v1, v2, -⟩ := mTk_inv (d := d) h hm0 ht ht2 hb k (by omega)
    simp only [mTk]
    split
    · obtain ⟨hP, m, t2, c1, c2, c3, c4, c5⟩ := id h
      have e3 := nI_inj (by have := bs6_le (w.1 0 22); omega) (by omega) (c2.symm.trans ht)
      subst e3
      obtain ⟨a, b', h1, h2, h3, h4⟩ := c5 k (by omega)
      obtain ⟨r1, r2, r3, r4⟩ := g2.1.2.2 k (by omega)
      have hn := v1.1.le
      rw [cl_of (r1.trans h3) (by omega), cl_of (r2.trans h4) (by omega)]
      obtain ⟨t'', e1, e2⟩ := mAnswer_x2 (deg := (mTk w d k).1 18 k) (dawn := nI d) v1 hm0 h1 h2 g2.1.2.1 g1
      exact ⟨t'', e1, g2.tr e2⟩
    · exact ⟨t', g1, g2⟩
theorem mTk_skip {w : kW} {d t q : Nat} (hq : ∀ k, k < q → ∃ x, x < 60 ∧ w.1 19 k = nI x ∧ x + 1 < d) (hd : d < 60) : ∀ k, k ≤ q → mTk w d k = w := by
  intro k
  induction k with
  | zero => exact fun _ => rfl
  | succ k ih =>
    intro hk
    have e := ih (by omega)
    obtain ⟨x, x0, x1, x2⟩ := hq k (by omega)
    rw [← mTk_no (by rw [e, x1]; intro h; have : nI d = nI (d - 1 + 1) := by rw [Nat.sub_add_cancel (by omega)]
                     rw [this, ← nI_1, Int32.add_sub_cancel] at h
                     have := nI_inj (by omega) (by omega) h
                     omega), e]
def btL (x : Int64) (k : Nat) : Bool := x.toBitVec.getLsbD k
theorem btL_ext {x y : Int64} (h : ∀ i, i < 64 → btL x i = btL y i) : x = y := Int64.toBitVec_inj.mp (BitVec.eq_of_getLsbD_eq (fun i hi => h i hi))
theorem btL_or (x y : Int64) (i : Nat) : btL (x ||| y) i = (btL x i || btL y i) := by unfold btL; rw [Int64.toBitVec_or, BitVec.getLsbD_or]
theorem btL_and (x y : Int64) (i : Nat) : btL (x &&& y) i = (btL x i && btL y i) := by unfold btL; rw [Int64.toBitVec_and, BitVec.getLsbD_and]
theorem btL_0 (i : Nat) : btL 0 i = false := BitVec.getLsbD_zero
theorem sL_l : ∀ n, n < 64 → (((nI n).toInt64 &&& 63).toBitVec.smod 64).toNat = n := by decide +kernel
theorem btL_1 : ∀ i, i < 64 → btL 1 i = decide (i = 0) := by decide +kernel
theorem btL_one {k i : Nat} (hk : k < 64) (hi : i < 64) : btL (1 <<< ((nI k).toInt64 &&& 63)) i = decide (i = k) := by
  have e : btL (1 <<< ((nI k).toInt64 &&& 63)) i = (decide (k ≤ i) && btL 1 (i - k)) := by
    unfold btL
    rw [Int64.toBitVec_shiftLeft]
    show ((1 : Int64).toBitVec <<< (((nI k).toInt64 &&& 63).toBitVec.smod 64).toNat).getLsbD i = _
    rw [sL_l k hk, BitVec.getLsbD_shiftLeft]
    rcases Nat.lt_or_ge i k with h | h
    · simp [h, Nat.not_le.mpr h]
    · simp [hi, h, Nat.not_lt.mpr h]
  rw [e, btL_1 _ (by omega)]
  by_cases h : k ≤ i
  · simp only [h, decide_true, Bool.true_and]
    by_cases h2 : i = k
    · simp [h2]
    · simp [h2]; omega
  · simp [h]; omega
theorem btL_test (x : Int64) {k : Nat} (hk : k < 64) : (x >>> ((nI k).toInt64 &&& 63)) &&& 1 = 1 ↔ btL x k = true := by
  have e0 : btL (x >>> ((nI k).toInt64 &&& 63)) 0 = btL x k := by
    unfold btL
    rw [Int64.toBitVec_shiftRight]
    show (x.toBitVec.sshiftRight (((nI k).toInt64 &&& 63).toBitVec.smod 64).toNat).getLsbD 0 = _
    rw [sL_l k hk, BitVec.getLsbD_sshiftRight]
    simp [hk]
  constructor
  · intro h
    have h0 : btL ((x >>> ((nI k).toInt64 &&& 63)) &&& 1) 0 = true := by rw [h]; decide
    rw [btL_and, e0] at h0
    simpa using (Bool.and_eq_true _ _ ▸ h0 : _ ∧ _).1
  · intro h
    apply btL_ext
    intro i hi
    rw [btL_and]
    by_cases e : i = 0
    · subst e; rw [e0, h]; decide
    · rw [btL_1 i hi]; simp [e]
theorem lg_cmp0 {x y : Int64} : lg_cmp x y = 0 ↔ x = y := by
  unfold lg_cmp
  by_cases h1 : x > y
  · rw [if_pos h1]
    constructor
    · intro h; exact absurd h (by decide)
    · intro h; subst h; exact absurd h1 (by rw [gt_iff_lt, Int64.lt_iff_toInt_lt]; omega)
  · rw [if_neg h1]
    by_cases h2 : x = y
    · rw [if_pos h2]; exact ⟨fun _ => h2, fun _ => rfl⟩
    · rw [if_neg h2]; exact ⟨fun h => absurd h (by decide), fun h => absurd h h2⟩
theorem nI_predS {d : Nat} : nI (d + 1) - 1 = nI d := nI_pred d
