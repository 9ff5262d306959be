/-! ===== a season depends on what is told alone, not on what an earlier one left ===== -/
def PEq (c : Nat) (w v : kW) : Prop := (∀ j, 4 ≤ j → j ≤ 7 → v.1 j = w.1 j) ∧ (∀ j k, 11 ≤ j → j ≤ 14 → k < c → v.1 j k = w.1 j k) ∧ v.1 0 5 = w.1 0 5 ∧ v.1 0 15 = w.1 0 15 ∧ (∀ k, k < c → bt (v.1 0 20) k = bt (w.1 0 20) k)
theorem PEq.keep {c : Nat} {w v w' v' : kW} (h : PEq c w v) (h1 : sKeep w w') (h2 : sKeep v v') : PEq c w' v' := by
  refine ⟨fun j a b => ?_, fun j k a b hk => ?_, ?_, ?_, fun k hk => ?_⟩
  · rw [h1.1 j (by omega) (by omega), h2.1 j (by omega) (by omega)]; exact h.1 j a b
  · rw [h1.1 j (by omega) (by omega), h2.1 j (by omega) (by omega)]; exact h.2.1 j k a b hk
  · rw [h1.2.1 5 (by decide) (by decide) (by decide), h2.2.1 5 (by decide) (by decide) (by decide)]; exact h.2.2.1
  · rw [h1.2.1 15 (by decide) (by decide) (by decide), h2.2.1 15 (by decide) (by decide) (by decide)]; exact h.2.2.2.1
  · rw [h1.2.1 20 (by decide) (by decide) (by decide), h2.2.1 20 (by decide) (by decide) (by decide)]; exact h.2.2.2.2 k hk
theorem PEq.rf {c : Nat} {w : kW} : PEq c w w := ⟨fun _ _ _ => rfl, fun _ _ _ _ _ => rfl, rfl, rfl, fun _ _ => rfl⟩
theorem PEq.pn {c n : Nat} {w v : kW} (h : PEq c w v) (hP : Pn n w) : Pn n v := by
  have e4 := h.1 4 (by decide) (by decide)
  have e5 := h.1 5 (by decide) (by decide)
  have e6 := h.1 6 (by decide) (by decide)
  have e7 := h.1 7 (by decide) (by decide)
  unfold Pn fr at *
  rw [e4, e5, e6, e7, h.2.2.1]
  exact hP
theorem PEq.ins {c n : Nat} {w v : kW} (h : PEq c w v) (hI : Ins n c w) : Ins n c v := by
  refine ⟨h.2.2.2.1.trans hI.1, hI.2.1, fun k hk => ?_⟩
  rw [h.2.1 11 k (by decide) (by decide) hk, h.2.1 12 k (by decide) (by decide) hk, h.2.1 13 k (by decide) (by decide) hk, h.2.1 14 k (by decide) (by decide) hk]
  exact hI.2.2 k hk
theorem mTouch_eq {c : Nat} {w v : kW} (h : PEq c w v) (p : Nat) : mTouch v p = mTouch w p := by
  unfold mTouch
  rw [h.1 4 (by decide) (by decide), h.1 5 (by decide) (by decide)]
theorem f_cg {p q : Nat → Bool} : ∀ {l : List Nat}, (∀ x ∈ l, p x = q x) → l.find? p = l.find? q
  | [], _ => rfl
  | x :: l, h => by
    have hx := h x List.mem_cons_self
    have hl := f_cg (fun y hy => h y (List.mem_cons_of_mem _ hy))
    rw [List.find?_cons, List.find?_cons, hx, hl]
theorem mCh_lt {w : kW} {n p x : Nat} (hP : Pn n w) (hp : p < n) (h : x ∈ mCh w p) : x < n := by
  have hn := hP.le
  have g1 := (hP.frd (k := 2 * p) (by omega)).1
  have g2 := (hP.frd (k := 2 * p + 1) (by omega)).1
  simp only [mCh, List.mem_cons, List.not_mem_nil, or_false] at h
  rcases h with rfl | rfl | rfl | rfl | rfl | rfl
  · exact g1
  · exact g2
  · exact (hP.frd (by omega)).1
  · exact (hP.frd (by omega)).1
  · exact (hP.frd (by omega)).1
  · exact (hP.frd (by omega)).1
theorem mSec_eq {c n p : Nat} {w v : kW} {o no dawn : Int32} (hP : Pn n w) (hp : p < n) (h : PEq c w v) (h1 : v.1 0 22 = w.1 0 22) (h2 : ∀ p, p < n → v.1 15 p = w.1 15 p) : mSec v p o no dawn = mSec w p o no dawn := by
  have e : mCh v p = mCh w p := by
    unfold mCh fr
    rw [h.1 6 (by decide) (by decide)]
  unfold mSec
  rw [e]
  apply f_cg
  intro x hx
  have hl := mCh_lt hP hp hx
  have e : mMay v x (nI p) o no dawn ↔ mMay w x (nI p) o no dawn := by
    unfold mMay mFree
    rw [h.1 7 (by decide) (by decide), h1, h2 x hl]
  exact decide_eq_decide.mpr e
def SQb (n t m : Nat) (w v : kW) : Prop := v.1 0 22 = w.1 0 22 ∧ (∀ p, p < n → v.1 15 p = w.1 15 p) ∧ (∀ j k, 16 ≤ j → j ≤ 19 → k < t → v.1 j k = w.1 j k) ∧ (∀ j k, 20 ≤ j → j ≤ 25 → k < m → v.1 j k = w.1 j k)
theorem kset_cg {w v : kW} {c k c' k' : Nat} {x : Int32} (h : v.1 c' k' = w.1 c' k') : (kset v c k x).1 c' k' = (kset w c k x).1 c' k' := by
  rw [kset_1, kset_1, h]
theorem SQb.kset {n t m c k : Nat} {w v : kW} {x : Int32} (h : SQb n t m w v) : SQb n t m (kset w c k x) (kset v c k x) :=
  ⟨kset_cg h.1, fun p hp => kset_cg (h.2.1 p hp), fun j k' a b hk => kset_cg (h.2.2.1 j k' a b hk), fun j k' a b hk => kset_cg (h.2.2.2 j k' a b hk)⟩
theorem SQb.upt {n t m : Nat} {w v : kW} (h : SQb n t m w v) (he : ∀ j, 16 ≤ j → j ≤ 19 → v.1 j t = w.1 j t) : SQb n (t + 1) m w v :=
  ⟨h.1, h.2.1, fun j k a b hk => by
    by_cases e : k = t
    · subst e; exact he j a b
    · exact h.2.2.1 j k a b (by omega), h.2.2.2⟩
theorem SQb.upm {n t m : Nat} {w v : kW} (h : SQb n t m w v) (he : ∀ j, 20 ≤ j → j ≤ 25 → v.1 j m = w.1 j m) : SQb n t (m + 1) w v :=
  ⟨h.1, h.2.1, h.2.2.1, fun j k a b hk => by
    by_cases e : k = m
    · subst e; exact he j a b
    · exact h.2.2.2 j k a b (by omega)⟩
theorem mHurtF_sq {w v : kW} {n t m hu y : Nat} {dawn : Int32} (e5 : v.1 5 = w.1 5) (e6 : v.1 6 = w.1 6) (hw : w.1 0 23 = nI t) (hv : v.1 0 23 = nI t) (ht : t < 200) (h : SQb n t m w v) : ∃ t', t' ≤ t + 1 ∧ (mHurtF w hu y dawn).1 0 23 = nI t' ∧ (mHurtF v hu y dawn).1 0 23 = nI t' ∧ SQb n t' m (mHurtF w hu y dawn) (mHurtF v hu y dawn) := by
  simp only [mHurtF, e5, e6, cl_of hw (show t < 2 ^ 31 by omega), cl_of hv (show t < 2 ^ 31 by omega)]
  split
  · exact ⟨t, by omega, hw, hv, h.kset⟩
  · refine ⟨t + 1, Nat.le_refl _, by rw [kset_eq, hw, nI_1], by rw [kset_eq, hv, nI_1], ?_⟩
    rw [hw, hv]
    refine SQb.kset (SQb.upt h.kset.kset.kset.kset.kset (fun j h1 h2 => ?_))
    rcases (show j = 16 ∨ j = 17 ∨ j = 18 ∨ j = 19 by omega) with rfl | rfl | rfl | rfl <;> simp [kset_1]
def SQ (n : Nat) (w v : kW) : Prop := ∃ t m, t < 200 ∧ m < 200 ∧ w.1 0 28 = nI m ∧ v.1 0 28 = nI m ∧ w.1 0 23 = nI t ∧ v.1 0 23 = nI t ∧ SQb n t m w v
theorem mMeet0_sq {w v : kW} {n t m a b : Nat} {x y dawn : Int32} (hw : w.1 0 28 = nI m) (hv : v.1 0 28 = nI m) (hm : m < 200) (h : SQb n t m w v) : SQb n t (m + 1) (mMeet0 w a b x y dawn) (mMeet0 v a b x y dawn) := by
  simp only [mMeet0, cl_of hw (show m < 2 ^ 31 by omega), cl_of hv (show m < 2 ^ 31 by omega), h.1]
  refine SQb.upm h.kset.kset.kset.kset.kset.kset.kset (fun j h1 h2 => ?_)
  rcases (show j = 20 ∨ j = 21 ∨ j = 22 ∨ j = 23 ∨ j = 24 ∨ j = 25 by omega) with rfl | rfl | rfl | rfl | rfl | rfl <;> simp [kset_1]
theorem mMeet_sq {w v : kW} {n t m a b : Nat} {x y dawn : Int32} (e5 : v.1 5 = w.1 5) (e6 : v.1 6 = w.1 6) (hw : w.1 0 28 = nI m) (hv : v.1 0 28 = nI m) (hm : m < 200) (tw : w.1 0 23 = nI t) (tv : v.1 0 23 = nI t) (ht : t < 200) (h : SQb n t m w v) : ∃ t', t' ≤ t + 1 ∧ (mMeet w a b x y dawn).1 0 28 = nI (m + 1) ∧ (mMeet v a b x y dawn).1 0 28 = nI (m + 1) ∧ (mMeet w a b x y dawn).1 0 23 = nI t' ∧ (mMeet v a b x y dawn).1 0 23 = nI t' ∧ SQb n t' (m + 1) (mMeet w a b x y dawn) (mMeet v a b x y dawn) := by
  have h0 := mMeet0_sq (a := a) (b := b) (x := x) (y := y) (dawn := dawn) hw hv hm h
  have kw : (mMeet0 w a b x y dawn).1 0 28 = nI m := hw
  have kv : (mMeet0 v a b x y dawn).1 0 28 = nI m := hv
  have k5 : (mMeet0 v a b x y dawn).1 5 = (mMeet0 w a b x y dawn).1 5 := e5
  have k6 : (mMeet0 v a b x y dawn).1 6 = (mMeet0 w a b x y dawn).1 6 := e6
  have tw0 : (mMeet0 w a b x y dawn).1 0 23 = nI t := tw
  have tv0 : (mMeet0 v a b x y dawn).1 0 23 = nI t := tv
  simp only [mMeet, e5, cl_of hw (show m < 2 ^ 31 by omega), cl_of hv (show m < 2 ^ 31 by omega)]
  split
  · refine ⟨t, by omega, by rw [kset_eq, kw, nI_1], by rw [kset_eq, kv, nI_1], tw, tv, ?_⟩
    rw [kw, kv]
    exact h0.kset
  · split
    · obtain ⟨t', g1, g2, g3, g4⟩ := mHurtF_sq (hu := b) (y := a) (dawn := dawn) k5 k6 tw0 tv0 ht h0
      refine ⟨t', g1, ?_, ?_, ?_, ?_, ?_⟩
      · rw [kset_eq, kset_ne _ _ (Or.inl (by decide)), mHurtF_met, kw, nI_1]
      · rw [kset_eq, kset_ne _ _ (Or.inl (by decide)), mHurtF_met, kv, nI_1]
      · rw [kset_ne _ _ (Or.inr (by decide)), kset_ne _ _ (Or.inl (by decide)), g2]
      · rw [kset_ne _ _ (Or.inr (by decide)), kset_ne _ _ (Or.inl (by decide)), g3]
      · rw [kset_ne _ _ (Or.inl (by decide)), kset_ne _ _ (Or.inl (by decide)), mHurtF_met, mHurtF_met, kw, kv]
        exact g4.kset.kset
    · obtain ⟨t', g1, g2, g3, g4⟩ := mHurtF_sq (hu := a) (y := b) (dawn := dawn) k5 k6 tw0 tv0 ht h0
      refine ⟨t', g1, ?_, ?_, ?_, ?_, ?_⟩
      · rw [kset_eq, kset_ne _ _ (Or.inl (by decide)), mHurtF_met, kw, nI_1]
      · rw [kset_eq, kset_ne _ _ (Or.inl (by decide)), mHurtF_met, kv, nI_1]
      · rw [kset_ne _ _ (Or.inr (by decide)), kset_ne _ _ (Or.inl (by decide)), g2]
      · rw [kset_ne _ _ (Or.inr (by decide)), kset_ne _ _ (Or.inl (by decide)), g3]
      · rw [kset_ne _ _ (Or.inl (by decide)), kset_ne _ _ (Or.inl (by decide)), mHurtF_met, mHurtF_met, kw, kv]
        exact g4.kset.kset
theorem SInv.m {w : kW} {n m0 : Nat} (h : SInv n m0 w) (hm0 : m0 ≤ 177) : ∃ m, w.1 0 28 = nI m ∧ m < 200 := by
  obtain ⟨m, t, h1, h2, h3, h4, h5⟩ := mTk_t h hm0
  exact ⟨m, h1, h2⟩
theorem mAnswer_sq {c : Nat} {w v : kW} {n m0 i j : Nat} {deg dawn : Int32} (hS : SInv n m0 w) (hm0 : m0 ≤ 177) (hi : i < n) (hj : j < n) (hp : PEq c w v) (hq : SQ n w v) : SQ n (mAnswer w i j deg dawn) (mAnswer v i j deg dawn) := by
  obtain ⟨t, m, h1, h2, h3, h4, h5, h6, h7⟩ := id hq
  have hS' := mAnswer_inv (deg := deg) (dawn := dawn) hS hm0 hi hj
  obtain ⟨t2, u1, u2⟩ := hS'.t hm0
  obtain ⟨m2, u3, u4⟩ := hS'.m hm0
  revert u1 u3
  simp only [mAnswer, mTouch_eq hp, mSec_eq hS.1 hj hp h7.1 h7.2.1, mSec_eq hS.1 hi hp h7.1 h7.2.1]
  split
  · split
    · exact fun _ _ => hq
    · rename_i a ha
      split
      · exact fun _ _ => hq
      · rename_i b hb
        intro u1 u3
        obtain ⟨t', g1, g2, g3, g4, g5, g6⟩ := mMeet_sq (a := a) (b := b) (x := nI j) (y := nI i) (dawn := dawn) (hp.1 5 (by decide) (by decide)) (hp.1 6 (by decide) (by decide)) h3 h4 h2 h5 h6 h1 h7
        have q1 := nI_inj (by omega) (by omega) (u1.symm.trans g4)
        have q2 := nI_inj (by omega) (by omega) (u3.symm.trans g2)
        exact ⟨t', m + 1, by omega, by omega, g2, g3, g4, g5, g6⟩
  · exact fun _ _ => hq
theorem mTold_sq {c : Nat} {w v : kW} {n m0 d : Nat} (hS : SInv n m0 (kset w 0 22 0)) (hI : Ins n c w) (hm0 : m0 ≤ 177) (hp : PEq c w v) (hq : SQ n (kset w 0 22 0) (kset v 0 22 0)) : ∀ k, k ≤ c → SQ n (mTold w d k) (mTold v d k) ∧ sKeep v (mTold v d k) := by
  intro k
  induction k with
  | zero => exact fun _ => ⟨hq, sKeep.rf.num (by decide)⟩
  | succ k ih =>
    intro hk
    obtain ⟨g1, g2⟩ := ih (by omega)
    obtain ⟨v1, v2⟩ := mTold_inv (d := d) hS hI hm0 k (by omega)
    have hp' := hp.keep v2 g2
    obtain ⟨a, b, dd, g, h1, h2, h3, h4, h5, h6, h7, h8, h9, h10⟩ := (hI.keep v2).2.2 k (by omega)
    have hn := v1.1.le
    simp only [mTold, hp'.2.1 11 k (by decide) (by decide) (by omega), hp'.2.1 12 k (by decide) (by decide) (by omega), hp'.2.1 13 k (by decide) (by decide) (by omega), hp'.2.1 14 k (by decide) (by decide) (by omega), hp'.2.2.2.2 k (by omega), cl_of h7 (show a < 2 ^ 31 by omega), cl_of h8 (show b < 2 ^ 31 by omega)]
    split
    · exact ⟨mAnswer_sq v1 hm0 h1 h2 hp' g1, g2.tr (mAnswer_keep ..)⟩
    · exact ⟨g1, g2⟩
theorem mTk_sq {c : Nat} {w v : kW} {n m0 d t b : Nat} (hS : SInv n m0 w) (hm0 : m0 ≤ 177) (ht : w.1 0 23 = nI t) (ht2 : t < 200) (hb : b ≤ t) (hp : PEq c w v) (hq : SQ n w v) : ∀ k, k ≤ b → SQ n (mTk w d k) (mTk v d k) ∧ sKeep v (mTk v d k) := by
  intro k
  induction k with
  | zero => exact fun _ => ⟨hq, sKeep.rf⟩
  | succ k ih =>
    intro hk
    obtain ⟨g1, g2⟩ := ih (by omega)
    obtain ⟨v1, v2, t', e1, e2⟩ := mTk_inv (d := d) hS hm0 ht ht2 hb k (by omega)
    have hp' := hp.keep v2 g2
    obtain ⟨hP, m, t2, c1, c2, c3, c4, c5⟩ := id hS
    have e3 := nI_inj (by have := bs6_le (w.1 0 22); omega) (by omega) (c2.symm.trans ht)
    subst e3
    obtain ⟨a, b', h1, h2, h3, h4⟩ := c5 k (by omega)
    obtain ⟨r1, r2, r3, r4⟩ := e2.2.2 k (by omega)
    have hn := v1.1.le
    obtain ⟨t3, m3, q1, q2, q3, q4, q5, q6, q7⟩ := id g1
    have e4 := nI_inj (by omega) (by omega) (q5.symm.trans e2.2.1)
    subst e4
    have hk' : k < t3 := by have := e2.1; omega
    simp only [mTk, q7.2.2.1 16 k (by decide) (by decide) hk', q7.2.2.1 17 k (by decide) (by decide) hk', q7.2.2.1 18 k (by decide) (by decide) hk', q7.2.2.1 19 k (by decide) (by decide) hk', cl_of (r1.trans h3) (show a < 2 ^ 31 by omega), cl_of (r2.trans h4) (show b' < 2 ^ 31 by omega)]
    split
    · exact ⟨mAnswer_sq v1 hm0 h1 h2 hp' g1, g2.tr (mAnswer_keep ..)⟩
    · exact ⟨g1, g2⟩
theorem SQ.zero {n : Nat} {w v : kW} (h : SQ n w v) : SQ n (kset w 0 22 0) (kset v 0 22 0) := by
  obtain ⟨t, m, h1, h2, h3, h4, h5, h6, h7⟩ := h
  exact ⟨t, m, h1, h2, h3, h4, h5, h6, h7.kset⟩
theorem mDawn_sq {c : Nat} {w v : kW} {n M d : Nat} (h : DInv n M w) (hM : M ≤ 177) (hI : Ins n c w) (hp : PEq c w v) (hq : SQ n w v) : SQ n (mDawn c w d) (mDawn c v d) ∧ sKeep v (mDawn c v d) := by
  obtain ⟨m0, hm0, hS⟩ := h.start
  obtain ⟨b, hb, eb⟩ := h.t hM
  obtain ⟨g1, g2⟩ := mTold_inv (d := d) hS hI (by omega) c (Nat.le_refl _)
  obtain ⟨t', e1, e2⟩ := mTold_ext (d := d) hS hI (by omega) eb (by omega) c (Nat.le_refl _)
  obtain ⟨f1, f2⟩ := mTold_sq (d := d) hS hI (by omega) hp hq.zero c (Nat.le_refl _)
  obtain ⟨t, m, h1, h2, h3, h4, h5, h6, h7⟩ := id hq
  have e3 := nI_inj (by omega) (by omega) (h5.symm.trans eb)
  subst e3
  obtain ⟨k1, k2⟩ := mTk_sq (d := d) g1 (by omega) e2.2.1 e1 e2.1 (hp.keep g2 f2) f1 t (Nat.le_refl _)
  unfold mDawn
  rw [cl_of h5 (by omega), cl_of h6 (by omega)]
  exact ⟨k1, f2.tr k2⟩
theorem mZero_15 (w : kW) : ∀ n p, p < n → (mZero w n).1 15 p = 0 := by
  intro n
  induction n with
  | zero => intro p h; omega
  | succ n ih =>
    intro p h
    rw [mZero, kset_1, if_pos rfl]
    by_cases e : p = n
    · rw [if_pos e]
    · rw [if_neg e]; exact ih p (by omega)
theorem mBegin_sq {w v : kW} {n : Nat} : SQ n (mBegin n w) (mBegin n v) := by
  refine ⟨0, 0, by decide, by decide, (mZero_23 w n).2, (mZero_23 v n).2, (mZero_23 w n).1, (mZero_23 v n).1, rfl, fun p hp => ?_, fun _ _ _ _ h => absurd h (Nat.not_lt_zero _), fun _ _ _ _ h => absurd h (Nat.not_lt_zero _)⟩
  show (mZero v n).1 15 p = (mZero w n).1 15 p
  rw [mZero_15 v n p hp, mZero_15 w n p hp]
theorem mAhead_sq {c : Nat} {w v : kW} {n : Nat} (hP : Pn n w) (hI : Ins n c w) (hp : PEq c w v) : ∀ d, d ≤ 60 → SQ n (mAhead n c w d) (mAhead n c v d) := by
  intro d
  induction d with
  | zero => exact fun _ => mBegin_sq
  | succ d ih =>
    intro hd
    obtain ⟨g1, g2⟩ := mAhead_inv hP hI d (by omega)
    exact (mDawn_sq g1 (by omega) (hI.keep g2) (hp.keep g2 (mAhead_inv (hp.pn hP) (hp.ins hI) d (by omega)).2) (ih (by omega))).1
theorem mGo_sq {c : Nat} {w v : kW} {n d : Nat} (hP : Pn n w) (hI : Ins n c w) (hp : PEq c w v) (hd : d ≤ 60) : SQ n (mGo n c w d) (mGo n c v d) := (mAhead_sq hP hI hp d hd).zero
