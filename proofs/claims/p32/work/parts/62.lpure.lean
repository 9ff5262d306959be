/-! ===== the law's season beside the reference's: what is told of both ===== -/
def gKp (W W' : kW) : Prop := (∀ j, j ≠ 41 → j ≠ 42 → W'.1 j = W.1 j) ∧ W'.2 = W.2
theorem gKp.rf {W : kW} : gKp W W := ⟨fun _ _ _ => rfl, rfl⟩
theorem gKp.tr {W V U : kW} (h1 : gKp W V) (h2 : gKp V U) : gKp W U := ⟨fun j a b => (h2.1 j a b).trans (h1.1 j a b), h2.2.trans h1.2⟩
theorem gKp.row {W V : kW} {c k : Nat} {x : Int32} (h : gKp W V) (hc : c = 41 ∨ c = 42) : gKp W (kset V c k x) := ⟨fun j a b => (kset_row _ _ _ _ (by omega)).trans (h.1 j a b), h.2⟩
/-- the insults of the law's row -/
def gIn (c : Nat) (W u : kW) : Prop := ∀ k, k < c → W.1 40 (4 * k) = u.1 11 k ∧ W.1 40 (4 * k + 1) = u.1 12 k ∧ W.1 40 (4 * k + 2) = u.1 13 k ∧ W.1 40 (4 * k + 3) = u.1 14 k
theorem gIn.keep {c : Nat} {W W' u u' : kW} (h : gIn c W u) (h1 : W'.1 40 = W.1 40) (h2 : sKeep u u') : gIn c W' u' := by
  unfold gIn at *
  rw [h1, h2.1 11 (by decide) (by decide), h2.1 12 (by decide) (by decide), h2.1 13 (by decide) (by decide), h2.1 14 (by decide) (by decide)]
  exact h
theorem gPn.keep {n : Nat} {W W' u u' : kW} (h : gPn n W u) (h1 : W'.1 39 = W.1 39) (h2 : sKeep u u') : gPn n W' u' := by
  refine ⟨h.1.keep h2, ?_⟩
  rw [h1, h2.1 4 (by decide) (by decide), h2.1 5 (by decide) (by decide), h2.1 6 (by decide) (by decide), h2.1 7 (by decide) (by decide)]
  exact h.2
def gRb (n : Nat) (td : Int32) (m : Nat) (W u : kW) : Prop := W.1 41 7 = u.1 0 22 ∧ (∀ p, p < n → W.1 41 (8 + p) = u.1 15 p) ∧ ∀ k, k < m → td = nI k → ∀ j, j < 6 → W.1 41 (1 + j) = u.1 (20 + j) k
def gYb (t y : Nat) (W u : kW) : Prop := ∀ k, k < y → W.1 42 (12 + 3 * k) = u.1 16 (t + k) ∧ W.1 42 (13 + 3 * k) = u.1 17 (t + k) ∧ W.1 42 (14 + 3 * k) = u.1 18 (t + k)
/-- a dawn under way: t takings ahead of it, y of its own -/
def gS (n : Nat) (td : Int32) (t y : Nat) (W u : kW) : Prop := (∃ m, m < 200 ∧ u.1 0 28 = nI m ∧ W.1 41 0 = nI m ∧ gRb n td m W u) ∧ u.1 0 23 = nI (t + y) ∧ t + y < 200 ∧ 2 * y ≤ bs6 (u.1 0 22) ∧ gYb t y W u
/-- two bits off, one by one -/
theorem bt_or1 (x : Int32) {a k : Nat} (ha : a < 6) (hk : k < 6) : bt (x ||| 1 <<< (nI a &&& 31)) k = (bt x k || decide (k = a)) := by
  rw [b_or, bit_one (by omega) (by omega)]
theorem lsec1 {n i j : Nat} {d busy : Int32} {W u : kW} (hL : gPn n W u) (hi : i < n) (hj : j < n) (hb : busy = u.1 0 22) (hr : ∀ p, p < n → W.1 41 (8 + p) = u.1 15 p) : lSec W u j (nI i) busy d = mSec u j (nI i) (-9) d := by
  have hn := hL.1.le
  apply f_cg
  intro x hx
  have hl := mCh_lt hL.1 hj hx
  rw [Bool.eq_iff_iff, decide_eq_true_eq, decide_eq_true_eq]
  unfold lMay mMay mFree
  rw [hb, hL.2.2.2 x hl, hr x hl]
  constructor
  · rintro ⟨h1, h2, h3, h4, h5⟩; exact ⟨h1, h2, nI_ne9 (by omega), h4, h5, h3⟩
  · rintro ⟨h1, h2, -, h4, h5, h3⟩; exact ⟨h1, h2, h3, h4, h5⟩
theorem lsec2 {n i j a : Nat} {d busy : Int32} {W u : kW} (hL : gPn n W u) (hi : i < n) (hj : j < n) (ha : a < n) (hb : busy = u.1 0 22) (hr : ∀ p, p < n → W.1 41 (8 + p) = u.1 15 p) : lSec W u i (nI j) (busy ||| 1 <<< (nI a &&& 31)) d = mSec u i (nI j) (nI a) d := by
  have hn := hL.1.le
  apply f_cg
  intro x hx
  have hl := mCh_lt hL.1 hi hx
  rw [Bool.eq_iff_iff, decide_eq_true_eq, decide_eq_true_eq]
  unfold lMay mMay mFree
  rw [hb, hL.2.2.2 x hl, hr x hl, bt_or1 _ (by omega) (by omega), Bool.or_eq_false_iff, decide_eq_false_iff_not, nI_neq (a := x) (b := a) (by omega) (by omega)]
  constructor
  · rintro ⟨h1, h2, ⟨h3, h6⟩, h4, h5⟩; exact ⟨h1, h2, h6, h4, h5, h3⟩
  · rintro ⟨h1, h2, h6, h4, h5, h3⟩; exact ⟨h1, h2, ⟨h3, h6⟩, h4, h5⟩
/-! ===== a meeting ===== -/
abbrev mB (a b : Nat) : Int32 := 1 <<< (nI a &&& 31) ||| 1 <<< (nI b &&& 31)
def mM0 (u : kW) (m a b : Nat) (X Y D : Int32) : kW := kset (kset (kset (kset (kset (kset (kset u 0 22 (u.1 0 22 ||| mB a b)) 20 m D) 21 m (nI a)) 22 m (nI b)) 23 m X) 24 m Y) 25 m (-9)
theorem mM0_eq {u : kW} {m a b : Nat} {X Y D : Int32} (hm : u.1 0 28 = nI m) (hm2 : m < 200) : mMeet0 u a b X Y D = mM0 u m a b X Y D := by
  simp only [mMeet0, cl_of hm (show m < 2 ^ 31 by omega)]
  rfl
theorem mMeet_n {u : kW} {m a b : Nat} {X Y D : Int32} (hm : u.1 0 28 = nI m) (hm2 : m < 200) (h : u.1 5 a = u.1 5 b) : mMeet u a b X Y D = kset (mM0 u m a b X Y D) 0 28 (nI (m + 1)) := by
  simp only [mMeet, if_pos h, mM0_eq hm hm2]
  rw [show (mM0 u m a b X Y D).1 0 28 = u.1 0 28 from rfl, hm, nI_1]
theorem mMeet_b {u : kW} {m a b : Nat} {X Y D : Int32} (hm : u.1 0 28 = nI m) (hm2 : m < 200) (h : ¬ u.1 5 a = u.1 5 b) (h2 : u.1 5 b ≤ u.1 5 a) : mMeet u a b X Y D = kset (kset (mHurtF (mM0 u m a b X Y D) b a D) 25 m (nI b)) 0 28 (nI (m + 1)) := by
  simp only [mMeet, if_neg h, if_pos h2, mM0_eq hm hm2, cl_of hm (show m < 2 ^ 31 by omega)]
  rw [kset_ne _ _ (Or.inl (by decide)), mHurtF_met, show (mM0 u m a b X Y D).1 0 28 = u.1 0 28 from rfl, hm, nI_1]
theorem mMeet_a {u : kW} {m a b : Nat} {X Y D : Int32} (hm : u.1 0 28 = nI m) (hm2 : m < 200) (h : ¬ u.1 5 a = u.1 5 b) (h2 : ¬ u.1 5 b ≤ u.1 5 a) : mMeet u a b X Y D = kset (kset (mHurtF (mM0 u m a b X Y D) a b D) 25 m (nI a)) 0 28 (nI (m + 1)) := by
  simp only [mMeet, if_neg h, if_neg h2, mM0_eq hm hm2, cl_of hm (show m < 2 ^ 31 by omega)]
  rw [kset_ne _ _ (Or.inl (by decide)), mHurtF_met, show (mM0 u m a b X Y D).1 0 28 = u.1 0 28 from rfl, hm, nI_1]
/-- the law's row of a season once a meeting is told -/
def gW4 (W V : kW) (td : Int32) (m a b : Nat) (X Y D hv : Int32) : Prop := (∀ c, c ≠ 41 → V.1 c = W.1 c) ∧ V.2 = W.2 ∧ V.1 41 0 = nI (m + 1) ∧ V.1 41 7 = (W.1 41 7 ||| mB a b) ∧ (∀ p, p < 6 → V.1 41 (8 + p) = W.1 41 (8 + p)) ∧ (td = nI m → V.1 41 1 = D ∧ V.1 41 2 = nI a ∧ V.1 41 3 = nI b ∧ V.1 41 4 = X ∧ V.1 41 5 = Y ∧ V.1 41 6 = hv) ∧ (¬ td = nI m → ∀ j, j < 6 → V.1 41 (1 + j) = W.1 41 (1 + j))
theorem gW4.rows {W V u v : kW} {td : Int32} {m a b : Nat} {X Y D hv : Int32} (h : gW4 W V td m a b X Y D hv) (hm : m < 200) (h0 : ∀ k, k < m → td = nI k → ∀ j, j < 6 → W.1 41 (1 + j) = u.1 (20 + j) k) (hv1 : ∀ k, k < m → ∀ j, j < 6 → v.1 (20 + j) k = u.1 (20 + j) k) (e0 : v.1 20 m = D) (e1 : v.1 21 m = nI a) (e2 : v.1 22 m = nI b) (e3 : v.1 23 m = X) (e4 : v.1 24 m = Y) (e5 : v.1 25 m = hv) : ∀ k, k < m + 1 → td = nI k → ∀ j, j < 6 → V.1 41 (1 + j) = v.1 (20 + j) k := by
  intro k hk ht j hj
  by_cases e : k = m
  · subst e
    obtain ⟨a1, a2, a3, a4, a5, a6⟩ := h.2.2.2.2.2.1 ht
    rcases (show j = 0 ∨ j = 1 ∨ j = 2 ∨ j = 3 ∨ j = 4 ∨ j = 5 by omega) with rfl | rfl | rfl | rfl | rfl | rfl
    · exact a1.trans e0.symm
    · exact a2.trans e1.symm
    · exact a3.trans e2.symm
    · exact a4.trans e3.symm
    · exact a5.trans e4.symm
    · exact a6.trans e5.symm
  · have hne : ¬ td = nI m := fun z => e (nI_inj (by omega) (by omega) (ht.symm.trans z))
    rw [h.2.2.2.2.2.2 hne j hj, hv1 k (by omega) j hj]
    exact h0 k (by omega) ht j hj
theorem gMeet_n {n : Nat} {td : Int32} {t y m a b : Nat} {X Y D : Int32} {W V u : kW} (hn : n ≤ 6) (ha : a < 6) (hb : b < 6) (hab : a ≠ b) (f1 : bt (u.1 0 22) a = false) (f2 : bt (u.1 0 22) b = false) (h : gS n td t y W u) (hm : u.1 0 28 = nI m) (hm2 : m < 199) (he : u.1 5 a = u.1 5 b) (hV : gW4 W V td m a b X Y D (-9)) : gS n td t y V (mMeet u a b X Y D) := by
  obtain ⟨⟨m', g1, g2, g3, g4, g5, g6⟩, k1, k2, k3, k4⟩ := h
  have q1 := nI_inj (by omega) (by omega) (g2.symm.trans hm)
  subst q1
  rw [mMeet_n hm (by omega) he]
  have b1 := bs6_two ha hb hab f1 f2
  refine ⟨⟨m' + 1, by omega, kset_eq _ _ _ _, hV.2.2.1, ?_, fun p hp => ?_, ?_⟩, k1, k2, ?_, ?_⟩
  · rw [hV.2.2.2.1, g4]; rfl
  · rw [hV.2.2.2.2.1 p (by omega)]; exact g5 p hp
  · refine hV.rows (by omega) g6 (fun k hk j hj => ?_) ?_ ?_ ?_ ?_ ?_ ?_
    · rcases (show j = 0 ∨ j = 1 ∨ j = 2 ∨ j = 3 ∨ j = 4 ∨ j = 5 by omega) with rfl | rfl | rfl | rfl | rfl | rfl <;> simp [kset_1, mM0, Nat.ne_of_lt hk]
    all_goals simp [kset_1, mM0]
  · show 2 * y ≤ bs6 (u.1 0 22 ||| mB a b)
    rw [b1]; omega
  · intro k hk
    rw [hV.1 42 (by decide)]
    exact k4 k hk
theorem gMeet_h {n : Nat} {td : Int32} {t y m a b hu w : Nat} {X Y D Z : Int32} {W V V' u : kW} (hn : n ≤ 6) (ha : a < 6) (hb : b < 6) (hab : a ≠ b) (f1 : bt (u.1 0 22) a = false) (f2 : bt (u.1 0 22) b = false) (hhu : hu < n) (h : gS n td t y W u) (hm : u.1 0 28 = nI m) (hm2 : m < 199) (ht2 : t + y < 199) (hV : gW4 W V td m a b X Y D (nI hu))
    (hV' : V' = if u.1 6 (2 * hu) = nI w then kset (kset V 41 (8 + hu) (D + (u.1 5 w - u.1 5 hu) + 2)) 41 14 Z else kset (kset (kset (kset (kset V 41 (8 + hu) (D + (u.1 5 w - u.1 5 hu) + 2)) 41 14 Z) 42 (12 + 3 * y) (nI w)) 42 (13 + 3 * y) (u.1 6 (2 * hu))) 42 (14 + 3 * y) (u.1 5 w - u.1 5 hu)) : gS n td t (if u.1 6 (2 * hu) = nI w then y else y + 1) V' (kset (kset (mHurtF (mM0 u m a b X Y D) hu w D) 25 m (nI hu)) 0 28 (nI (m + 1))) := by
  obtain ⟨⟨m', g1, g2, g3, g4, g5, g6⟩, k1, k2, k3, k4⟩ := h
  have q1 := nI_inj (by omega) (by omega) (g2.symm.trans hm)
  subst q1
  have b1 := bs6_two ha hb hab f1 f2
  have e0 : ∀ c, c ≠ 0 → (c < 20 ∨ 25 < c) → (mM0 u m' a b X Y D).1 c = u.1 c := fun c h1 h2 => by
    simp only [mM0]
    rw [kset_row _ _ _ _ (by omega), kset_row _ _ _ _ (by omega), kset_row _ _ _ _ (by omega), kset_row _ _ _ _ (by omega), kset_row _ _ _ _ (by omega), kset_row _ _ _ _ (by omega), kset_row _ _ _ _ (by omega)]
  have e1 : (mM0 u m' a b X Y D).1 0 23 = nI (t + y) := k1
  simp only [mHurtF, e0 5 (by decide) (by decide), e0 6 (by decide) (by decide), cl_of e1 (show t + y < 2 ^ 31 by omega)]
  by_cases hf : u.1 6 (2 * hu) = nI w
  · simp only [if_pos hf] at hV' ⊢
    subst hV'
    refine ⟨⟨m' + 1, by omega, kset_eq _ _ _ _, ?_, ?_, fun p hp => ?_, ?_⟩, k1, k2, ?_, ?_⟩
    · rw [kset_ne _ _ (by omega), kset_ne _ _ (by omega)]; exact hV.2.2.1
    · rw [kset_ne _ _ (by omega), kset_ne _ _ (by omega), hV.2.2.2.1, g4]; rfl
    · rw [kset_ne _ _ (by omega)]
      by_cases e : p = hu
      · subst e
        rw [kset_eq, kset_ne _ _ (Or.inl (by decide)), kset_ne _ _ (Or.inl (by decide)), kset_eq]
      · rw [kset_ne _ _ (by omega), kset_ne _ _ (Or.inl (by decide)), kset_ne _ _ (Or.inl (by decide)), kset_ne _ _ (Or.inr e), e0 15 (by decide) (by decide), hV.2.2.2.2.1 p (by omega)]
        exact g5 p hp
    · intro k hk htd j hj
      rw [kset_ne _ _ (by omega), kset_ne _ _ (by omega)]
      revert k hk htd j hj
      refine hV.rows (by omega) g6 (fun k hk j hj => ?_) ?_ ?_ ?_ ?_ ?_ ?_
      · rcases (show j = 0 ∨ j = 1 ∨ j = 2 ∨ j = 3 ∨ j = 4 ∨ j = 5 by omega) with rfl | rfl | rfl | rfl | rfl | rfl <;> simp [kset_1, mM0, Nat.ne_of_lt hk]
      all_goals simp [kset_1, mM0]
    · show 2 * y ≤ bs6 (u.1 0 22 ||| mB a b)
      rw [b1]; omega
    · intro k hk
      have h1 := k4 k hk
      refine ⟨?_, ?_, ?_⟩
      · rw [kset_ne _ _ (by omega), kset_ne _ _ (by omega), hV.1 42 (by decide), h1.1]
        simp [kset_1, mM0]
      · rw [kset_ne _ _ (by omega), kset_ne _ _ (by omega), hV.1 42 (by decide), h1.2.1]
        simp [kset_1, mM0]
      · rw [kset_ne _ _ (by omega), kset_ne _ _ (by omega), hV.1 42 (by decide), h1.2.2]
        simp [kset_1, mM0]
  · simp only [if_neg hf] at hV' ⊢
    subst hV'
    refine ⟨⟨m' + 1, by omega, kset_eq _ _ _ _, ?_, ?_, fun p hp => ?_, ?_⟩, ?_, by omega, ?_, ?_⟩
    · rw [kset_ne _ _ (by omega), kset_ne _ _ (by omega), kset_ne _ _ (by omega), kset_ne _ _ (by omega), kset_ne _ _ (by omega)]; exact hV.2.2.1
    · rw [kset_ne _ _ (by omega), kset_ne _ _ (by omega), kset_ne _ _ (by omega), kset_ne _ _ (by omega), kset_ne _ _ (by omega), hV.2.2.2.1, g4]; rfl
    · rw [kset_ne _ _ (by omega), kset_ne _ _ (by omega), kset_ne _ _ (by omega), kset_ne _ _ (by omega)]
      by_cases e : p = hu
      · subst e
        simp [kset_1]
      · rw [kset_ne _ _ (by omega), hV.2.2.2.2.1 p (by omega), g5 p hp]
        simp [kset_1, e, mM0]
    · intro k hk htd j hj
      rw [kset_ne _ _ (by omega), kset_ne _ _ (by omega), kset_ne _ _ (by omega), kset_ne _ _ (by omega), kset_ne _ _ (by omega)]
      revert k hk htd j hj
      refine hV.rows (by omega) g6 (fun k hk j hj => ?_) ?_ ?_ ?_ ?_ ?_ ?_
      · rcases (show j = 0 ∨ j = 1 ∨ j = 2 ∨ j = 3 ∨ j = 4 ∨ j = 5 by omega) with rfl | rfl | rfl | rfl | rfl | rfl <;> simp [kset_1, mM0, Nat.ne_of_lt hk]
      all_goals simp [kset_1, mM0]
    · rw [kset_ne _ _ (by omega), kset_ne _ _ (by omega), kset_eq, e1, nI_1, Nat.add_assoc]
    · show 2 * (y + 1) ≤ bs6 (u.1 0 22 ||| mB a b)
      rw [b1]; omega
    · intro k hk
      by_cases e : k = y
      · subst e
        refine ⟨?_, ?_, ?_⟩ <;> simp [kset_1]
      · have h1 := k4 k (by omega)
        have ek : ¬ t + k = t + y := by omega
        refine ⟨?_, ?_, ?_⟩
        · rw [kset_ne _ _ (by omega), kset_ne _ _ (by omega), kset_ne _ _ (by omega), kset_ne _ _ (by omega), kset_ne _ _ (by omega), hV.1 42 (by decide), h1.1]
          simp [kset_1, e, mM0]
        · rw [kset_ne _ _ (by omega), kset_ne _ _ (by omega), kset_ne _ _ (by omega), kset_ne _ _ (by omega), kset_ne _ _ (by omega), hV.1 42 (by decide), h1.2.1]
          simp [kset_1, e, mM0]
        · rw [kset_ne _ _ (by omega), kset_ne _ _ (by omega), kset_ne _ _ (by omega), kset_ne _ _ (by omega), kset_ne _ _ (by omega), hV.1 42 (by decide), h1.2.2]
          simp [kset_1, e, mM0]
