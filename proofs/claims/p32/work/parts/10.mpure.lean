/-- what a season leaves as it was -/
def sKeep (w w' : kW) : Prop := (∀ c, c ≠ 0 → (c < 15 ∨ 25 < c) → w'.1 c = w.1 c) ∧ (∀ j, j ≠ 22 → j ≠ 23 → j ≠ 28 → w'.1 0 j = w.1 0 j) ∧ w'.2 = w.2
theorem sKeep.rf {w : kW} : sKeep w w := ⟨fun _ _ _ => rfl, fun _ _ _ _ => rfl, rfl⟩
theorem sKeep.tr {w v u : kW} (h1 : sKeep w v) (h2 : sKeep v u) : sKeep w u := ⟨fun c a b => (h2.1 c a b).trans (h1.1 c a b), fun j a b c => (h2.2.1 j a b c).trans (h1.2.1 j a b c), h2.2.2.trans h1.2.2⟩
theorem sKeep.row {w v : kW} {c k : Nat} {x : Int32} (h : sKeep w v) (hc : 15 ≤ c ∧ c ≤ 25) : sKeep w (kset v c k x) := by
  refine h.tr ⟨fun c' h1 h2 => kset_row _ _ _ _ (by omega), fun j _ _ _ => kset_ne _ _ (Or.inl (by omega)), rfl⟩
theorem sKeep.num {w v : kW} {k : Nat} {x : Int32} (h : sKeep w v) (hc : k = 22 ∨ k = 23 ∨ k = 28) : sKeep w (kset v 0 k x) := by
  refine h.tr ⟨fun c' h1 h2 => kset_row _ _ _ _ (by omega), fun j _ _ _ => kset_ne _ _ (Or.inr (by omega)), rfl⟩
theorem mHurtF_keep (w : kW) (hu y : Nat) (dawn : Int32) : sKeep w (mHurtF w hu y dawn) := by
  simp only [mHurtF]
  split
  · exact sKeep.rf.row (by decide)
  · exact (((((sKeep.rf.row (by decide)).row (by decide)).row (by decide)).row (by decide)).row (by decide)).num (by decide)
theorem mMeet0_keep (w : kW) (a b : Nat) (x y dawn : Int32) : sKeep w (mMeet0 w a b x y dawn) := by
  simp only [mMeet0]
  exact ((((((sKeep.rf.num (by decide)).row (by decide)).row (by decide)).row (by decide)).row (by decide)).row (by decide)).row (by decide)
theorem mMeet_keep (w : kW) (a b : Nat) (x y dawn : Int32) : sKeep w (mMeet w a b x y dawn) := by
  simp only [mMeet]
  refine sKeep.num ?_ (by decide)
  split
  · exact mMeet0_keep ..
  · split
    · exact ((mMeet0_keep ..).tr (mHurtF_keep ..)).row (by decide)
    · exact ((mMeet0_keep ..).tr (mHurtF_keep ..)).row (by decide)
theorem mAnswer_keep (w : kW) (i j : Nat) (deg dawn : Int32) : sKeep w (mAnswer w i j deg dawn) := by
  simp only [mAnswer]
  split
  · split
    · exact sKeep.rf
    · split
      · exact sKeep.rf
      · exact mMeet_keep ..
  · exact sKeep.rf
theorem Pn.keep {w v : kW} {n : Nat} (h : Pn n w) (hk : sKeep w v) : Pn n v := by
  have e4 := hk.1 4 (by decide) (by decide)
  have e5 := hk.1 5 (by decide) (by decide)
  have e6 := hk.1 6 (by decide) (by decide)
  have e7 := hk.1 7 (by decide) (by decide)
  have e0 := hk.2.1 5 (by decide) (by decide) (by decide)
  unfold Pn fr at *
  rw [e4, e5, e6, e7, e0]
  exact h
/-- the insults: how many, what is told of them -/
def Ins (n c : Nat) (w : kW) : Prop := w.1 0 15 = nI c ∧ c ≤ 9 ∧ ∀ k, k < c → ∃ a b d g, a < n ∧ b < n ∧ a ≠ b ∧ d < 30 ∧ 1 ≤ g ∧ g ≤ 9 ∧ w.1 11 k = nI a ∧ w.1 12 k = nI b ∧ w.1 13 k = nI d ∧ w.1 14 k = nI g
theorem Ins.keep {w v : kW} {n c : Nat} (h : Ins n c w) (hk : sKeep w v) : Ins n c v := by
  have e4 := hk.1 11 (by decide) (by decide)
  have e5 := hk.1 12 (by decide) (by decide)
  have e6 := hk.1 13 (by decide) (by decide)
  have e7 := hk.1 14 (by decide) (by decide)
  have e0 := hk.2.1 15 (by decide) (by decide) (by decide)
  unfold Ins at *
  rw [e4, e5, e6, e7, e0]
  exact h
def bs6 (x : Int32) : Nat := (bt x 0).toNat + (bt x 1).toNat + (bt x 2).toNat + (bt x 3).toNat + (bt x 4).toNat + (bt x 5).toNat
theorem bs6_le (x : Int32) : bs6 x ≤ 6 := by
  have h : ∀ b : Bool, b.toNat ≤ 1 := by decide
  have := h (bt x 0); have := h (bt x 1); have := h (bt x 2); have := h (bt x 3); have := h (bt x 4); have := h (bt x 5)
  unfold bs6
  omega
theorem bs6_0 : bs6 0 = 0 := by decide
theorem bt_two (x : Int32) {a b k : Nat} (ha : a < 6) (hb : b < 6) (hk : k < 6) : bt (x ||| (1 <<< (nI a &&& 31) ||| 1 <<< (nI b &&& 31))) k = (bt x k || (decide (k = a) || decide (k = b))) := by
  rw [b_or, b_or, bit_one (by omega) (by omega), bit_one (by omega) (by omega)]
theorem bs6_two {x : Int32} {a b : Nat} (ha : a < 6) (hb : b < 6) (hab : a ≠ b) (h1 : bt x a = false) (h2 : bt x b = false) : bs6 (x ||| (1 <<< (nI a &&& 31) ||| 1 <<< (nI b &&& 31))) = bs6 x + 2 := by
  unfold bs6
  rw [bt_two x ha hb (by decide), bt_two x ha hb (by decide), bt_two x ha hb (by decide), bt_two x ha hb (by decide), bt_two x ha hb (by decide), bt_two x ha hb (by decide)]
  rcases (show (a = 0 ∨ a = 1 ∨ a = 2 ∨ a = 3 ∨ a = 4 ∨ a = 5) by omega) with rfl | rfl | rfl | rfl | rfl | rfl <;> rcases (show (b = 0 ∨ b = 1 ∨ b = 2 ∨ b = 3 ∨ b = 4 ∨ b = 5) by omega) with rfl | rfl | rfl | rfl | rfl | rfl <;> first | exact absurd rfl hab | (simp [h1, h2]; try omega)
/-- the takings' rows -/
def TkOk (n t : Nat) (w : kW) : Prop := ∀ k, k < t → ∃ a b, a < n ∧ b < n ∧ w.1 16 k = nI a ∧ w.1 17 k = nI b
def SInv (n m0 : Nat) (w : kW) : Prop := Pn n w ∧ ∃ m t, w.1 0 28 = nI m ∧ w.1 0 23 = nI t ∧ t ≤ m ∧ 2 * m = 2 * m0 + bs6 (w.1 0 22) ∧ TkOk n t w
theorem mHurtF_tk {w : kW} {n t hu y : Nat} {dawn : Int32} (hP : Pn n w) (hh : hu < n) (hy : y < n) (ht : w.1 0 23 = nI t) (ht2 : t < 200) (hT : TkOk n t w) : ∃ t', t ≤ t' ∧ t' ≤ t + 1 ∧ (mHurtF w hu y dawn).1 0 23 = nI t' ∧ TkOk n t' (mHurtF w hu y dawn) ∧ (mHurtF w hu y dawn).1 0 22 = w.1 0 22 := by
  simp only [mHurtF]
  split
  · refine ⟨t, Nat.le_refl _, by omega, ht, fun k hk => ?_, rfl⟩
    obtain ⟨a, b, h1, h2, h3, h4⟩ := hT k hk
    exact ⟨a, b, h1, h2, h3, h4⟩
  · refine ⟨t + 1, by omega, Nat.le_refl _, ?_, fun k hk => ?_, rfl⟩
    · rw [kset_eq, ht, nI_1]
    · rw [cl_of ht (by omega)]
      have hf := hP.frd (k := 2 * hu) (by omega)
      by_cases e : k = t
      · subst e
        exact ⟨y, fr w (2 * hu), hy, hf.1, by simp [kset_1], by simp [kset_1, hf.2]⟩
      · obtain ⟨a, b, h1, h2, h3, h4⟩ := hT k (by omega)
        exact ⟨a, b, h1, h2, by simp [kset_1, e, h3], by simp [kset_1, e, h4]⟩
theorem TkOk.of {w v : kW} {n t : Nat} (h : TkOk n t w) (h1 : v.1 16 = w.1 16) (h2 : v.1 17 = w.1 17) : TkOk n t v := by
  unfold TkOk at *
  rw [h1, h2]
  exact h
theorem mMeet_inv {w : kW} {n m0 a b : Nat} {x y dawn : Int32} (h : SInv n m0 w) (hm0 : m0 ≤ 177) (ha : a < n) (hb : b < n) (hab : a ≠ b) (h1 : bt (w.1 0 22) a = false) (h2 : bt (w.1 0 22) b = false) : SInv n m0 (mMeet w a b x y dawn) := by
  obtain ⟨hP, m, t, hm, ht, htm, hmm, hT⟩ := h
  have hn := hP.le
  have hb6 := bs6_le (w.1 0 22)
  have k0 := mMeet0_keep w a b x y dawn
  have hP0 := hP.keep k0
  have ht0 : (mMeet0 w a b x y dawn).1 0 23 = nI t := ht
  have hT0 : TkOk n t (mMeet0 w a b x y dawn) := hT.of rfl rfl
  have hbit : (mMeet0 w a b x y dawn).1 0 22 = w.1 0 22 ||| (1 <<< (nI a &&& 31) ||| 1 <<< (nI b &&& 31)) := rfl
  have e2 := bs6_two (by omega) (by omega) hab h1 h2
  refine ⟨hP.keep (mMeet_keep ..), ?_⟩
  simp only [mMeet]
  split
  · exact ⟨m + 1, t, by rw [kset_eq, ← nI_1, ← hm]; rfl, ht, by omega, by rw [kset_ne _ _ (by decide), hbit, e2]; omega, hT.of rfl rfl⟩
  · split
    · obtain ⟨t', g1, g2, g3, g4, g5⟩ := mHurtF_tk (dawn := dawn) hP0 hb ha ht0 (by omega) hT0
      refine ⟨m + 1, t', ?_, by rw [kset_ne _ _ (by decide), kset_ne _ _ (Or.inl (by decide)), g3], by omega, ?_, g4.of rfl rfl⟩
      · rw [kset_eq, kset_ne _ _ (Or.inl (by decide)), mHurtF_met, ← nI_1, ← hm]; rfl
      · rw [kset_ne _ _ (by decide), kset_ne _ _ (Or.inl (by decide)), g5, hbit, e2]; omega
    · obtain ⟨t', g1, g2, g3, g4, g5⟩ := mHurtF_tk (dawn := dawn) hP0 ha hb ht0 (by omega) hT0
      refine ⟨m + 1, t', ?_, by rw [kset_ne _ _ (by decide), kset_ne _ _ (Or.inl (by decide)), g3], by omega, ?_, g4.of rfl rfl⟩
      · rw [kset_eq, kset_ne _ _ (Or.inl (by decide)), mHurtF_met, ← nI_1, ← hm]; rfl
      · rw [kset_ne _ _ (by decide), kset_ne _ _ (Or.inl (by decide)), g5, hbit, e2]; omega
theorem mAnswer_inv {w : kW} {n m0 i j : Nat} {deg dawn : Int32} (h : SInv n m0 w) (hm0 : m0 ≤ 177) (hi : i < n) (hj : j < n) : SInv n m0 (mAnswer w i j deg dawn) := by
  simp only [mAnswer]
  split
  · split
    · exact h
    · rename_i a ha
      have g1 := mSec_some h.1 hj ha
      split
      · exact h
      · rename_i b hb
        have g2 := mSec_some h.1 hi hb
        exact mMeet_inv h hm0 g1.1 g2.1 (fun e => g2.2.2.2.1 (by rw [e])) g1.2.2.2.2.2.2 g2.2.2.2.2.2.2
  · exact h
theorem mTold_inv {w : kW} {n c m0 d : Nat} (h : SInv n m0 (kset w 0 22 0)) (hI : Ins n c w) (hm0 : m0 ≤ 177) : ∀ k, k ≤ c → SInv n m0 (mTold w d k) ∧ sKeep w (mTold w d k) := by
  intro k
  induction k with
  | zero => intro _; exact ⟨h, sKeep.rf.num (by decide)⟩
  | succ k ih =>
    intro hk
    obtain ⟨g1, g2⟩ := ih (by omega)
    simp only [mTold]
    split
    · obtain ⟨a, b, dd, g, h1, h2, h3, h4, h5, h6, h7, h8, h9, h10⟩ := (hI.keep g2).2.2 k (by omega)
      have hn := g1.1.le
      rw [cl_of h7 (by omega), cl_of h8 (by omega)]
      exact ⟨mAnswer_inv g1 hm0 h1 h2, g2.tr (mAnswer_keep ..)⟩
    · exact ⟨g1, g2⟩
theorem mTk_t {w : kW} {n m0 : Nat} (h : SInv n m0 w) (hm0 : m0 ≤ 177) : ∃ m t, w.1 0 28 = nI m ∧ m < 200 ∧ w.1 0 23 = nI t ∧ t < 200 ∧ TkOk n t w := by
  obtain ⟨hP, m, t, hm, ht, htm, hmm, hT⟩ := h
  have hb6 := bs6_le (w.1 0 22)
  exact ⟨m, t, hm, by omega, ht, by omega, hT⟩
