/-! ===== arrests ===== -/
theorem mAnswer_all {w : kW} {n i j : Nat} {deg d : Int32} (hP : Pn n w) (ha : ∀ p, p < n → w.1 7 p = 1) (hj : j < n) : mAnswer w i j deg d = w := by
  by_cases h : mTouch w j ≤ deg
  · refine mAnswer_n1 h ?_
    cases hs : mSec w j (nI i) (-9) d with
    | none => rfl
    | some a =>
      have g := mSec_some hP hj hs
      have := g.2.2.2.2.1
      rw [ha a g.1] at this
      exact absurd this (by decide)
  · exact mAnswer_no h
theorem mTold_all {w : kW} {n c d : Nat} (hP : Pn n w) (hI : Ins n c w) (ha : ∀ p, p < n → w.1 7 p = 1) : ∀ k, k ≤ c → mTold w d k = kset w 0 22 0
  | 0, _ => rfl
  | k + 1, hk => by
    have ih := mTold_all (d := d) hP hI ha k (by omega)
    obtain ⟨a, b, dd, gg, h1, h2, h3, h4, h5, h6, h7, h8, h9, h10⟩ := hI.2.2 k (by omega)
    have hn := hP.le
    simp only [mTold]
    rw [ih]
    split
    · have e8 : (kset w 0 22 0).1 12 k = nI b := h8
      rw [cl_of e8 (by omega)]
      exact mAnswer_all (n := n) hP ha h2
    · rfl
theorem mAhead_all {w : kW} {n c : Nat} (hP : Pn n w) (hI : Ins n c w) (ha : ∀ p, p < n → w.1 7 p = 1) : ∀ d, d ≤ 60 → (mAhead n c w d).1 0 28 = 0 ∧ (mAhead n c w d).1 0 23 = 0
  | 0, _ => ⟨(mZero_23 w n).2, (mZero_23 w n).1⟩
  | d + 1, hd => by
    obtain ⟨i1, i2⟩ := mAhead_all hP hI ha d (by omega)
    obtain ⟨h1, h2⟩ := mAhead_inv hP hI d (by omega)
    have hP2 := hP.keep h2
    have e7 : (mAhead n c w d).1 7 = w.1 7 := h2.1 7 (by decide) (by decide)
    show (mDawn c (mAhead n c w d) d).1 0 28 = 0 ∧ (mDawn c (mAhead n c w d) d).1 0 23 = 0
    unfold mDawn
    rw [i2, mTold_all hP2 (hI.keep h2) (fun p hp => by rw [e7]; exact ha p hp) c (Nat.le_refl c)]
    exact ⟨i1, i2⟩
theorem mGo_all {w : kW} {n c d : Nat} (hP : Pn n w) (hI : Ins n c w) (ha : ∀ p, p < n → w.1 7 p = 1) (hd : d ≤ 60) : (mGo n c w d).1 0 28 = 0 := (mAhead_all hP hI ha d hd).1
theorem full_bits : ∀ n, n ≤ 6 → ∀ p, p < n → (2 ^ n - 1).testBit p = true := by decide +kernel
theorem okA_full {n c D : Nat} {w : kW} (hP : Pn n w) (hI : Ins n c w) (hD : D < 60) : okA n c w D (2 ^ n - 1) := by
  have hn := hP.le
  refine mGo_all (arrF_pn hP (Or.inr rfl)) (arrF_ins hI) (fun p hp => ?_) (by omega)
  rw [arrF_at n hp, bt_nI (by omega), if_pos (full_bits n hn p hp)]
def bestC (n c : Nat) (w : kW) (D k f : Nat) : Prop := f < 2 ^ n ∧ okA n c w D f ∧ (f ≤ k ∨ f = 2 ^ n - 1) ∧ ∀ s, s < k → okA n c w D s → pc6 f < pc6 s ∨ (pc6 f = pc6 s ∧ f ≤ s)
theorem bestC.zero {n c D : Nat} {w : kW} (hP : Pn n w) (hI : Ins n c w) (hD : D < 60) : bestC n c w D 0 (2 ^ n - 1) :=
  ⟨by have := Nat.two_pow_pos n; omega, okA_full hP hI hD, Or.inr rfl, fun s hs => absurd hs (Nat.not_lt_zero _)⟩
