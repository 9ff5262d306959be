/-! ===== the reference's state, and what a call that only asks leaves ===== -/
def dn (x : Int32) : Nat := x.toNatClampNeg
theorem dn_nI {k : Nat} (h : k < 2 ^ 31) : dn (nI k) = k := nI_clamp h
def Rd (n q : Nat) (w : kW) : Prop := w.1 0 35 = nI q ∧ q ≤ 8 ∧ ∀ k, k < q → ∃ p d, p < n ∧ d < 60 ∧ w.1 26 k = nI p ∧ w.1 27 k = nI d ∧ (w.1 28 k = 0 ∨ w.1 28 k = 1)
def Shv (w : kW) : Prop := ∀ k, k < 4 → (w.1 1 k = -9 ∨ w.1 1 k = 0 ∨ w.1 1 k = 1 ∨ w.1 1 k = 2) ∧ ∃ l, l ≤ 50 ∧ w.1 2 k = nI l
def MInv (n c q : Nat) (w : kW) : Prop := Pn n w ∧ Ins n c w ∧ c ≤ 8 ∧ Rd n q w ∧ w.1 0 20 = 0 ∧ Shv w
def mKp (c : Nat) (w v : kW) : Prop := (∀ j, j ≠ 0 → (j < 11 ∨ 25 < j) → v.1 j = w.1 j) ∧ (∀ j k, 11 ≤ j → j ≤ 14 → k < c → v.1 j k = w.1 j k) ∧ (∀ j, j ≠ 22 → j ≠ 23 → j ≠ 28 → v.1 0 j = w.1 0 j)
theorem mKp.rf {c : Nat} {w : kW} : mKp c w w := ⟨fun _ _ _ => rfl, fun _ _ _ _ _ => rfl, fun _ _ _ _ => rfl⟩
theorem mKp.tr {c : Nat} {w v u : kW} (h1 : mKp c w v) (h2 : mKp c v u) : mKp c w u := ⟨fun j a b => (h2.1 j a b).trans (h1.1 j a b), fun j k a b hk => (h2.2.1 j k a b hk).trans (h1.2.1 j k a b hk), fun j a b d => (h2.2.2 j a b d).trans (h1.2.2 j a b d)⟩
theorem mKp.of {c : Nat} {w v : kW} (h : sKeep w v) : mKp c w v := ⟨fun j a b => h.1 j a (by omega), fun j k a b _ => by rw [h.1 j (by omega) (by omega)], fun j a b d => h.2.1 j a b d⟩
theorem mKp.peq {c : Nat} {w v : kW} (h : mKp c w v) : PEq c w v := ⟨fun j a b => h.1 j (by omega) (by omega), h.2.1, h.2.2 5 (by decide) (by decide) (by decide), h.2.2 15 (by decide) (by decide) (by decide), fun k _ => by rw [h.2.2 20 (by decide) (by decide) (by decide)]⟩
theorem mKp.pn {c n : Nat} {w v : kW} (h : mKp c w v) (hP : Pn n w) : Pn n v := h.peq.pn hP
theorem mKp.ins {c n : Nat} {w v : kW} (h : mKp c w v) (hP : Ins n c w) : Ins n c v := h.peq.ins hP
theorem mKp.minv {n c q : Nat} {w v : kW} (h : mKp c w v) (hM : MInv n c q w) : MInv n c q v := by
  obtain ⟨h1, h2, h3, h4, h5, h6⟩ := hM
  refine ⟨h.pn h1, h.ins h2, h3, ?_, (h.2.2 20 (by decide) (by decide) (by decide)).trans h5, ?_⟩
  · unfold Rd at *
    rw [h.2.2 35 (by decide) (by decide) (by decide), h.1 26 (by decide) (by decide), h.1 27 (by decide) (by decide), h.1 28 (by decide) (by decide)]
    exact h4
  · unfold Shv at *
    rw [h.1 1 (by decide) (by decide), h.1 2 (by decide) (by decide)]
    exact h6
theorem PEq.un {c : Nat} {w v : kW} {x : Int32} (h : PEq c w v) : PEq c (kset w 0 20 x) (kset v 0 20 x) :=
  ⟨fun j a b => by rw [kset_row _ _ _ _ (by omega), kset_row _ _ _ _ (by omega)]; exact h.1 j a b, fun j k a b hk => by rw [kset_row _ _ _ _ (by omega), kset_row _ _ _ _ (by omega)]; exact h.2.1 j k a b hk, h.2.2.1, h.2.2.2.1, fun k _ => by rw [kset_eq, kset_eq]⟩
theorem mKp.un {c : Nat} {w v : kW} {x : Int32} (h : mKp c w v) : mKp c (kset w 0 20 x) (kset v 0 20 x) :=
  ⟨fun j a b => by rw [kset_row _ _ _ _ a, kset_row _ _ _ _ a]; exact h.1 j a b, fun j k a b hk => by rw [kset_row _ _ _ _ (by omega), kset_row _ _ _ _ (by omega)]; exact h.2.1 j k a b hk, fun j a b d => kset_cg (h.2.2 j a b d)⟩
theorem kset_self {w : kW} {c k : Nat} {x : Int32} (h : w.1 c k = x) : kset w c k x = w := by
  unfold kset
  refine Prod.ext ?_ rfl
  funext c' k'
  simp only [k_up]
  split
  · rename_i e; subst e
    split
    · rename_i e; subst e; exact h.symm
    · rfl
  · rfl
theorem Pn.un {n : Nat} {w : kW} {x : Int32} (h : Pn n w) : Pn n (kset w 0 20 x) := h
theorem Ins.un {n c : Nat} {w : kW} {x : Int32} (h : Ins n c w) : Ins n c (kset w 0 20 x) := h
theorem SQ.m {n : Nat} {w v : kW} (h : SQ n w v) : v.1 0 28 = w.1 0 28 := by
  obtain ⟨t, m, h1, h2, h3, h4, h5, h6, h7⟩ := h
  exact h4.trans h3.symm
theorem SQ.row {n j k : Nat} {w v : kW} (h : SQ n w v) (h1 : 20 ≤ j) (h2 : j ≤ 25) (hk : nI k < w.1 0 28) (hk2 : k < 2 ^ 31) : v.1 j k = w.1 j k := by
  obtain ⟨t, m, a1, a2, a3, a4, a5, a6, a7⟩ := h
  rw [a3] at hk
  exact a7.2.2.2 j k h1 h2 ((nI_ltI hk2 (by omega)).mp hk)
theorem dawn_of {x : Int32} (h : 0 ≤ x ∧ x ≤ 59) : ∃ D, D < 60 ∧ x = nI D := by
  obtain ⟨j, hj, e⟩ := nI_of2 (n := 59) (M := 59) (by decide) (Int32.not_lt.mpr h.1) h.2
  exact ⟨j, by omega, e⟩
theorem dawn_in {D : Nat} (h : D < 60) : (0 : Int32) ≤ nI D ∧ nI D ≤ 59 := ⟨nI_pos' (by omega), nI_le (b := 59) (by omega) (by omega)⟩
theorem pers_of {x : Int32} {n : Nat} {w : kW} (hP : Pn n w) (h : ¬ x < 0 ∧ x < w.1 0 5) : ∃ p, p < n ∧ x = nI p := by
  rw [hP.1] at h
  exact nI_between h.1 h.2 (by have := hP.le; omega)
theorem met_lt {n M k : Nat} {w : kW} (h : DInv n M w) (hM : M ≤ 180) : ∃ m, w.1 0 28 = nI m ∧ m ≤ 180 := by
  obtain ⟨hP, m, t, h1, h2, h3, h4, h5⟩ := h
  exact ⟨m, h1, by omega⟩
/-! the answers -/
abbrev isPr (w : kW) (x : Int32) : Prop := ¬ x < 0 ∧ x < w.1 0 5
abbrev isDw (d : Int32) : Prop := 0 ≤ d ∧ d ≤ 59
def A_meetings (n c : Nat) (w : kW) (d : Int32) : Int32 := if isDw d then (if w.1 0 5 = 0 then -3 else (mGo n c w (dn d + 1)).1 0 28) else -2
def A_met (n c : Nat) (w : kW) (k what : Int32) : Int32 := if k < 0 ∨ (mGo n c w 60).1 0 28 ≤ k ∨ w.1 0 5 = 0 then -1 else if 0 ≤ what ∧ what ≤ 5 then (mGo n c w 60).1 (20 + dn what) (dn k) else -2
def A_free (n c : Nat) (w : kW) (p d : Int32) : Int32 := if isPr w p then (if isDw d then (if mFree (mGo n c w (dn d)) (dn p) d then 1 else 0) else -2) else -1
def A_second (n c : Nat) (w : kW) (p o d : Int32) : Int32 := if isPr w p ∧ isPr w o ∧ ¬ p = o then (if isDw d then oI (mSec (mGo n c w (dn d)) (dn p) o (-9) d) else -2) else -1
def A_worth (n c : Nat) (w : kW) (k : Int32) : Int32 := if ¬ k < 0 ∧ k < w.1 0 15 then (mGo n c w 60).1 0 28 - (mGo n c (kset w 0 20 (1 <<< (k &&& 31))) 60).1 0 28 + 1000 else -1
