/-! ===== more of the pure lemmas ===== -/
theorem nI_lit (n : Nat) : Int32.ofNat n = nI n := rfl
theorem nI_two (j : Nat) : 2 * nI j = nI (2 * j) := nI_mul 2 j
theorem k_narz {x : Int32} (h : x = 0 ∨ x = 1) : vp_nar .boolean x = x := by
  rcases h with rfl | rfl <;> decide
theorem b_big {x : Int32} {i : Nat} (h : 32 ≤ i) : bt x i = false := BitVec.getLsbD_of_ge _ _ h
theorem b_shl8 (x : Int32) {i : Nat} (hi : i < 32) : bt (x <<< ((8 : Int32) &&& 31)) i = (decide (8 ≤ i) && bt x (i - 8)) := b_shl 8 (by omega) x hi
theorem bit_0 (x : Int32) {k : Nat} (hk : k < 32) : (x >>> (nI k &&& 31)) &&& 1 = 0 ↔ bt x k = false := by
  have e : ∀ i, i < 32 → bt ((x >>> (nI k &&& 31)) &&& 1) i = (decide (i = 0) && bt x k) := by
    intro i hi
    rw [b_and, b_sshr k hk x hi]
    by_cases h : i = 0
    · subst h
      simp [hk, show bt 1 0 = true from by decide]
    · have h1 : bt 1 i = false := by
        have : ∀ i, i < 32 → i ≠ 0 → bt 1 i = false := by decide +kernel
        exact this i hi h
      simp [h, h1]
  constructor
  · intro h
    have h0 := e 0 (by omega)
    rw [h] at h0
    simpa [show bt 0 0 = false from by decide] using h0.symm
  · intro h
    apply b_ext
    intro i hi
    rw [e i hi, h, b_0]
    simp
theorem bit_n1 (x : Int32) {k : Nat} (hk : k < 32) : ¬ (x >>> (nI k &&& 31)) &&& 1 = 0 ↔ bt x k = true := by
  rw [bit_0 x hk]; simp
theorem bit_n0 (x : Int32) {k : Nat} (hk : k < 32) : ¬ (x >>> (nI k &&& 31)) &&& 1 = 1 ↔ bt x k = false := by
  rw [bit_1 x hk]; simp
/-- the takings of the answers so far stay -/
def TkMore (w v : kW) : Prop := ∀ t, t < 200 → w.1 0 23 = nI t → ∃ t', t ≤ t' ∧ v.1 0 23 = nI t' ∧ ∀ k, k < t → v.1 16 k = w.1 16 k ∧ v.1 17 k = w.1 17 k ∧ v.1 18 k = w.1 18 k ∧ v.1 19 k = w.1 19 k
theorem mKp.un0 {c : Nat} {w v : kW} {x y : Int32} (h : mKp c (kset w 0 20 x) v) : mKp c (kset w 0 20 y) (kset v 0 20 y) :=
  ⟨fun j a b => by rw [kset_row _ _ _ _ a, kset_row _ _ _ _ a, h.1 j a b, kset_row _ _ _ _ a], fun j k a b hk => by rw [kset_row _ _ _ _ (by omega), kset_row _ _ _ _ (by omega), h.2.1 j k a b hk, kset_row _ _ _ _ (by omega)], fun j a b d => by
    by_cases e : j = 20
    · subst e; rw [kset_eq, kset_eq]
    · rw [kset_ne _ _ (Or.inr e), kset_ne _ _ (Or.inr e), h.2.2 j a b d, kset_ne _ _ (Or.inr e)]⟩
theorem mKp.un1 {c : Nat} {w v : kW} {x y : Int32} (h : mKp c (kset w 0 20 x) v) (hy : w.1 0 20 = y) : mKp c w (kset v 0 20 y) := by
  have h2 := h.un0 (y := y)
  rwa [kset_self hy] at h2
def R_reading (w : kW) (p d was : Int32) : Int32 × kW := if isPr w p then (if isDw d then (if w.1 0 35 = 8 then (-4, w) else (w.1 0 35, kset (kset (kset (kset w 26 (dn (w.1 0 35)) p) 27 (dn (w.1 0 35)) d) 28 (dn (w.1 0 35)) was) 0 35 (w.1 0 35 + 1))) else (-2, w)) else (-1, w)
def R_back (w : kW) (k : Int32) : Int32 × kW := if 0 ≤ k ∧ k ≤ w.1 0 35 then (w.1 0 35 - k, kset w 0 35 (w.1 0 35 - k)) else (-2, w)
def R_tell (w : kW) (p : Int32) : Int32 × kW := if isPr w p then (if w.1 4 (dn p) = 1 then (w.1 5 (dn p) + 100, tr1 (tr1 w 2) 1) else if w.1 4 (dn p) = 2 then (2 * w.1 5 (dn p) + 100, tr1 (tr1 (tr1 (tr1 w 3) 2) 1) 1) else (w.1 5 (dn p), tr1 w 1)) else (-1, w)
def R_salute (w : kW) (p : Int32) : Int32 × kW := if isPr w p then (if w.1 4 (dn p) = 2 then (80, tr1 w 5) else (p, tr1 w 4)) else (-1, w)
def R_as (w : kW) (p k : Int32) : Int32 × kW := if isPr w p then (if 0 ≤ k ∧ k ≤ 2 then (if w.1 4 (dn p) < k then (-12, kset w 0 0 2) else (1, kset w 0 0 0)) else (-2, kset w 0 0 0)) else (-1, kset w 0 0 0)
theorem nI_50 (j : Nat) : 50 * nI j = nI (50 * j) := nI_mul 50 j
def R_lose (w : kW) (k : Int32) : Int32 × kW := if isS k then (if w.1 1 (dn k) = -9 then 0 else 1, kset w 1 (dn k) (-9)) else (-1, w)
abbrev LOSTv : Int64 := -9223372036854775808
def R_cell (w : kW) (k i sort : Int32) : Int64 × kW := if isS k ∧ isT sort then (if ¬ w.1 1 (dn k) = -9 ∧ ¬ w.1 1 (dn k) = sort then (LOSTv, kset w 0 0 2) else if w.1 1 (dn k) = -9 then (LOSTv, kset w 0 0 1) else if 0 ≤ i ∧ i ≤ w.1 2 (dn k) - 1 then ((w.1 3 (50 * dn k + dn i)).toInt64, kset w 0 0 0) else (LOSTv, kset w 0 0 3)) else (LOSTv, kset w 0 0 0)
abbrev cpOk (w : kW) (k o : Nat) (i j n : Int32) : Prop := ¬ i < 0 ∧ ¬ j < 0 ∧ ¬ n < 0 ∧ i ≤ w.1 2 k ∧ j ≤ w.1 2 o ∧ n ≤ w.1 2 k - i ∧ n ≤ w.1 2 o - j
def R_copy (w : kW) (k i o j n : Int32) : Int32 × kW := if isS k ∧ isS o then (if w.1 1 (dn k) = -9 ∨ w.1 1 (dn o) = -9 then (-11, kset w 0 0 1) else if w.1 1 (dn k) = w.1 1 (dn o) then (if cpOk w (dn k) (dn o) i j n then (n, ((k_cpy (kset w 0 0 0).1 3 3 (50 * dn k + dn i) (50 * dn o + dn j) (dn n)), w.2)) else (-13, kset w 0 0 3)) else (-12, kset w 0 0 2)) else (-1, kset w 0 0 0)
def cpB (f : Nat → Nat → Int32) (S D n q : Nat) : Nat → Nat → Int32 := fun c x => if c = 3 then (if D + (n - q) ≤ x ∧ x < D + n then f 3 (S + (x - D)) else f c x) else f c x
theorem cpF_step {f : Nat → Nat → Int32} {S D q : Nat} (h : ¬ (D ≤ S + q ∧ S + q < D + q)) : k_up (k_cpy f 3 3 S D q) 3 (D + q) (k_cpy f 3 3 S D q 3 (S + q)) = k_cpy f 3 3 S D (q + 1) := by
  funext c x
  simp only [k_up, k_cpy]
  by_cases hc : c = 3
  · subst hc
    simp only [if_true, if_neg h]
    by_cases hx : x = D + q
    · subst hx
      rw [if_pos rfl, if_pos (by omega), Nat.add_sub_cancel_left]
    · rw [if_neg hx]
      by_cases h2 : D ≤ x ∧ x < D + q
      · rw [if_pos h2, if_pos (by omega)]
      · rw [if_neg h2, if_neg (by omega)]
  · simp only [if_neg hc]
theorem cpB_step {f : Nat → Nat → Int32} {S D n q : Nat} (hq : q < n) (h : ¬ (D + (n - q) ≤ S + (n - 1 - q) ∧ S + (n - 1 - q) < D + n)) : k_up (cpB f S D n q) 3 (D + (n - 1 - q)) (cpB f S D n q 3 (S + (n - 1 - q))) = cpB f S D n (q + 1) := by
  funext c x
  simp only [k_up, cpB]
  by_cases hc : c = 3
  · subst hc
    simp only [if_true, if_neg h]
    by_cases hx : x = D + (n - 1 - q)
    · subst hx
      rw [if_pos rfl, if_pos (by omega), Nat.add_sub_cancel_left]
    · rw [if_neg hx]
      by_cases h2 : D + (n - q) ≤ x ∧ x < D + n
      · rw [if_pos h2, if_pos (by omega)]
      · rw [if_neg h2, if_neg (by omega)]
  · simp only [if_neg hc]
theorem cpF_0 (f : Nat → Nat → Int32) (S D : Nat) : k_cpy f 3 3 S D 0 = f := by
  funext c x
  simp only [k_cpy]
  split
  · rw [if_neg (by omega)]
  · rfl
theorem cpB_0 (f : Nat → Nat → Int32) (S D n : Nat) : cpB f S D n 0 = f := by
  funext c x
  simp only [cpB]
  split
  · rw [if_neg (by omega)]
  · rfl
theorem cpB_n (f : Nat → Nat → Int32) (S D n : Nat) : cpB f S D n n = k_cpy f 3 3 S D n := by
  funext c x
  simp only [cpB, k_cpy, Nat.sub_self, Nat.add_zero]
def RDP (w : kW) (p k h a b : Nat) : Prop := w.1 8 p = nI k ∧ w.1 9 p = nI h ∧ w.1 10 (2 * p) = nI a ∧ w.1 10 (2 * p + 1) = nI b
def failR (f : Nat → Int32) (S n lo : Nat) (w w' : kW) (hi : Nat) : Prop := ∃ t, lo ≤ t ∧ t ≤ hi ∧ t ≤ n ∧ goesR f lo t ∧ (t < n → ¬ goes f t) ∧ w'.1 0 10 = nI (S + t) ∧ mKc w w'
def okR (f : Nat → Int32) (S n nn p : Nat) (w w' : kW) : Prop := 5 * p + 7 ≤ n ∧ goesR f (5 * p + 3) (5 * p + 7) ∧ w'.1 0 10 = nI (S + (5 * p + 7)) ∧ w'.1 0 11 = nI nn ∧ (∃ k h a b, TP f nn p k h a b ∧ RDP w' p k h a b) ∧ rowsQ p w w' ∧ mKc w w'
def RPp (f : Nat → Int32) (S n nn p : Nat) (w : kW) (r : Option Value) (w' : kW) : Prop := (r = some (.int 1) ∧ okR f S n nn p w w') ∨ (r = some (.int 0) ∧ failR f S n (5 * p + 3) w w' (5 * p + 6))
theorem gz_2 {f : Nat → Int32} {nn p : Nat} (hp : p < nn) : gz f nn (5 * p + 2) ↔ f (5 * p + 2) = 59 := by
  unfold gz
  rw [show (5 * p + 2 - 2) / 5 = p by omega, show (5 * p + 2 - 2) % 5 = 0 by omega]
  simp [hp]
def RS (f : Nat → Int32) (S n nn p k : Nat) (w v : kW) (kp h : Nat) (fr : Nat → Nat) : Prop := v.1 0 10 = nI (S + (5 * p + 5 + k)) ∧ 5 * p + 5 + k ≤ n ∧ mKc w v ∧ v.1 0 11 = nI nn ∧ goesR f (5 * p + 3) (5 * p + 5 + k) ∧ (kcode (f (5 * p + 3)) kp ∧ v.1 8 p = nI kp) ∧ (1 ≤ h ∧ h ≤ 9 ∧ f (5 * p + 4) = nI (48 + h) ∧ v.1 9 p = nI h) ∧ (∀ i, i < k → fr i < nn ∧ fr i ≠ p ∧ f (5 * p + 5 + i) = nI (48 + fr i) ∧ v.1 10 (2 * p + i) = nI (fr i)) ∧ rowsQ p w v
