def bt (x : Int32) (i : Nat) : Bool := x.toBitVec.getLsbD i
theorem b_ext {x y : Int32} (h : ∀ i, i < 32 → bt x i = bt y i) : x = y := Int32.toBitVec_inj.mp (BitVec.eq_of_getLsbD_eq (fun i hi => h i hi))
theorem b_or (x y : Int32) (i : Nat) : bt (x ||| y) i = (bt x i || bt y i) := by unfold bt; rw [Int32.toBitVec_or, BitVec.getLsbD_or]
theorem b_and (x y : Int32) (i : Nat) : bt (x &&& y) i = (bt x i && bt y i) := by unfold bt; rw [Int32.toBitVec_and, BitVec.getLsbD_and]
theorem b_xor (x y : Int32) (i : Nat) : bt (x ^^^ y) i = (bt x i ^^ bt y i) := by unfold bt; rw [Int32.toBitVec_xor, BitVec.getLsbD_xor]
theorem b_m1 : ∀ i, i < 32 → bt (-1) i = true := by decide +kernel
theorem b_0 (i : Nat) : bt 0 i = false := BitVec.getLsbD_zero
theorem s_l : ∀ n, n < 32 → ((nI n &&& 31).toBitVec.smod 32).toNat = n := by decide +kernel
theorem b_shl (n : Nat) (hn : n < 32) (x : Int32) {i : Nat} (hi : i < 32) : bt (x <<< (nI n &&& 31)) i = (decide (n ≤ i) && bt x (i - n)) := by
  unfold bt
  rw [Int32.toBitVec_shiftLeft]
  show (x.toBitVec <<< ((nI n &&& 31).toBitVec.smod 32).toNat).getLsbD i = _
  rw [s_l n hn, BitVec.getLsbD_shiftLeft]
  rcases Nat.lt_or_ge i n with h | h
  · simp [h, Nat.not_le.mpr h]
  · simp [hi, h, Nat.not_lt.mpr h]
theorem b_sshr (n : Nat) (hn : n < 32) (x : Int32) {i : Nat} (hi : i < 32) : bt (x >>> (nI n &&& 31)) i = if n + i < 32 then bt x (n + i) else bt x 31 := by
  unfold bt
  rw [Int32.toBitVec_shiftRight]
  show (x.toBitVec.sshiftRight ((nI n &&& 31).toBitVec.smod 32).toNat).getLsbD i = _
  rw [s_l n hn, BitVec.getLsbD_sshiftRight, BitVec.msb_eq_getLsbD_last]
  simp [hi]
/-- one bit, asked for -/
theorem bit_1 (x : Int32) {k : Nat} (hk : k < 32) : (x >>> (nI k &&& 31)) &&& 1 = 1 ↔ bt x k = true := by
  have e : ∀ i, i < 32 → bt ((x >>> (nI k &&& 31)) &&& 1) i = (decide (i = 0) && bt x k) := by
    intro i hi
    rw [b_and, b_sshr k hk x hi]
    by_cases h : i = 0
    · subst h
      simp [hk, show bt 1 0 = true from by decide]
    · have h1 : bt 1 i = false := by
        have : ∀ i, i < 32 → i ≠ 0 → bt 1 i = false := by decide +kernel
        exact this i hi h
      simp [h, h1]
  constructor
  · intro h
    have h0 := e 0 (by omega)
    rw [h] at h0
    simpa [show bt 1 0 = true from by decide] using h0.symm
  · intro h
    apply b_ext
    intro i hi
    rw [e i hi, h]
    have : ∀ i, i < 32 → (decide (i = 0) && true) = bt 1 i := by decide +kernel
    exact this i hi
theorem bit_one {k : Nat} (hk : k < 32) {i : Nat} (hi : i < 32) : bt (1 <<< (nI k &&& 31)) i = decide (i = k) := by
  rw [b_shl k hk 1 hi]
  have : ∀ j, j < 32 → bt 1 j = decide (j = 0) := by decide +kernel
  rw [this (i - k) (by omega)]
  by_cases h : k ≤ i
  · simp only [h, decide_true, Bool.true_and]
    by_cases h2 : i = k
    · simp [h2]
    · simp [h2]; omega
  · simp [h]; omega
theorem bt_nI {s i : Nat} (hi : i < 32) : bt (nI s) i = s.testBit i := by
  show (BitVec.ofNat 32 s).getLsbD i = _
  rw [BitVec.getLsbD_ofNat, decide_eq_true hi, Bool.true_and]
/-- cells after a store -/
def kset (w : kW) (c k : Nat) (v : Int32) : kW := (k_up w.1 c k v, w.2)
theorem kset_1 (w : kW) (c k : Nat) (v : Int32) (c' k' : Nat) : (kset w c k v).1 c' k' = if c' = c then (if k' = k then v else w.1 c' k') else w.1 c' k' := rfl
theorem kset_2 (w : kW) (c k : Nat) (v : Int32) : (kset w c k v).2 = w.2 := rfl
theorem kset_row (w : kW) (c k : Nat) (v : Int32) {c' : Nat} (h : c' ≠ c) : (kset w c k v).1 c' = w.1 c' := by
  funext j
  rw [kset_1, if_neg h]
theorem kset_ne (w : kW) {c k c' k' : Nat} (v : Int32) (h : c' ≠ c ∨ k' ≠ k) : (kset w c k v).1 c' k' = w.1 c' k' := by
  rw [kset_1]
  rcases h with h | h <;> simp [h]
theorem kset_eq (w : kW) (c k : Nat) (v : Int32) : (kset w c k v).1 c k = v := by rw [kset_1, if_pos rfl, if_pos rfl]
/-! ===== the reference's season, as functions of its cells ===== -/
def fr (w : kW) (k : Nat) : Nat := (w.1 6 k).toNatClampNeg
/-- the persons: how many, what is told of them -/
def Pn (n : Nat) (w : kW) : Prop := w.1 0 5 = nI n ∧ n ≤ 6 ∧ (∀ p, p < n → ∃ h, 1 ≤ h ∧ h ≤ 9 ∧ w.1 5 p = nI h) ∧ (∀ k, k < 2 * n → fr w k < n ∧ w.1 6 k = nI (fr w k)) ∧ (∀ p, p < n → w.1 7 p = 0 ∨ w.1 7 p = 1) ∧ (∀ p, p < n → ∃ k, k ≤ 2 ∧ w.1 4 p = nI k)
def mTc (kd h : Int32) : Int32 :=
  let x0 := 10 - h
  let x1 := if kd ≤ 0 then x0 else (if x0 ≤ 3 then 1 else x0 - 2)
  if kd = 2 then (if x1 ≤ 2 then 1 else x1 - 1) else x1
def mTouch (w : kW) (p : Nat) : Int32 :=
  let x0 := 10 - w.1 5 p
  let x1 := if w.1 4 p ≤ 0 then x0 else (if x0 ≤ 3 then 1 else x0 - 2)
  if w.1 4 p = 2 then (if x1 ≤ 2 then 1 else x1 - 1) else x1
abbrev mFree (w : kW) (x : Nat) (dawn : Int32) : Prop := w.1 7 x = 0 ∧ w.1 15 x ≤ dawn ∧ bt (w.1 0 22) x = false
abbrev mMay (w : kW) (x : Nat) (p other no dawn : Int32) : Prop := ¬ nI x = p ∧ ¬ nI x = other ∧ ¬ nI x = no ∧ mFree w x dawn
def oI (o : Option Nat) : Int32 := match o with
  | none => -9
  | some x => nI x
def mCh (w : kW) (p : Nat) : List Nat := [fr w (2 * p), fr w (2 * p + 1), fr w (2 * fr w (2 * p)), fr w (2 * fr w (2 * p) + 1), fr w (2 * fr w (2 * p + 1)), fr w (2 * fr w (2 * p + 1) + 1)]
def mSec (w : kW) (p : Nat) (other no dawn : Int32) : Option Nat := (mCh w p).find? (fun x => decide (mMay w x (nI p) other no dawn))
def mHurtF (w : kW) (hu y : Nat) (dawn : Int32) : kW :=
  let w1 := kset w 15 hu (dawn + (w.1 5 y - w.1 5 hu) + 2)
  if w.1 6 (2 * hu) = nI y then w1 else
    let t := (w.1 0 23).toNatClampNeg
    kset (kset (kset (kset (kset w1 16 t (nI y)) 17 t (w.1 6 (2 * hu))) 18 t (w.1 5 y - w.1 5 hu)) 19 t dawn) 0 23 (w.1 0 23 + 1)
def mMeet0 (w : kW) (a b : Nat) (insd insr dawn : Int32) : kW :=
  let m := (w.1 0 28).toNatClampNeg
  kset (kset (kset (kset (kset (kset (kset w 0 22 (w.1 0 22 ||| (1 <<< (nI a &&& 31) ||| 1 <<< (nI b &&& 31)))) 20 m dawn) 21 m (nI a)) 22 m (nI b)) 23 m insd) 24 m insr) 25 m (-9)
def mMeet (w : kW) (a b : Nat) (insd insr dawn : Int32) : kW :=
  let m := (w.1 0 28).toNatClampNeg
  let w1 := mMeet0 w a b insd insr dawn
  let w2 := if w.1 5 a = w.1 5 b then w1 else if w.1 5 b ≤ w.1 5 a then kset (mHurtF w1 b a dawn) 25 m (nI b) else kset (mHurtF w1 a b dawn) 25 m (nI a)
  kset w2 0 28 (w2.1 0 28 + 1)
def mAnswer (w : kW) (i j : Nat) (deg dawn : Int32) : kW :=
  if mTouch w j ≤ deg then
    match mSec w j (nI i) (-9) dawn with
    | none => w
    | some a => match mSec w i (nI j) (nI a) dawn with
      | none => w
      | some b => mMeet w a b (nI j) (nI i) dawn
  else w
def mZero (w : kW) : Nat → kW
  | 0 => kset (kset w 0 28 0) 0 23 0
  | k + 1 => kset (mZero w k) 15 k 0
def mBegin (n : Nat) (w : kW) : kW := kset (mZero w n) 0 22 0
def mTold (w : kW) (d : Nat) : Nat → kW
  | 0 => kset w 0 22 0
  | k + 1 =>
    let v := mTold w d k
    if v.1 13 k = nI d - 1 ∧ bt (v.1 0 20) k = false then mAnswer v (v.1 11 k).toNatClampNeg (v.1 12 k).toNatClampNeg (v.1 14 k) (nI d) else v
def mTk (w : kW) (d : Nat) : Nat → kW
  | 0 => w
  | k + 1 =>
    let v := mTk w d k
    if v.1 19 k = nI d - 1 then mAnswer v (v.1 16 k).toNatClampNeg (v.1 17 k).toNatClampNeg (v.1 18 k) (nI d) else v
def mDawn (c : Nat) (w : kW) (d : Nat) : kW := mTk (mTold w d c) d (w.1 0 23).toNatClampNeg
def mAhead (n c : Nat) (w : kW) : Nat → kW
  | 0 => mBegin n w
  | d + 1 => mDawn c (mAhead n c w d) d
def mGo (n c : Nat) (w : kW) (d : Nat) : kW := kset (mAhead n c w d) 0 22 0
theorem nI_inc (k : Nat) : nI k + Int32.ofInt 1 = nI (k + 1) := nI_1 k
theorem nI_ne9 {a : Nat} (h : a < 2 ^ 31) : ¬ nI a = -9 := by
  intro e
  have h1 := nI_toInt h
  rw [e] at h1
  have : (-9 : Int32).toInt = -9 := by decide
  omega
theorem cl_of {x : Int32} {m : Nat} (h : x = nI m) (hm : m < 2 ^ 31) : x.toNatClampNeg = m := by rw [h, nI_clamp hm]
