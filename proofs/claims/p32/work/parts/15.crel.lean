/-! ===== the class's season beside the reference's ===== -/
def cKeep (w w' : kW) : Prop := (∀ c, (c < 15 ∨ 29 < c) → w'.1 c = w.1 c) ∧ (∀ j, j ≠ 1 → j ≠ 10 → w'.1 15 j = w.1 15 j) ∧ w'.2 = w.2
theorem cKeep.rf {w : kW} : cKeep w w := ⟨fun _ _ => rfl, fun _ _ _ => rfl, rfl⟩
theorem cKeep.tr {w v u : kW} (h1 : cKeep w v) (h2 : cKeep v u) : cKeep w u := ⟨fun c a => (h2.1 c a).trans (h1.1 c a), fun j a b => (h2.2.1 j a b).trans (h1.2.1 j a b), h2.2.2.trans h1.2.2⟩
theorem cKeep.row {w v : kW} {c k : Nat} {x : Int32} (h : cKeep w v) (hc : 16 ≤ c ∧ c ≤ 29) : cKeep w (kset v c k x) :=
  h.tr ⟨fun c' h1 => kset_row _ _ _ _ (by omega), fun j _ _ => kset_ne _ _ (Or.inl (by omega)), rfl⟩
theorem cKeep.num {w v : kW} {k : Nat} {x : Int32} (h : cKeep w v) (hc : k = 1 ∨ k = 10) : cKeep w (kset v 15 k x) :=
  h.tr ⟨fun c' h1 => kset_row _ _ _ _ (by omega), fun j _ _ => kset_ne _ _ (Or.inr (by omega)), rfl⟩
theorem RP.keep {n : Nat} {w w' g g' : kW} (h : RP n w g) (h1 : cKeep w w') (h2 : sKeep g g') : RP n w' g' := by
  refine ⟨h.1.keep h2, ?_, fun p hp => ?_⟩
  · rw [h1.1 1 (by decide)]; exact h.2.1
  · rw [h1.1 2 (by decide), h1.1 3 (by decide), h1.1 4 (by decide), h1.1 5 (by decide), h2.1 4 (by decide) (by decide), h2.1 5 (by decide) (by decide), h2.1 6 (by decide) (by decide)]
    exact h.2.2 p hp
def RLb (n m t : Nat) (w g : kW) : Prop := (∀ j k, 20 ≤ j → j ≤ 25 → k < m → w.1 (j - 2) k = g.1 j k) ∧ (∀ k, k < t → w.1 25 k = g.1 16 k ∧ w.1 26 k = g.1 17 k ∧ w.1 27 k = g.1 19 k ∧ w.1 28 k = g.1 18 k) ∧ (∀ p, p < n → w.1 29 p = g.1 15 p)
def RH (m : Nat) (w g : kW) : Prop := ∀ p, p < 6 → (bt (w.1 15 1) p = true ↔ ∃ k, k < m ∧ g.1 25 k = nI p)
def RLg (n : Nat) (w g : kW) : Prop := ∃ m t, m < 200 ∧ t < 200 ∧ g.1 0 28 = nI m ∧ w.1 16 0 = nI m ∧ g.1 0 23 = nI t ∧ w.1 24 0 = nI t ∧ RLb n m t w g ∧ RH m w g
def RF (n : Nat) (d : Int32) (w g : kW) : Prop := ∀ p, p < 6 → (bt (w.1 15 10) p = true ↔ p < n ∧ mFree g p d)
theorem RLb.w {n m t c k : Nat} {w g : kW} {v : Int32} (h : RLb n m t w g) (hc : c ≤ 17 ∨ c = 24 ∨ (c ≤ 23 ∧ k = m) ∨ (25 ≤ c ∧ c ≤ 28 ∧ k = t)) : RLb n m t (kset w c k v) g := by
  refine ⟨fun j k' a b hk => ?_, fun k' hk => ?_, fun p hp => ?_⟩
  · rw [kset_ne _ _ (by omega)]; exact h.1 j k' a b hk
  · rw [kset_ne _ _ (by omega), kset_ne _ _ (by omega), kset_ne _ _ (by omega), kset_ne _ _ (by omega)]; exact h.2.1 k' hk
  · rw [kset_ne _ _ (by omega)]; exact h.2.2 p hp
theorem RLb.g {n m t c k : Nat} {w g : kW} {v : Int32} (h : RLb n m t w g) (hc : c ≤ 14 ∨ (20 ≤ c ∧ k = m) ∨ (16 ≤ c ∧ c ≤ 19 ∧ k = t)) : RLb n m t w (kset g c k v) := by
  refine ⟨fun j k' a b hk => ?_, fun k' hk => ?_, fun p hp => ?_⟩
  · rw [kset_ne _ _ (by omega)]; exact h.1 j k' a b hk
  · rw [kset_ne _ _ (by omega), kset_ne _ _ (by omega), kset_ne _ _ (by omega), kset_ne _ _ (by omega)]; exact h.2.1 k' hk
  · rw [kset_ne _ _ (by omega)]; exact h.2.2 p hp
theorem RLb.well {n m t p : Nat} {w g : kW} {v : Int32} (h : RLb n m t w g) : RLb n m t (kset w 29 p v) (kset g 15 p v) := by
  refine ⟨fun j k' a b hk => ?_, fun k' hk => ?_, fun q hq => ?_⟩
  · rw [kset_ne _ _ (by omega), kset_ne _ _ (by omega)]; exact h.1 j k' a b hk
  · rw [kset_ne _ _ (by omega), kset_ne _ _ (by omega), kset_ne _ _ (by omega), kset_ne _ _ (by omega), kset_ne _ _ (by omega), kset_ne _ _ (by omega), kset_ne _ _ (by omega), kset_ne _ _ (by omega)]; exact h.2.1 k' hk
  · rw [kset_1, kset_1, if_pos rfl, if_pos rfl, h.2.2 q hq]
theorem RLb.upt {n m t : Nat} {w g : kW} (h : RLb n m t w g) (he : w.1 25 t = g.1 16 t ∧ w.1 26 t = g.1 17 t ∧ w.1 27 t = g.1 19 t ∧ w.1 28 t = g.1 18 t) : RLb n m (t + 1) w g :=
  ⟨h.1, fun k hk => by
    by_cases e : k = t
    · subst e; exact he
    · exact h.2.1 k (by omega), h.2.2⟩
theorem RLb.upm {n m t : Nat} {w g : kW} (h : RLb n m t w g) (he : ∀ j, 20 ≤ j → j ≤ 25 → w.1 (j - 2) m = g.1 j m) : RLb n (m + 1) t w g :=
  ⟨fun j k a b hk => by
    by_cases e : k = m
    · subst e; exact he j a b
    · exact h.1 j k a b (by omega), h.2⟩
theorem hurt_rel {w g : kW} {n m t hu y : Nat} {d : Int32} (hh : hu < n) (h3 : ∀ p, p < n → w.1 3 p = g.1 5 p) (hy : y < n) (h4 : w.1 4 hu = g.1 6 (2 * hu)) (tw : w.1 24 0 = nI t) (tg : g.1 0 23 = nI t) (ht : t < 200) (h : RLb n m t w g) : ∃ t', t' ≤ t + 1 ∧ (cHurt w hu y t d).1 24 0 = nI t' ∧ (mHurtF g hu y d).1 0 23 = nI t' ∧ RLb n m t' (cHurt w hu y t d) (mHurtF g hu y d) := by
  simp only [cHurt, mHurtF, cl_of tg (show t < 2 ^ 31 by omega), h3 hu hh, h3 y hy, h4]
  split
  · exact ⟨t, by omega, tw, tg, (h.w (by omega)).well⟩
  · refine ⟨t + 1, Nat.le_refl _, by rw [kset_eq, nI_1], by rw [kset_eq, tg, nI_1], ?_⟩
    refine RLb.g (RLb.w (RLb.upt ?_ ?_) (by omega)) (by omega)
    · exact (((((((((h.w (by omega)).well).w (by omega)).w (by omega)).w (by omega)).w (by omega)).g (by omega)).g (by omega)).g (by omega)).g (by omega)
    · simp [kset_1]
def cMeet (w : kW) (a b m t x y : Nat) (insd insr d : Int32) : kW :=
  let w1 := kset w 15 10 (w.1 15 10 &&& ((1 <<< (nI a &&& 31) ||| 1 <<< (nI b &&& 31)) ^^^ -1))
  let w2 := if x = y then w1 else if y ≤ x then cHurt w1 b a t d else cHurt w1 a b t d
  let hu := if x = y then -9 else if y ≤ x then nI b else nI a
  kset (kset (kset (kset (kset (kset (kset w2 18 m d) 19 m (nI a)) 20 m (nI b)) 21 m insd) 22 m insr) 23 m hu) 16 0 (nI m + 1)
theorem cHurt_keep (w : kW) (hu y t : Nat) (d : Int32) : cKeep w (cHurt w hu y t d) := by
  simp only [cHurt]
  split
  · exact (cKeep.rf.num (by decide)).row (by decide)
  · exact ((((((cKeep.rf.num (by decide)).row (by decide)).row (by decide)).row (by decide)).row (by decide)).row (by decide)).row (by decide)
theorem cHurt_16 (w : kW) (hu y t : Nat) (d : Int32) : (cHurt w hu y t d).1 16 0 = w.1 16 0 := by
  simp only [cHurt]
  split <;> rfl
theorem cHurt_h (w : kW) (hu y t : Nat) (d : Int32) : (cHurt w hu y t d).1 15 1 = w.1 15 1 ||| 1 <<< (nI hu &&& 31) := by
  simp only [cHurt]
  split <;> rfl
theorem cHurt_f (w : kW) (hu y t : Nat) (d : Int32) : (cHurt w hu y t d).1 15 10 = w.1 15 10 := by
  simp only [cHurt]
  split <;> rfl
theorem cMeet_16 (w : kW) (a b t x y : Nat) (d : Int32) : (if x = y then w else if y ≤ x then cHurt w b a t d else cHurt w a b t d).1 16 0 = w.1 16 0 := by
  split
  · rfl
  · split
    · exact cHurt_16 ..
    · exact cHurt_16 ..
theorem mHurtF_25 (w : kW) (hu y : Nat) (d : Int32) : (mHurtF w hu y d).1 25 = w.1 25 ∧ (mHurtF w hu y d).1 0 22 = w.1 0 22 ∧ (mHurtF w hu y d).1 7 = w.1 7 ∧ ∀ p, p ≠ hu → (mHurtF w hu y d).1 15 p = w.1 15 p := by
  simp only [mHurtF]
  split
  · exact ⟨rfl, rfl, rfl, fun p hp => by simp [kset_1, hp]⟩
  · exact ⟨rfl, rfl, rfl, fun p hp => by simp [kset_1, hp]⟩
theorem RH.up {m : Nat} {w g w' g' : kW} {v : Int32} (h : RH m w g) (e : ∀ k, k < m → g'.1 25 k = g.1 25 k) (ev : g'.1 25 m = v) (hb : ∀ p, p < 6 → (bt (w'.1 15 1) p = true ↔ bt (w.1 15 1) p = true ∨ v = nI p)) : RH (m + 1) w' g' := by
  intro p hp
  rw [hb p hp, h p hp]
  constructor
  · rintro (⟨k, h1, h2⟩ | h1)
    · exact ⟨k, by omega, (e k h1).trans h2⟩
    · exact ⟨m, by omega, ev.trans h1⟩
  · rintro ⟨k, h1, h2⟩
    by_cases ek : k = m
    · subst ek; exact Or.inr (ev.symm.trans h2)
    · exact Or.inl ⟨k, by omega, (e k (by omega)).symm.trans h2⟩
theorem bt_m1x (x : Int32) {k : Nat} (hk : k < 32) : bt (x ^^^ -1) k = !bt x k := by
  rw [b_xor, b_m1 k hk, Bool.xor_true]
theorem bt_off (x : Int32) {a b k : Nat} (ha : a < 6) (hb : b < 6) (hk : k < 6) : bt (x &&& ((1 <<< (nI a &&& 31) ||| 1 <<< (nI b &&& 31)) ^^^ -1)) k = (bt x k && !(decide (k = a) || decide (k = b))) := by
  rw [b_and, bt_m1x _ (by omega), b_or, bit_one (by omega) (by omega), bit_one (by omega) (by omega)]
theorem bt_off1 (x : Int32) {a k : Nat} (ha : a < 6) (hk : k < 6) : bt (x &&& ((1 <<< (nI a &&& 31)) ^^^ -1)) k = (bt x k && !decide (k = a)) := by
  rw [b_and, bt_m1x _ (by omega), bit_one (by omega) (by omega)]
theorem mMeet0_rel {w g : kW} {n m t a b : Nat} {x y d : Int32} (hm : g.1 0 28 = nI m) (hm2 : m < 200) (h : RLb n m t w g) : RLb n m t w (mMeet0 g a b x y d) := by
  simp only [mMeet0, cl_of hm (show m < 2 ^ 31 by omega)]
  exact ((((((h.g (by omega)).g (by omega)).g (by omega)).g (by omega)).g (by omega)).g (by omega)).g (by omega)
theorem cMeet_rel {w g : kW} {n m t a b x y : Nat} {insd insr d : Int32} (hP : Pn n g) (ha : a < n) (hb : b < n) (hab : a ≠ b) (hx : x ≤ 9) (hy : y ≤ 9) (ex : g.1 5 a = nI x) (ey : g.1 5 b = nI y) (h3 : ∀ p, p < n → w.1 3 p = g.1 5 p) (h4 : ∀ p, p < n → w.1 4 p = g.1 6 (2 * p)) (mg : g.1 0 28 = nI m) (hm : m < 199) (tg : g.1 0 23 = nI t) (tw : w.1 24 0 = nI t) (ht : t < 199) (h : RLb n m t w g) (hh : RH m w g) (hf : RF n d w g) : RLg n (cMeet w a b m t x y insd insr d) (mMeet g a b insd insr d) ∧ RF n d (cMeet w a b m t x y insd insr d) (mMeet g a b insd insr d) ∧ cKeep w (cMeet w a b m t x y insd insr d) := by
  have hn := hP.le
  have e1 : g.1 5 a = g.1 5 b ↔ x = y := by rw [ex, ey]; exact nI_eq (by omega) (by omega)
  have e2 : g.1 5 b ≤ g.1 5 a ↔ y ≤ x := by rw [ex, ey]; exact nI_leI (by omega) (by omega)
  have g0 : RLb n m t (kset w 15 10 (w.1 15 10 &&& ((1 <<< (nI a &&& 31) ||| 1 <<< (nI b &&& 31)) ^^^ -1))) (mMeet0 g a b insd insr d) := mMeet0_rel mg (by omega) (h.w (by omega))
  have tg0 : (mMeet0 g a b insd insr d).1 0 23 = nI t := tg
  have hbit : (mMeet0 g a b insd insr d).1 0 22 = g.1 0 22 ||| (1 <<< (nI a &&& 31) ||| 1 <<< (nI b &&& 31)) := rfl
  have h25 : ∀ k, k < m → (mMeet0 g a b insd insr d).1 25 k = g.1 25 k := by
    intro k hk
    simp only [mMeet0, cl_of mg (show m < 2 ^ 31 by omega)]
    rw [kset_ne _ _ (by omega)]; rfl
  have hrow : ∀ j, 20 ≤ j → j ≤ 25 → (mMeet0 g a b insd insr d).1 j m = (if j = 20 then d else if j = 21 then nI a else if j = 22 then nI b else if j = 23 then insd else if j = 24 then insr else -9) := by
    intro j h1 h2
    simp only [mMeet0, cl_of mg (show m < 2 ^ 31 by omega)]
    rcases (show j = 20 ∨ j = 21 ∨ j = 22 ∨ j = 23 ∨ j = 24 ∨ j = 25 by omega) with rfl | rfl | rfl | rfl | rfl | rfl <;> simp [kset_1]
  have m28 : (mMeet0 g a b insd insr d).1 0 28 = nI m := mg
  have free : ∀ v : kW, v.1 0 22 = g.1 0 22 ||| (1 <<< (nI a &&& 31) ||| 1 <<< (nI b &&& 31)) → v.1 7 = g.1 7 → (∀ p, p ≠ a → p ≠ b → v.1 15 p = g.1 15 p) → ∀ u : kW, u.1 15 10 = w.1 15 10 &&& ((1 <<< (nI a &&& 31) ||| 1 <<< (nI b &&& 31)) ^^^ -1) → RF n d u v := by
    intro v v1 v2 v3 u u1 p hp
    rw [u1, bt_off _ (by omega) (by omega) hp, Bool.and_eq_true, hf p hp]
    unfold mFree
    rw [v1, v2, bt_two _ (by omega) (by omega) hp]
    by_cases ea : p = a
    · simp [ea]
    · by_cases eb : p = b
      · simp [eb]
      · rw [v3 p ea eb]
        simp [ea, eb]
  simp only [cMeet, mMeet, cl_of mg (show m < 2 ^ 31 by omega), e1, e2]
  by_cases c1 : x = y
  · simp only [if_pos c1]
    refine ⟨⟨m + 1, t, by omega, by omega, by rw [kset_eq, m28, nI_1], by rw [kset_eq, nI_1], tg, tw, ?_, ?_⟩, ?_, ?_⟩
    · refine RLb.g (RLb.w (RLb.upm ((((((g0.w (by omega)).w (by omega)).w (by omega)).w (by omega)).w (by omega)).w (by omega)) (fun j h1 h2 => ?_)) (by omega)) (by omega)
      rw [hrow j h1 h2]
      rcases (show j = 20 ∨ j = 21 ∨ j = 22 ∨ j = 23 ∨ j = 24 ∨ j = 25 by omega) with rfl | rfl | rfl | rfl | rfl | rfl <;> simp [kset_1]
    · refine hh.up (v := -9) (fun k hk => by rw [kset_ne _ _ (by omega)]; exact h25 k hk) ?_ (fun p hp => ?_)
      · rw [kset_ne _ _ (by omega), hrow 25 (by decide) (by decide)]; rfl
      · constructor
        · exact fun h => Or.inl h
        · rintro (h | h)
          · exact h
          · exact absurd h.symm (nI_ne9 (by omega))
    · refine free _ ?_ ?_ (fun _ _ _ => ?_) _ ?_ <;> rfl
    · exact (((((((cKeep.rf.num (by decide)).row (by decide)).row (by decide)).row (by decide)).row (by decide)).row (by decide)).row (by decide)).row (by decide)
  · simp only [if_neg c1]
    by_cases c2 : y ≤ x
    · simp only [if_pos c2]
      obtain ⟨t', q1, q2, q3, q4⟩ := hurt_rel (w := kset w 15 10 (w.1 15 10 &&& ((1 <<< (nI a &&& 31) ||| 1 <<< (nI b &&& 31)) ^^^ -1))) (g := mMeet0 g a b insd insr d) (hu := b) (y := a) (d := d) hb h3 ha (h4 b hb) tw tg0 (by omega) g0
      obtain ⟨r1, r2, r3, r4⟩ := mHurtF_25 (mMeet0 g a b insd insr d) b a d
      have rr : ∀ j, 20 ≤ j → j ≤ 25 → (mHurtF (mMeet0 g a b insd insr d) b a d).1 j m = (mMeet0 g a b insd insr d).1 j m := by
        intro j h1 h2
        simp only [mHurtF]
        split
        · rw [kset_ne _ _ (by omega)]
        · rw [kset_ne _ _ (by omega), kset_ne _ _ (by omega), kset_ne _ _ (by omega), kset_ne _ _ (by omega), kset_ne _ _ (by omega), kset_ne _ _ (by omega)]
      refine ⟨⟨m + 1, t', by omega, by omega, ?_, by rw [kset_eq, nI_1], ?_, ?_, ?_, ?_⟩, ?_, ?_⟩
      · rw [kset_eq, kset_ne _ _ (by omega), mHurtF_met, m28, nI_1]
      · rw [kset_ne _ _ (by omega), kset_ne _ _ (by omega)]; exact q3
      · rw [kset_ne _ _ (by omega), kset_ne _ _ (by omega), kset_ne _ _ (by omega), kset_ne _ _ (by omega), kset_ne _ _ (by omega), kset_ne _ _ (by omega), kset_ne _ _ (by omega)]; exact q2
      · refine RLb.g (RLb.w (RLb.upm (((((((q4.w (by omega)).w (by omega)).w (by omega)).w (by omega)).w (by omega)).w (by omega)).g (by omega)) (fun j h1 h2 => ?_)) (by omega)) (by omega)
        rcases (show j = 20 ∨ j = 21 ∨ j = 22 ∨ j = 23 ∨ j = 24 ∨ j = 25 by omega) with rfl | rfl | rfl | rfl | rfl | rfl <;> simp [kset_1, rr, hrow]
      · refine hh.up (v := nI b) (fun k hk => ?_) ?_ (fun p hp => ?_)
        · rw [kset_ne _ _ (by omega), kset_ne _ _ (by omega), r1]; exact h25 k hk
        · rw [kset_ne _ _ (by omega), kset_eq]
        · rw [kset_ne _ _ (by omega), kset_ne _ _ (by omega), kset_ne _ _ (by omega), kset_ne _ _ (by omega), kset_ne _ _ (by omega), kset_ne _ _ (by omega), kset_ne _ _ (by omega), cHurt_h, b_or, bit_one (by omega) (by omega), Bool.or_eq_true, decide_eq_true_eq, nI_eq (by omega) (by omega)]
          rw [show ((kset w 15 10 (w.1 15 10 &&& ((1 <<< (nI a &&& 31) ||| 1 <<< (nI b &&& 31)) ^^^ -1))).1 15 1) = w.1 15 1 from rfl]
          exact or_congr Iff.rfl eq_comm
      · refine free _ ?_ ?_ (fun p p1 p2 => ?_) _ ?_
        · rw [kset_ne _ _ (by omega), kset_ne _ _ (by omega), r2, hbit]
        · rw [kset_row _ _ _ _ (by omega), kset_row _ _ _ _ (by omega), r3]; rfl
        · rw [kset_ne _ _ (by omega), kset_ne _ _ (by omega), r4 p (by omega)]; rfl
        · rw [kset_ne _ _ (by omega), kset_ne _ _ (by omega), kset_ne _ _ (by omega), kset_ne _ _ (by omega), kset_ne _ _ (by omega), kset_ne _ _ (by omega), kset_ne _ _ (by omega), cHurt_f]; rfl
      · exact (((((((cKeep.rf.num (by decide)).tr (cHurt_keep ..)).row (by decide)).row (by decide)).row (by decide)).row (by decide)).row (by decide)).row (by decide) |>.row (by decide)
    · simp only [if_neg c2]
      obtain ⟨t', q1, q2, q3, q4⟩ := hurt_rel (w := kset w 15 10 (w.1 15 10 &&& ((1 <<< (nI a &&& 31) ||| 1 <<< (nI b &&& 31)) ^^^ -1))) (g := mMeet0 g a b insd insr d) (hu := a) (y := b) (d := d) ha h3 hb (h4 a ha) tw tg0 (by omega) g0
      obtain ⟨r1, r2, r3, r4⟩ := mHurtF_25 (mMeet0 g a b insd insr d) a b d
      have rr : ∀ j, 20 ≤ j → j ≤ 25 → (mHurtF (mMeet0 g a b insd insr d) a b d).1 j m = (mMeet0 g a b insd insr d).1 j m := by
        intro j h1 h2
        simp only [mHurtF]
        split
        · rw [kset_ne _ _ (by omega)]
        · rw [kset_ne _ _ (by omega), kset_ne _ _ (by omega), kset_ne _ _ (by omega), kset_ne _ _ (by omega), kset_ne _ _ (by omega), kset_ne _ _ (by omega)]
      refine ⟨⟨m + 1, t', by omega, by omega, ?_, by rw [kset_eq, nI_1], ?_, ?_, ?_, ?_⟩, ?_, ?_⟩
      · rw [kset_eq, kset_ne _ _ (by omega), mHurtF_met, m28, nI_1]
      · rw [kset_ne _ _ (by omega), kset_ne _ _ (by omega)]; exact q3
      · rw [kset_ne _ _ (by omega), kset_ne _ _ (by omega), kset_ne _ _ (by omega), kset_ne _ _ (by omega), kset_ne _ _ (by omega), kset_ne _ _ (by omega), kset_ne _ _ (by omega)]; exact q2
      · refine RLb.g (RLb.w (RLb.upm (((((((q4.w (by omega)).w (by omega)).w (by omega)).w (by omega)).w (by omega)).w (by omega)).g (by omega)) (fun j h1 h2 => ?_)) (by omega)) (by omega)
        rcases (show j = 20 ∨ j = 21 ∨ j = 22 ∨ j = 23 ∨ j = 24 ∨ j = 25 by omega) with rfl | rfl | rfl | rfl | rfl | rfl <;> simp [kset_1, rr, hrow]
      · refine hh.up (v := nI a) (fun k hk => ?_) ?_ (fun p hp => ?_)
        · rw [kset_ne _ _ (by omega), kset_ne _ _ (by omega), r1]; exact h25 k hk
        · rw [kset_ne _ _ (by omega), kset_eq]
        · rw [kset_ne _ _ (by omega), kset_ne _ _ (by omega), kset_ne _ _ (by omega), kset_ne _ _ (by omega), kset_ne _ _ (by omega), kset_ne _ _ (by omega), kset_ne _ _ (by omega), cHurt_h, b_or, bit_one (by omega) (by omega), Bool.or_eq_true, decide_eq_true_eq, nI_eq (by omega) (by omega)]
          rw [show ((kset w 15 10 (w.1 15 10 &&& ((1 <<< (nI a &&& 31) ||| 1 <<< (nI b &&& 31)) ^^^ -1))).1 15 1) = w.1 15 1 from rfl]
          exact or_congr Iff.rfl eq_comm
      · refine free _ ?_ ?_ (fun p p1 p2 => ?_) _ ?_
        · rw [kset_ne _ _ (by omega), kset_ne _ _ (by omega), r2, hbit]
        · rw [kset_row _ _ _ _ (by omega), kset_row _ _ _ _ (by omega), r3]; rfl
        · rw [kset_ne _ _ (by omega), kset_ne _ _ (by omega), r4 p (by omega)]; rfl
        · rw [kset_ne _ _ (by omega), kset_ne _ _ (by omega), kset_ne _ _ (by omega), kset_ne _ _ (by omega), kset_ne _ _ (by omega), kset_ne _ _ (by omega), kset_ne _ _ (by omega), cHurt_f]; rfl
      · exact (((((((cKeep.rf.num (by decide)).tr (cHurt_keep ..)).row (by decide)).row (by decide)).row (by decide)).row (by decide)).row (by decide)).row (by decide) |>.row (by decide)
