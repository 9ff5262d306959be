theorem mHurtF_ge (w : kW) (hu y : Nat) (d : Int32) {c : Nat} (hc : 20 ≤ c) : (mHurtF w hu y d).1 c = w.1 c := by
  simp only [mHurtF]
  split
  · rw [kset_row _ _ _ _ (by omega)]
  · rw [kset_row _ _ _ _ (by omega), kset_row _ _ _ _ (by omega), kset_row _ _ _ _ (by omega), kset_row _ _ _ _ (by omega), kset_row _ _ _ _ (by omega), kset_row _ _ _ _ (by omega)]
/-- the seconds of the meetings are persons -/
def MtOk (n : Nat) (w : kW) : Prop := ∀ k, k < dn (w.1 0 28) → ∃ a b, a < n ∧ b < n ∧ w.1 21 k = nI a ∧ w.1 22 k = nI b
theorem mMeet_mt {w : kW} {n m a b : Nat} {x y d : Int32} (h : MtOk n w) (hm : w.1 0 28 = nI m) (hm2 : m < 200) (ha : a < n) (hb : b < n) : MtOk n (mMeet w a b x y d) := by
  have e28 : (mMeet w a b x y d).1 0 28 = nI (m + 1) := by
    simp only [mMeet]
    rw [kset_eq, ← nI_1]
    congr 1
    split
    · exact hm
    · split
      · rw [kset_ne _ _ (Or.inl (by decide)), mHurtF_met]; exact hm
      · rw [kset_ne _ _ (Or.inl (by decide)), mHurtF_met]; exact hm
  have e21 : ∀ c, c = 21 ∨ c = 22 → (mMeet w a b x y d).1 c = (mMeet0 w a b x y d).1 c := by
    intro c hc
    simp only [mMeet]
    rw [kset_row _ _ _ _ (by omega)]
    split
    · rfl
    · split
      · rw [kset_row _ _ _ _ (by omega), mHurtF_ge _ _ _ _ (by omega)]
      · rw [kset_row _ _ _ _ (by omega), mHurtF_ge _ _ _ _ (by omega)]
  intro k hk
  rw [e28, dn_nI (by omega)] at hk
  rw [e21 21 (Or.inl rfl), e21 22 (Or.inr rfl)]
  simp only [mMeet0]
  have em : (w.1 0 28).toNatClampNeg = m := by rw [hm]; exact dn_nI (by omega)
  rw [em]
  by_cases e : k = m
  · subst e
    exact ⟨a, b, ha, hb, by simp [kset_1], by simp [kset_1]⟩
  · obtain ⟨a', b', h1, h2, h3, h4⟩ := h k (by rw [hm, dn_nI (by omega)]; omega)
    exact ⟨a', b', h1, h2, by simp [kset_1, e, h3], by simp [kset_1, e, h4]⟩
theorem mAnswer_mt {w : kW} {n m0 i j : Nat} {deg d : Int32} (h : MtOk n w) (hS : SInv n m0 w) (hm0 : m0 ≤ 177) (hi : i < n) (hj : j < n) : MtOk n (mAnswer w i j deg d) := by
  obtain ⟨m, hm, hm2⟩ := hS.m hm0
  simp only [mAnswer]
  split
  · split
    · exact h
    · rename_i a ha
      have g1 := mSec_some hS.1 hj ha
      split
      · exact h
      · rename_i b hb
        have g2 := mSec_some hS.1 hi hb
        exact mMeet_mt h hm hm2 g1.1 g2.1
  · exact h
theorem mTold_mt {w : kW} {n c m0 d : Nat} (hM : MtOk n w) (h : SInv n m0 (kset w 0 22 0)) (hI : Ins n c w) (hm0 : m0 ≤ 177) : ∀ k, k ≤ c → MtOk n (mTold w d k) := by
  intro k
  induction k with
  | zero => intro _; exact hM
  | succ k ih =>
    intro hk
    have g := ih (by omega)
    obtain ⟨g1, g2⟩ := mTold_inv (d := d) h hI hm0 k (by omega)
    simp only [mTold]
    split
    · obtain ⟨a, b, dd, gg, h1, h2, h3, h4, h5, h6, h7, h8, h9, h10⟩ := (hI.keep g2).2.2 k (by omega)
      have hn := g1.1.le
      rw [cl_of h7 (by omega), cl_of h8 (by omega)]
      exact mAnswer_mt g g1 hm0 h1 h2
    · exact g
theorem mTk_mt {w : kW} {n m0 d t b : Nat} (hM : MtOk n w) (h : SInv n m0 w) (hm0 : m0 ≤ 177) (ht : w.1 0 23 = nI t) (ht2 : t < 200) (hb : b ≤ t) : ∀ k, k ≤ b → MtOk n (mTk w d k) := by
  intro k
  induction k with
  | zero => intro _; exact hM
  | succ k ih =>
    intro hk
    have g := ih (by omega)
    obtain ⟨g1, g2, t', g3, g4⟩ := mTk_inv (d := d) h hm0 ht ht2 hb k (by omega)
    obtain ⟨m, t2, q1, q2, q3, q4, q5⟩ := mTk_t h hm0
    have e : t = t2 := nI_inj (by omega) (by omega) (ht.symm.trans q3)
    subst e
    simp only [mTk]
    split
    · obtain ⟨a, b, h1, h2, h3, h4⟩ := q5 k (by omega)
      obtain ⟨k1, k2, k3, k4⟩ := g4.2.2 k (by omega)
      have hn := g1.1.le
      rw [cl_of (k1.trans h3) (by omega), cl_of (k2.trans h4) (by omega)]
      exact mAnswer_mt g g1 hm0 h1 h2
    · exact g
theorem mDawn_mt {w : kW} {n c M d : Nat} (hM : MtOk n w) (h : DInv n M w) (hM2 : M ≤ 177) (hI : Ins n c w) : MtOk n (mDawn c w d) := by
  obtain ⟨m, hm, hS⟩ := h.start
  obtain ⟨t, ht2, ht⟩ := h.t hM2
  obtain ⟨t', h1, h2, h3, h4⟩ := mTold_ext (d := d) hS hI (by omega) ht (by omega) c (Nat.le_refl c)
  unfold mDawn
  rw [cl_of ht (by omega)]
  exact mTk_mt (mTold_mt hM hS hI (by omega) c (Nat.le_refl c)) (mTold_inv hS hI (by omega) c (Nat.le_refl c)).1 (by omega) h3 h1 h2 t (Nat.le_refl t)
theorem mAhead_mt {w : kW} {n c : Nat} (hP : Pn n w) (hI : Ins n c w) : ∀ d, d ≤ 60 → MtOk n (mAhead n c w d)
  | 0, _ => fun k hk => by
    have : (mAhead n c w 0).1 0 28 = 0 := (mZero_23 w n).2
    rw [this] at hk
    exact absurd hk (Nat.not_lt_zero _)
  | d + 1, hd => by
    obtain ⟨h1, h2⟩ := mAhead_inv hP hI d (by omega)
    exact mDawn_mt (mAhead_mt hP hI d (by omega)) h1 (by omega) (hI.keep h2)
theorem mGo_mt {w : kW} {n c d : Nat} (hP : Pn n w) (hI : Ins n c w) (hd : d ≤ 60) : MtOk n (mGo n c w d) := mAhead_mt hP hI d hd
theorem bt_pair {a b k : Nat} (ha : a < 6) (hb : b < 6) (hk : k < 32) : bt (1 <<< (nI a &&& 31) ||| 1 <<< (nI b &&& 31)) k = (decide (k = a) || decide (k = b)) := by
  rw [b_or, bit_one (by omega) hk, bit_one (by omega) hk]
def pairB (x y : Nat) : Int32 := ((1 : Int32) <<< (nI x &&& 31)) ||| ((1 : Int32) <<< (nI y &&& 31))
theorem pair_q : ∀ a, a < 6 → ∀ b, b < 6 → ∀ p, p < 6 → ∀ o, o < 6 → (decide (p = o) || (decide (pairB a b = pairB p o) == (decide (a = p ∧ b = o) || decide (a = o ∧ b = p)))) = true := by decide +kernel
theorem pair_eq (a : Nat) (ha : a < 6) (b : Nat) (hb : b < 6) (p : Nat) (hp : p < 6) (o : Nat) (ho : o < 6) (h : p ≠ o) : (((1 : Int32) <<< (nI a &&& 31)) ||| ((1 : Int32) <<< (nI b &&& 31)) = ((1 : Int32) <<< (nI p &&& 31)) ||| ((1 : Int32) <<< (nI o &&& 31))) ↔ ((a = p ∧ b = o) ∨ (a = o ∧ b = p)) := by
  have := pair_q a ha b hb p hp o ho
  rw [decide_eq_false h, Bool.false_or, beq_iff_eq] at this
  rw [← decide_eq_true_iff (p := _ ∨ _), Bool.decide_or, ← this, decide_eq_true_eq]
  rfl

set_option maxRecDepth 100000 in
set_option maxHeartbeats 1000000 in
theorem s_X1_wasThere_lp {w g : kW} {n m : Nat} {p : Nat} {d : Int32} (hp : p < 6) (hl : LV n w g) (hmt : MtOk n g) (hm : g.1 0 28 = nI m) (hm2 : m ≤ 180) : ∀ q k, k + q = m → (∀ j, j < k → ¬ (g.1 20 j = d ∧ (g.1 21 j = nI p ∨ g.1 22 j = nI p))) → BS shC RX1 cX1_wasThere 4 (some .boolean) 2 41 (fun r w' => w = w' ∧ ((r = some (.int 1) ∧ (wIn g (nI p) d)) ∨ (r = some (.int 0) ∧ ¬ (wIn g (nI p) d)))) 2 [(0, .ref 16), (1, .int (nI p)), (2, .int d), (3, .int (nI k))] [] w := by
  intro q
  have em : dn (g.1 0 28) = m := by rw [hm]; exact dn_nI (by omega)
  have hn := hl.1.1.le
  induction q with
  | zero =>
    intro k hk hno
    refine b_iload_n dX1_wasThere_2 rfl ?_
    refine b_aload_n dX1_wasThere_3 rfl ?_
    refine b_geti dX1_wasThere_4 gf_X1_16 rfl rfl ?_
    refine b_topi (y := nI m) (hl.m.trans hm) ?_
    refine b_icmp_ge (tgt := 42) dX1_wasThere_7 (by decide) (fun h7 => ?_) (fun h7 => ?_)
    · refine b_iconst (v := 0) dX1_wasThere_42 (by decide) ?_
      have e : k = m := by omega
      subst e
      refine b_zret (Or.inl rfl) dX1_wasThere_43 rfl ⟨rfl, Or.inr ⟨rfl, fun hh => ?_⟩⟩
      obtain ⟨j, j1, j2⟩ := hh
      rw [em] at j1
      exact hno j j1 j2
    · exact absurd (nI_le (by omega) (by omega)) h7
  | succ q ih =>
    intro k hk hno
    have hkm : k < dn (g.1 0 28) := by rw [em]; omega
    obtain ⟨a, b, ha, hb, e21, e22⟩ := hmt k hkm
    have r20 := hl.row (j := 20) (by decide) (by decide) hkm
    have r21 := (hl.row (j := 21) (by decide) (by decide) hkm).trans e21
    have r22 := (hl.row (j := 22) (by decide) (by decide) hkm).trans e22
    refine b_iload_n dX1_wasThere_2 rfl ?_
    refine b_aload_n dX1_wasThere_3 rfl ?_
    refine b_geti dX1_wasThere_4 gf_X1_16 rfl rfl ?_
    refine b_topi (y := nI m) (hl.m.trans hm) ?_
    refine b_icmp_ge (tgt := 42) dX1_wasThere_7 (by decide) (fun h7 => ?_) (fun h7 => ?_)
    · exact absurd h7 (nI_ge (by omega) (by omega))
    · refine b_aload_n dX1_wasThere_10 rfl ?_
      refine b_getr dX1_wasThere_11 gf_X1_11 rfl rfl ?_
      refine b_iconst (v := 0) dX1_wasThere_14 (by decide) ?_
      refine b_aald (r := 18) dX1_wasThere_15 rfl (by decide) (by unfold vp_in; decide) rfl ?_
      refine b_iload_n dX1_wasThere_16 rfl ?_
      refine b_ialdN dX1_wasThere_17 rfl ⟨by omega, by decide⟩ ?_
      refine b_topi (y := g.1 20 k) r20 ?_
      refine b_iload_n dX1_wasThere_18 rfl ?_
      refine b_icmp_ne (tgt := 36) dX1_wasThere_19 (by decide) (fun h19 => ?_) (fun h19 => ?_)
      · refine b_iinc dX1_wasThere_36 rfl (nI_inc k) (by decide) ?_
        refine b_goto (tgt := 2) dX1_wasThere_39 (by decide) ?_
        refine b_sub [1, 2, 3, 0] rfl ?_
        exact ih (k + 1) (by omega) (no_up hno (fun z => h19 z.1))
      · refine b_aload_n dX1_wasThere_22 rfl ?_
        refine b_iload_n dX1_wasThere_23 rfl ?_
        refine b_callV1 dX1_wasThere_24 lk_X1_24 rfl rfl rfl ⟨Nat.le_of_ble_eq_true rfl, Nat.le_of_ble_eq_true rfl⟩ (Nat.le_of_ble_eq_true rfl) (s_X1_pairOf (k := k) (by omega)) (fun r w24 h24 => ?_)
        obtain ⟨rfl, rfl⟩ := h24
        refine b_topi (y := 1 <<< (nI a &&& 31) ||| 1 <<< (nI b &&& 31)) (by rw [r21, r22]) ?_
        refine b_iload_n dX1_wasThere_27 rfl ?_
        refine b_callSN2 dX1_wasThere_28 lk_X1_27 ⟨Nat.le_of_ble_eq_true rfl, Nat.le_of_ble_eq_true rfl⟩ (Nat.le_of_ble_eq_true rfl) (s_X7_in (k := p) (by omega)) (fun r w28 h28 => ?_)
        obtain ⟨rfl, h28⟩ := h28
        rcases h28 with ⟨rfl, h28⟩ | ⟨rfl, h28⟩
        · refine b_if_eq (tgt := 36) dX1_wasThere_31 (by decide) (fun h31 => absurd h31 (by decide)) (fun h31 => ?_)
          refine b_iconst (v := 1) dX1_wasThere_34 (by decide) ?_
          refine b_zret (Or.inr rfl) dX1_wasThere_35 rfl ⟨rfl, Or.inl ⟨rfl, k, by rw [em]; omega, h19, by rw [e21, e22]; rw [bt_pair (by omega) (by omega) (by omega), Bool.or_eq_true, decide_eq_true_eq, decide_eq_true_eq] at h28; exact h28.imp (fun z => by rw [z]) (fun z => by rw [z])⟩⟩
        · refine b_if_eq (tgt := 36) dX1_wasThere_31 (by decide) (fun h31 => ?_) (fun h31 => absurd h31 (by decide))
          refine b_iinc dX1_wasThere_36 rfl (nI_inc k) (by decide) ?_
          refine b_goto (tgt := 2) dX1_wasThere_39 (by decide) ?_
          refine b_sub [1, 2, 3, 0] rfl ?_
          exact ih (k + 1) (by omega) (no_up hno (fun z => h28 (by rw [bt_pair (by omega) (by omega) (by omega), Bool.or_eq_true, decide_eq_true_eq, decide_eq_true_eq]; rw [e21, e22] at z; exact z.2.imp (fun y => (nI_inj (by omega) (by omega) y).symm) (fun y => (nI_inj (by omega) (by omega) y).symm))))

set_option maxRecDepth 100000 in
set_option maxHeartbeats 1000000 in
theorem s_X1_wasThere {w g : kW} {n m : Nat} (hl : LV n w g) (hmt : MtOk n g) (hm : g.1 0 28 = nI m) (hm2 : m ≤ 180) {p : Nat} {d : Int32} (hp : p < 6) : Spec shC yX1_wasThere cX1_wasThere 4 (some .boolean) 2 41 [.ref 16, .int (nI p), .int d] w (fun r w' => w = w' ∧ ((r = some (.int 1) ∧ (wIn g (nI p) d)) ∨ (r = some (.int 0) ∧ ¬ (wIn g (nI p) d)))) := by
  refine k_enter pn_X1 (Nat.le_of_ble_eq_true rfl) ?_
  refine b_iconst (v := 0) dX1_wasThere_0 (by decide) ?_
  refine b_istore_n dX1_wasThere_1 (by decide) ?_
  refine b_sub [1, 2, 3, 0] rfl ?_
  exact s_X1_wasThere_lp hp hl hmt hm hm2 m 0 (by omega) (fun j hj => absurd hj (Nat.not_lt_zero _))

set_option maxRecDepth 100000 in
set_option maxHeartbeats 1000000 in
theorem s_X1_pairMetBehind_lp {w g : kW} {n m : Nat} {p o : Nat} {d : Int32} (hp : p < 6) (ho : o < 6) (hpo : p ≠ o) (hl : LV n w g) (hmt : MtOk n g) (hm : g.1 0 28 = nI m) (hm2 : m ≤ 180) : ∀ q k, k + q = m → (∀ j, j < k → ¬ (((g.1 21 j = nI p ∧ g.1 22 j = nI o) ∨ (g.1 21 j = nI o ∧ g.1 22 j = nI p)) ∧ d < g.1 20 j)) → BS shC RX1 cX1_pairMetBehind 4 (some .boolean) 2 41 (fun r w' => w = w' ∧ ((r = some (.int 1) ∧ (dMt g (nI p) (nI o) d)) ∨ (r = some (.int 0) ∧ ¬ (dMt g (nI p) (nI o) d)))) 2 [(0, .ref 16), (1, .int (1 <<< (nI p &&& 31) ||| 1 <<< (nI o &&& 31))), (2, .int d), (3, .int (nI k))] [] w := by
  intro q
  have em : dn (g.1 0 28) = m := by rw [hm]; exact dn_nI (by omega)
  have hn := hl.1.1.le
  induction q with
  | zero =>
    intro k hk hno
    refine b_iload_n dX1_pairMetBehind_2 rfl ?_
    refine b_aload_n dX1_pairMetBehind_3 rfl ?_
    refine b_geti dX1_pairMetBehind_4 gf_X1_16 rfl rfl ?_
    refine b_topi (y := nI m) (hl.m.trans hm) ?_
    refine b_icmp_ge (tgt := 39) dX1_pairMetBehind_7 (by decide) (fun h7 => ?_) (fun h7 => ?_)
    · refine b_iconst (v := 0) dX1_pairMetBehind_39 (by decide) ?_
      have e : k = m := by omega
      subst e
      refine b_zret (Or.inl rfl) dX1_pairMetBehind_40 rfl ⟨rfl, Or.inr ⟨rfl, fun hh => ?_⟩⟩
      obtain ⟨j, j1, j2⟩ := hh
      rw [em] at j1
      exact hno j j1 j2
    · exact absurd (nI_le (by omega) (by omega)) h7
  | succ q ih =>
    intro k hk hno
    have hkm : k < dn (g.1 0 28) := by rw [em]; omega
    obtain ⟨a, b, ha, hb, e21, e22⟩ := hmt k hkm
    have r20 := hl.row (j := 20) (by decide) (by decide) hkm
    have r21 := (hl.row (j := 21) (by decide) (by decide) hkm).trans e21
    have r22 := (hl.row (j := 22) (by decide) (by decide) hkm).trans e22
    refine b_iload_n dX1_pairMetBehind_2 rfl ?_
    refine b_aload_n dX1_pairMetBehind_3 rfl ?_
    refine b_geti dX1_pairMetBehind_4 gf_X1_16 rfl rfl ?_
    refine b_topi (y := nI m) (hl.m.trans hm) ?_
    refine b_icmp_ge (tgt := 39) dX1_pairMetBehind_7 (by decide) (fun h7 => ?_) (fun h7 => ?_)
    · exact absurd h7 (nI_ge (by omega) (by omega))
    · refine b_aload_n dX1_pairMetBehind_10 rfl ?_
      refine b_getr dX1_pairMetBehind_11 gf_X1_11 rfl rfl ?_
      refine b_iconst (v := 0) dX1_pairMetBehind_14 (by decide) ?_
      refine b_aald (r := 18) dX1_pairMetBehind_15 rfl (by decide) (by unfold vp_in; decide) rfl ?_
      refine b_iload_n dX1_pairMetBehind_16 rfl ?_
      refine b_ialdN dX1_pairMetBehind_17 rfl ⟨by omega, by decide⟩ ?_
      refine b_topi (y := g.1 20 k) r20 ?_
      refine b_iload_n dX1_pairMetBehind_18 rfl ?_
      refine b_icmp_le (tgt := 33) dX1_pairMetBehind_19 (by decide) (fun h19 => ?_) (fun h19 => ?_)
      · refine b_iinc dX1_pairMetBehind_33 rfl (nI_inc k) (by decide) ?_
        refine b_goto (tgt := 2) dX1_pairMetBehind_36 (by decide) ?_
        refine b_sub [1, 2, 3, 0] rfl ?_
        exact ih (k + 1) (by omega) (no_up hno (fun z => absurd z.2 (Int32.not_lt.mpr h19)))
      · refine b_aload_n dX1_pairMetBehind_22 rfl ?_
        refine b_iload_n dX1_pairMetBehind_23 rfl ?_
        refine b_callV1 dX1_pairMetBehind_24 lk_X1_24 rfl rfl rfl ⟨Nat.le_of_ble_eq_true rfl, Nat.le_of_ble_eq_true rfl⟩ (Nat.le_of_ble_eq_true rfl) (s_X1_pairOf (k := k) (by omega)) (fun r w24 h24 => ?_)
        obtain ⟨rfl, rfl⟩ := h24
        refine b_topi (y := 1 <<< (nI a &&& 31) ||| 1 <<< (nI b &&& 31)) (by rw [r21, r22]) ?_
        refine b_iload_n dX1_pairMetBehind_27 rfl ?_
        refine b_icmp_ne (tgt := 33) dX1_pairMetBehind_28 (by decide) (fun h28 => ?_) (fun h28 => ?_)
        · refine b_iinc dX1_pairMetBehind_33 rfl (nI_inc k) (by decide) ?_
          refine b_goto (tgt := 2) dX1_pairMetBehind_36 (by decide) ?_
          refine b_sub [1, 2, 3, 0] rfl ?_
          exact ih (k + 1) (by omega) (no_up hno (fun z => h28 ((pair_eq a (by omega) b (by omega) p hp o ho hpo).mpr (by have z1 := z.1; rw [e21, e22] at z1; exact z1.imp (fun y => ⟨nI_inj (by omega) (by omega) y.1, nI_inj (by omega) (by omega) y.2⟩) (fun y => ⟨nI_inj (by omega) (by omega) y.1, nI_inj (by omega) (by omega) y.2⟩)))))
        · refine b_iconst (v := 1) dX1_pairMetBehind_31 (by decide) ?_
          refine b_zret (Or.inr rfl) dX1_pairMetBehind_32 rfl ⟨rfl, Or.inl ⟨rfl, k, by rw [em]; omega, (by rw [e21, e22]; exact ((pair_eq a (by omega) b (by omega) p hp o ho hpo).mp h28).imp (fun z => by rw [z.1, z.2]; exact ⟨rfl, rfl⟩) (fun z => by rw [z.1, z.2]; exact ⟨rfl, rfl⟩)), Int32.not_le.mp h19⟩⟩

set_option maxRecDepth 100000 in
set_option maxHeartbeats 1000000 in
theorem s_X1_pairMetBehind {w g : kW} {n m : Nat} (hl : LV n w g) (hmt : MtOk n g) (hm : g.1 0 28 = nI m) (hm2 : m ≤ 180) {p o : Nat} {d : Int32} (hp : p < 6) (ho : o < 6) (hpo : p ≠ o) : Spec shC yX1_pairMetBehind cX1_pairMetBehind 4 (some .boolean) 2 41 [.ref 16, .int (1 <<< (nI p &&& 31) ||| 1 <<< (nI o &&& 31)), .int d] w (fun r w' => w = w' ∧ ((r = some (.int 1) ∧ (dMt g (nI p) (nI o) d)) ∨ (r = some (.int 0) ∧ ¬ (dMt g (nI p) (nI o) d)))) := by
  refine k_enter pn_X1 (Nat.le_of_ble_eq_true rfl) ?_
  refine b_iconst (v := 0) dX1_pairMetBehind_0 (by decide) ?_
  refine b_istore_n dX1_pairMetBehind_1 (by decide) ?_
  refine b_sub [1, 2, 3, 0] rfl ?_
  exact s_X1_pairMetBehind_lp hp ho hpo hl hmt hm hm2 m 0 (by omega) (fun j hj => absurd hj (Nat.not_lt_zero _))
