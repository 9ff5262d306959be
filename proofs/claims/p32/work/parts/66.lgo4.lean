/-- what a season was, behind it -/
def gE (n : Nat) (td : Int32) (W v : kW) : Prop := ∃ m, m < 200 ∧ v.1 0 28 = nI m ∧ W.1 41 0 = nI m ∧ gRb n td m W v
/-- between two dawns -/
def gAt (n : Nat) (td : Int32) (d old : Nat) (W v : kW) : Prop := gE n td W v ∧ ∃ t, t < 200 ∧ v.1 0 23 = nI t ∧ old ≤ t ∧ old ≤ 3 ∧ (∀ k, k < t - old → ∃ x, x < 60 ∧ v.1 19 k = nI x ∧ x + 1 < d) ∧ (∀ k, t - old ≤ k → k < t → ∃ x, v.1 19 k = nI x ∧ x + 1 = d) ∧ ∀ k, k < old → W.1 42 (3 * k) = v.1 16 (t - old + k) ∧ W.1 42 (3 * k + 1) = v.1 17 (t - old + k) ∧ W.1 42 (3 * k + 2) = v.1 18 (t - old + k)
theorem gAt_next {n c d old t m0 y : Nat} {un td : Int32} {W0 W V v : kW} (hD : gDw n c un d old t m0 W0 v) (hs : gS n td t y W (mDawn c v d)) (h1 : V.1 41 = W.1 41) (h2 : ∀ x, x < 3 * y → V.1 42 x = W.1 42 (12 + x)) : gAt n td (d + 1) y V (mDawn c v d) := by
  obtain ⟨t1, x1, x2, x3, x4, x5⟩ := hD.x
  obtain ⟨-, -, -, -, -, h6, h7, h8, h9, h10, h11, h12, -, -⟩ := hD
  obtain ⟨s1, s2, t2, s3, s4⟩ := x5 t (Nat.le_refl _)
  have e2 : mDawn c v d = mTk (mTold v d c) d t := by unfold mDawn; rw [cl_of h7 (by omega)]
  rw [← e2] at s4 s1
  obtain ⟨⟨m, g1, g2, g3, g4⟩, k1, k2, k3, k4⟩ := hs
  have b6 := bs6_le ((mDawn c v d).1 0 22)
  have et : t2 = t + y := nI_inj (by omega) (by omega) (s4.1.2.1.symm.trans k1)
  subst et
  refine ⟨⟨m, g1, g2, by rw [h1]; exact g3, ?_⟩, t + y, k2, k1, by omega, by omega, fun k hk => ?_, fun k hk1 hk2 => ?_, fun k hk => ?_⟩
  · unfold gRb at *
    rw [h1]
    exact g4
  · have e19 := (s4.1.2.2 k (by omega)).2.2.2
    by_cases e : k < t - old
    · obtain ⟨x, y1, y2, y3⟩ := h11 k e
      exact ⟨x, y1, e19.trans y2, by omega⟩
    · obtain ⟨x, y2, y3⟩ := h12 k (by omega) (by omega)
      exact ⟨x, by omega, e19.trans y2, by omega⟩
  · exact ⟨d, s4.2 k (by omega) hk2, rfl⟩
  · rw [Nat.add_sub_cancel]
    obtain ⟨r1, r2, r3⟩ := k4 k hk
    refine ⟨?_, ?_, ?_⟩
    · rw [h2 _ (by omega)]; exact r1
    · rw [h2 _ (by omega), show 12 + (3 * k + 1) = 13 + 3 * k by omega]; exact r2
    · rw [h2 _ (by omega), show 12 + (3 * k + 2) = 14 + 3 * k by omega]; exact r3
theorem gE_S {n d t m0 c old : Nat} {un td : Int32} {W v : kW} (hE : gE n td W v) (ht : v.1 0 23 = nI t) (ht2 : t < 200) : gS n td t 0 (kset W 41 7 0) (kset v 0 22 0) := by
  obtain ⟨m, g1, g2, g3, g4, g5, g6⟩ := hE
  refine ⟨⟨m, g1, g2, g3, ?_, fun p hp => ?_, fun k hk e j hj => ?_⟩, ht, ht2, Nat.zero_le _, fun k hk => absurd hk (Nat.not_lt_zero _)⟩
  · rw [kset_eq, kset_eq]
  · rw [kset_ne _ _ (by omega)]; exact g5 p hp
  · rw [kset_ne _ _ (by omega), kset_ne _ _ (by omega)]; exact g6 k hk e j hj

set_option maxRecDepth 100000 in
set_option maxHeartbeats 1000000 in
theorem s_go_54 {c n D : Nat} {un till td : Int32} {W00 u : kW} (hc : c ≤ 9) (hL : gPn n W00 u) (hI : gIn c W00 u) (hu : Ins n c u) (hun : ∀ k, k < c → bt un k = bt (u.1 0 20) k) (hDD : D ≤ 60) (htl : till = nI D - 1) : ∀ q d, d + q = D → ∀ (old : Nat) (W : kW), gKp W00 W → gAt n td d old W (mAhead n c u d) → BS shL RL cL_go 21 none 1 27 (fun r w' => r = none ∧ gKp W00 w' ∧ gE n td w' (mAhead n c u D)) 54 [(0, .ref 39), (1, .ref 40), (2, .int (nI c)), (3, .int un), (4, .int till), (5, .int td), (6, .ref 41), (7, .ref 42), (8, .int (nI old)), (9, .int (nI d))] [] W := by
  subst htl
  intro q
  induction q with
  | zero =>
    intro d hd old W w1 w2
    refine b_iload dL_go_54 rfl ?_
    refine b_iload dL_go_56 rfl ?_
    refine b_icmp_gt (tgt := 616) dL_go_58 (by decide) (fun h58 => ?_) (fun h58 => ?_)
    · have e : d = D := by omega
      rw [e] at w2
      exact b_vret dL_go_616 rfl ⟨rfl, w1, w2.1⟩
    · exact absurd ((last_lt hDD (by omega)).mpr (by omega)) h58
  | succ q ih =>
    intro d hd old W w1 w2
    obtain ⟨i1, i2⟩ := mAhead_inv hL.1 hu d (by omega)
    obtain ⟨hE, t, t1, t2, t3, t4, t5, t6, t7⟩ := w2
    obtain ⟨m0, m1, m2⟩ := i1.start
    have hD : gDw n c un d old t m0 (kset W 41 7 0) (mAhead n c u d) := ⟨hL.keep (w1.1 39 (by decide) (by decide)) i2, hI.keep (w1.1 40 (by decide) (by decide)) i2, hu.keep i2, m2, by omega, by omega, t2, t1, t3, t4, t5, t6, t7, fun k hk => by rw [hun k hk, i2.2.1 20 (by decide) (by decide) (by decide)]⟩
    refine b_iload dL_go_54 rfl ?_
    refine b_iload dL_go_56 rfl ?_
    refine b_icmp_gt (tgt := 616) dL_go_58 (by decide) (fun h58 => ?_) (fun h58 => ?_)
    · exact absurd ((last_lt hDD (by omega)).mp h58) (by omega)
    · refine b_aload dL_go_61 rfl ?_
      refine b_bipush (v := 7) dL_go_63 (by decide) ?_
      refine b_iconst (v := 0) dL_go_65 (by decide) ?_
      refine b_iastN dL_go_66 rfl ⟨by decide, by decide⟩ ?_
      refine b_iconst (v := 0) dL_go_67 (by decide) ?_
      refine b_istore dL_go_68 (by decide) ?_
      refine b_iconst (v := 0) dL_go_70 (by decide) ?_
      refine b_istore dL_go_71 (by decide) ?_
      refine b_sub [2, 3, 4, 5, 6, 7, 8, 9, 10, 11, 1, 0] rfl ?_
      refine s_go_73a (till := nI D - 1) hc hD (fun W2 y u1 u2 k => ?_) c 0 (by omega) _ 0 ⟨gKp.rf, fun _ _ => rfl⟩ (gE_S (d := d) (m0 := m0) (c := c) (old := old) (un := un) hE t2 t1)
      have b6 := bs6_le ((mDawn c (mAhead n c u d) d).1 0 22)
      have y3 := u2.2.2.2.1
      refine b_iconst (v := 0) dL_go_575 (by decide) ?_
      refine b_istore dL_go_576 (by decide) ?_
      refine b_sub [1, 2, 3, 4, 5, 6, 7, 8, 9, 10, 11, 0] rfl ?_
      refine s_go_578 (by omega) (fun V v1 v2 v3 => ?_) (3 * y) 0 (by omega) W2 gKp.rf rfl (fun _ _ => rfl) (fun x hx => absurd hx (Nat.not_lt_zero _))
      refine b_iload dL_go_606 rfl ?_
      refine b_istore dL_go_608 (by decide) ?_
      refine b_iinc dL_go_610 rfl (nI_inc d) (by decide) ?_
      refine b_goto (tgt := 54) dL_go_613 (by decide) ?_
      refine b_sub [2, 3, 4, 5, 6, 7, 8, 9, 1, 0] rfl ?_
      exact ih (d + 1) (by omega) y V ((w1.row (Or.inl rfl)).tr (u1.1.tr v1)) (gAt_next hD u2 v2 v3)

set_option maxRecDepth 100000 in
set_option maxHeartbeats 1000000 in
theorem s_go_14 {c n D : Nat} {un till td : Int32} {W00 u : kW} (hc : c ≤ 9) (hL : gPn n W00 u) (hI : gIn c W00 u) (hu : Ins n c u) (hun : ∀ k, k < c → bt un k = bt (u.1 0 20) k) (hDD : D ≤ 60) (htl : till = nI D - 1) : ∀ q k, k + q = 6 → ∀ V : kW, gKp W00 V → V.1 41 0 = 0 → V.1 41 7 = 0 → (∀ p, p < k → V.1 41 (8 + p) = 0) → BS shL RL cL_go 21 none 1 27 (fun r w' => r = none ∧ gKp W00 w' ∧ gE n td w' (mAhead n c u D)) 14 [(0, .ref 39), (1, .ref 40), (2, .int (nI c)), (3, .int un), (4, .int till), (5, .int td), (6, .ref 41), (7, .ref 42), (8, .int (nI k))] [] V := by
  intro q
  induction q with
  | zero =>
    intro k hk V v1 v2 v3 v4
    refine b_iload dL_go_14 rfl ?_
    refine b_bipush (v := 6) dL_go_16 (by decide) ?_
    refine b_icmp_ge (tgt := 36) dL_go_18 (by decide) (fun h18 => ?_) (fun h18 => ?_)
    · refine b_aload dL_go_36 rfl ?_
      refine b_bipush (v := 14) dL_go_38 (by decide) ?_
      refine b_iconst (v := 0) dL_go_40 (by decide) ?_
      refine b_iastN dL_go_41 rfl ⟨by decide, by decide⟩ ?_
      refine b_aload dL_go_42 rfl ?_
      refine b_bipush (v := 15) dL_go_44 (by decide) ?_
      refine b_iconst (v := 0) dL_go_46 (by decide) ?_
      refine b_iastN dL_go_47 rfl ⟨by decide, by decide⟩ ?_
      refine b_iconst (v := 0) dL_go_48 (by decide) ?_
      refine b_istore dL_go_49 (by decide) ?_
      refine b_iconst (v := 0) dL_go_51 (by decide) ?_
      refine b_istore dL_go_52 (by decide) ?_
      refine b_sub [2, 3, 4, 5, 6, 7, 8, 9, 1, 0] rfl ?_
      refine s_go_54 hc hL hI hu hun hDD htl D 0 (by omega) 0 _ ((v1.row (Or.inl rfl)).row (Or.inl rfl)) ⟨⟨0, by decide, ?_, ?_, ?_, fun p hp => ?_, fun k hk => absurd hk (Nat.not_lt_zero _)⟩, 0, by decide, ?_, Nat.le_refl _, by decide, fun k hk => absurd hk (Nat.not_lt_zero _), fun k h1 h2 => absurd h2 (Nat.not_lt_zero _), fun k hk => absurd hk (Nat.not_lt_zero _)⟩
      · exact (mZero_23 u n).2
      · exact v2
      · exact v3
      · have hn := hL.1.le
        show (kset (kset V 41 14 0) 41 15 0).1 41 (8 + p) = (mZero u n).1 15 p
        rw [kset_ne _ _ (by omega), kset_ne _ _ (by omega), v4 p (by omega), mZero_15 u n p hp]
      · exact (mZero_23 u n).1
    · exact absurd (nI_le (a := 6) (by omega) (by omega)) h18
  | succ q ih =>
    intro k hk V v1 v2 v3 v4
    refine b_iload dL_go_14 rfl ?_
    refine b_bipush (v := 6) dL_go_16 (by decide) ?_
    refine b_icmp_ge (tgt := 36) dL_go_18 (by decide) (fun h18 => ?_) (fun h18 => ?_)
    · exact absurd h18 (nI_ge (b := 6) (by omega) (by omega))
    · refine b_aload dL_go_21 rfl ?_
      refine b_bipush (v := 8) dL_go_23 (by decide) ?_
      refine b_iload dL_go_25 rfl ?_
      refine b_iadd dL_go_27 ?_
      refine b_topi (y := nI (8 + k)) (nI_add 8 k) ?_
      refine b_iconst (v := 0) dL_go_28 (by decide) ?_
      refine b_iastN dL_go_29 rfl ⟨by omega, by decide⟩ ?_
      refine b_iinc dL_go_30 rfl (nI_inc k) (by decide) ?_
      refine b_goto (tgt := 14) dL_go_33 (by decide) ?_
      refine b_sub [1, 2, 3, 4, 5, 6, 7, 8, 0] rfl ?_
      refine ih (k + 1) (by omega) _ (v1.row (Or.inl rfl)) ?_ ?_ (fun p hp => ?_)
      · exact (kset_ne _ _ (by omega)).trans v2
      · exact (kset_ne _ _ (by omega)).trans v3
      · by_cases e : p = k
        · subst e
          exact kset_eq _ _ _ _
        · exact (kset_ne _ _ (by omega)).trans (v4 p (by omega))

set_option maxRecDepth 100000 in
set_option maxHeartbeats 1000000 in
theorem s_L_go {c n D : Nat} {un till td : Int32} {W u : kW} (hc : c ≤ 9) (hL : gPn n W u) (hI : gIn c W u) (hu : Ins n c u) (hun : ∀ k, k < c → bt un k = bt (u.1 0 20) k) (hDD : D ≤ 60) (htl : till = nI D - 1) : Spec shL yL_go cL_go 21 none 1 27 [.ref 39, .ref 40, .int (nI c), .int un, .int till, .int td, .ref 41, .ref 42] W (fun r w' => r = none ∧ gKp W w' ∧ gE n td w' (mAhead n c u D)) := by
  refine k_enter pn_L (Nat.le_of_ble_eq_true rfl) ?_
  refine b_aload dL_go_0 rfl ?_
  refine b_iconst (v := 0) dL_go_2 (by decide) ?_
  refine b_iconst (v := 0) dL_go_3 (by decide) ?_
  refine b_iastN dL_go_4 rfl ⟨by decide, by decide⟩ ?_
  refine b_aload dL_go_5 rfl ?_
  refine b_bipush (v := 7) dL_go_7 (by decide) ?_
  refine b_iconst (v := 0) dL_go_9 (by decide) ?_
  refine b_iastN dL_go_10 rfl ⟨by decide, by decide⟩ ?_
  refine b_iconst (v := 0) dL_go_11 (by decide) ?_
  refine b_istore dL_go_12 (by decide) ?_
  refine b_sub [1, 2, 3, 4, 5, 6, 7, 8, 0] rfl ?_
  refine s_go_14 hc hL hI hu hun hDD htl 6 0 (by decide) _ ((gKp.rf.row (Or.inl rfl)).row (Or.inl rfl)) ?_ ?_ (fun p hp => absurd hp (Nat.not_lt_zero _))
  · rfl
  · rfl
