/-! ===== the law's season: its loops ===== -/
/-- what a dawn begins with -/
def gDw (n c : Nat) (un : Int32) (d old t m0 : Nat) (W0 v : kW) : Prop := gPn n W0 v ∧ gIn c W0 v ∧ Ins n c v ∧ SInv n m0 (kset v 0 22 0) ∧ m0 ≤ 177 ∧ d < 60 ∧ v.1 0 23 = nI t ∧ t < 200 ∧ old ≤ t ∧ old ≤ 3 ∧ (∀ k, k < t - old → ∃ x, x < 60 ∧ v.1 19 k = nI x ∧ x + 1 < d) ∧ (∀ k, t - old ≤ k → k < t → ∃ x, v.1 19 k = nI x ∧ x + 1 = d) ∧ (∀ k, k < old → W0.1 42 (3 * k) = v.1 16 (t - old + k) ∧ W0.1 42 (3 * k + 1) = v.1 17 (t - old + k) ∧ W0.1 42 (3 * k + 2) = v.1 18 (t - old + k)) ∧ ∀ k, k < c → bt un k = bt (v.1 0 20) k
/-- under way -/
def gUw (W0 W : kW) : Prop := gKp W0 W ∧ ∀ x, x < 12 → W.1 42 x = W0.1 42 x
theorem gUw.tr {W0 W W' : kW} (h : gUw W0 W) (h1 : gKp W W') (h2 : ∀ x, x < 12 → W'.1 42 x = W.1 42 x) : gUw W0 W' := ⟨h.1.tr h1, fun x hx => (h2 x hx).trans (h.2 x hx)⟩
theorem day_eq {x : Int32} {d : Nat} : x + 1 = nI d ↔ x = nI d - 1 := by
  constructor
  · intro h; rw [← h, Int32.add_sub_cancel]
  · intro h; rw [h, Int32.sub_add_cancel]
/-- the takings of a dawn: those of a world's before it stay, its own are of the day -/
theorem gDw.x {n c d old t m0 : Nat} {un : Int32} {W0 v : kW} (h : gDw n c un d old t m0 W0 v) : ∃ t1, t1 < 200 ∧ SInv n m0 (mTold v d c) ∧ sKeep v (mTold v d c) ∧ TkX (nI d) t t1 v (mTold v d c) ∧ ∀ k, k ≤ t → SInv n m0 (mTk (mTold v d c) d k) ∧ sKeep v (mTk (mTold v d c) d k) ∧ ∃ t2, t2 < 200 ∧ TkX (nI d) t t2 v (mTk (mTold v d c) d k) := by
  obtain ⟨h1, h2, h3, h4, h5, h6, h7, h8, h9, -⟩ := h
  obtain ⟨a1, a2⟩ := mTold_inv (d := d) h4 h3 h5 c (Nat.le_refl _)
  obtain ⟨t1, b1, b2⟩ := mTold_x (d := d) h4 h3 h5 h7 h8 c (Nat.le_refl _)
  refine ⟨t1, b1, a1, a2, b2, fun k hk => ?_⟩
  obtain ⟨e1, e2, -⟩ := mTk_inv (d := d) a1 h5 b2.1.2.1 b1 b2.1.1 k hk
  obtain ⟨t2, f1, f2⟩ := mTk_x (d := d) a1 h5 b2.1.2.1 b1 b2.1.1 k hk
  exact ⟨e1, a2.tr e2, t2, f1, b2.tr f2⟩

set_option maxRecDepth 100000 in
set_option maxHeartbeats 1000000 in
theorem s_go_569 {Φ : Option Value → kW → Prop} {c old d y k : Nat} {un till td : Int32} {W : kW} (kk : BS shL RL cL_go 21 none 1 27 Φ 73 [(0, .ref 39), (1, .ref 40), (2, .int (nI c)), (3, .int un), (4, .int till), (5, .int td), (6, .ref 41), (7, .ref 42), (8, .int (nI old)), (9, .int (nI d)), (10, .int (nI y)), (11, .int (nI (k + 1)))] [] W) : BS shL RL cL_go 21 none 1 27 Φ 569 [(0, .ref 39), (1, .ref 40), (2, .int (nI c)), (3, .int un), (4, .int till), (5, .int td), (6, .ref 41), (7, .ref 42), (8, .int (nI old)), (9, .int (nI d)), (10, .int (nI y)), (11, .int (nI k))] [] W := by
  refine b_iinc dL_go_569 rfl (nI_inc k) (by decide) ?_
  refine b_goto (tgt := 73) dL_go_572 (by decide) ?_
  refine b_sub [1, 2, 3, 4, 5, 6, 7, 8, 9, 10, 11, 0] rfl ?_
  exact kk

set_option maxRecDepth 100000 in
set_option maxHeartbeats 1000000 in
theorem s_go_578 {Φ : Option Value → kW → Prop} {c old d y : Nat} {un till td : Int32} {W : kW} (hy : y ≤ 3) (kk : ∀ V : kW, gKp W V → V.1 41 = W.1 41 → (∀ x, x < 3 * y → V.1 42 x = W.1 42 (12 + x)) → BS shL RL cL_go 21 none 1 27 Φ 606 [(0, .ref 39), (1, .ref 40), (2, .int (nI c)), (3, .int un), (4, .int till), (5, .int td), (6, .ref 41), (7, .ref 42), (8, .int (nI old)), (9, .int (nI d)), (10, .int (nI y)), (11, .int (nI (3 * y)))] [] V) : ∀ q k, k + q = 3 * y → ∀ V : kW, gKp W V → V.1 41 = W.1 41 → (∀ x, 12 ≤ x → V.1 42 x = W.1 42 x) → (∀ x, x < k → V.1 42 x = W.1 42 (12 + x)) → BS shL RL cL_go 21 none 1 27 Φ 578 [(0, .ref 39), (1, .ref 40), (2, .int (nI c)), (3, .int un), (4, .int till), (5, .int td), (6, .ref 41), (7, .ref 42), (8, .int (nI old)), (9, .int (nI d)), (10, .int (nI y)), (11, .int (nI k))] [] V := by
  intro q
  induction q with
  | zero =>
    intro k hk V v1 v2 v3 v4
    refine b_iload dL_go_578 rfl ?_
    refine b_iconst (v := 3) dL_go_580 (by decide) ?_
    refine b_iload dL_go_581 rfl ?_
    refine b_imul dL_go_583 ?_
    refine b_topi (y := nI (3 * y)) (nI_mul 3 y) ?_
    refine b_icmp_ge (tgt := 606) dL_go_584 (by decide) (fun h584 => ?_) (fun h584 => ?_)
    · refine b_sub [0, 1, 2, 3, 4, 5, 6, 7, 8, 9, 10, 11] rfl ?_
      have e : k = 3 * y := by omega
      subst e
      exact kk V v1 v2 v4
    · exact absurd (nI_le (by omega) (by omega)) h584
  | succ q ih =>
    intro k hk V v1 v2 v3 v4
    refine b_iload dL_go_578 rfl ?_
    refine b_iconst (v := 3) dL_go_580 (by decide) ?_
    refine b_iload dL_go_581 rfl ?_
    refine b_imul dL_go_583 ?_
    refine b_topi (y := nI (3 * y)) (nI_mul 3 y) ?_
    refine b_icmp_ge (tgt := 606) dL_go_584 (by decide) (fun h584 => ?_) (fun h584 => ?_)
    · exact absurd h584 (nI_ge (by omega) (by omega))
    · refine b_aload dL_go_587 rfl ?_
      refine b_iload dL_go_589 rfl ?_
      refine b_aload dL_go_591 rfl ?_
      refine b_bipush (v := 12) dL_go_593 (by decide) ?_
      refine b_iload dL_go_595 rfl ?_
      refine b_iadd dL_go_597 ?_
      refine b_topi (y := nI (12 + k)) (nI_add 12 k) ?_
      refine b_ialdN dL_go_598 rfl ⟨by omega, by decide⟩ ?_
      refine b_iastN dL_go_599 rfl ⟨by omega, by decide⟩ ?_
      refine b_iinc dL_go_600 rfl (nI_inc k) (by decide) ?_
      refine b_goto (tgt := 578) dL_go_603 (by decide) ?_
      refine b_sub [1, 2, 3, 4, 5, 6, 7, 8, 9, 10, 11, 0] rfl ?_
      refine ih (k + 1) (by omega) _ (v1.row (Or.inr rfl)) ?_ (fun x hx => ?_) (fun x hx => ?_)
      · exact (kset_row _ _ _ _ (by decide)).trans v2
      · exact (kset_ne _ _ (by omega)).trans (v3 x hx)
      · by_cases e : x = k
        · subst e
          exact (kset_eq V 42 x _).trans (v3 _ (by omega))
        · exact (kset_ne _ _ (by omega)).trans (v4 x (by omega))

set_option maxRecDepth 100000 in
set_option maxHeartbeats 1000000 in
theorem s_go_73b {Φ : Option Value → kW → Prop} {c old d : Nat} {un till td : Int32} {n m0 t : Nat} {W0 v : kW} (hc : c ≤ 9) (hD : gDw n c un d old t m0 W0 v) (kk : ∀ (W : kW) (y : Nat), gUw W0 W → gS n td t y W (mDawn c v d) → ∀ k, BS shL RL cL_go 21 none 1 27 Φ 575 [(0, .ref 39), (1, .ref 40), (2, .int (nI c)), (3, .int un), (4, .int till), (5, .int td), (6, .ref 41), (7, .ref 42), (8, .int (nI old)), (9, .int (nI d)), (10, .int (nI y)), (11, .int (nI k))] [] W) : ∀ q k, k + q = old → ∀ (W : kW) (y : Nat), gUw W0 W → gS n td t y W (mTk (mTold v d c) d (t - old + k)) → BS shL RL cL_go 21 none 1 27 Φ 73 [(0, .ref 39), (1, .ref 40), (2, .int (nI c)), (3, .int un), (4, .int till), (5, .int td), (6, .ref 41), (7, .ref 42), (8, .int (nI old)), (9, .int (nI d)), (10, .int (nI y)), (11, .int (nI (c + k)))] [] W := by
  obtain ⟨t1, x1, x2, x3, x4, x5⟩ := hD.x
  obtain ⟨h1, h2, h3, h4, h5, h6, h7, h8, h9, h10, h11, h12, h13, h14⟩ := hD
  intro q
  induction q with
  | zero =>
    intro k hk W y w1 w2
    have e : t - old + k = t := by omega
    rw [e] at w2
    have e2 : mDawn c v d = mTk (mTold v d c) d t := by unfold mDawn; rw [cl_of h7 (by omega)]
    rw [← e2] at w2
    refine b_iload dL_go_73 rfl ?_
    refine b_iload_n dL_go_75 rfl ?_
    refine b_iload dL_go_76 rfl ?_
    refine b_iadd dL_go_78 ?_
    refine b_topi (y := nI (c + old)) (nI_add c old) ?_
    refine b_icmp_ge (tgt := 575) dL_go_79 (by decide) (fun h79 => ?_) (fun h79 => ?_)
    · refine b_sub [0, 1, 2, 3, 4, 5, 6, 7, 8, 9, 10, 11] rfl ?_
      exact kk W y w1 w2 _
    · exact absurd (nI_le (by omega) (by omega)) h79
  | succ q ih =>
    intro k hk W y w1 w2
    obtain ⟨s1, s2, t2, s3, s4⟩ := x5 (t - old + k) (by omega)
    have sT : TkOk n t v := by
      obtain ⟨-, m, t9, -, y2, -, -, y3⟩ := h4
      have y4 : nI t9 = nI t := y2.symm.trans h7
      have hn := h1.1.le
      intro k hk
      by_cases e9 : t9 < 2 ^ 31
      · have := nI_inj e9 (by omega) y4
        exact y3 k (by omega)
      · obtain ⟨-, m', t8, -, z2, z3, z4, z5⟩ := x2
        exact (by
          have := bs6_le ((mTold v d c).1 0 22)
          have q1 := nI_inj (by omega) (by omega) (z2.symm.trans x4.1.2.1)
          obtain ⟨a, b, g1, g2, g3, g4⟩ := z5 k (by have := x4.1.1; omega)
          exact ⟨a, b, g1, g2, (x4.1.2.2 k hk).1.symm.trans g3, (x4.1.2.2 k hk).2.1.symm.trans g4⟩)
    obtain ⟨i, j, i1, j1, i2, j2⟩ := sT (t - old + k) (by omega)
    have hn := h1.1.le
    obtain ⟨r1, r2, r3⟩ := h13 k (by omega)
    have f1 : W.1 42 (3 * k) = nI i := (w1.2 _ (by omega)).trans (r1.trans i2)
    have f2 : W.1 42 (3 * k + 1) = nI j := (w1.2 _ (by omega)).trans (r2.trans j2)
    have f3 : W.1 42 (3 * k + 2) = v.1 18 (t - old + k) := (w1.2 _ (by omega)).trans r3
    obtain ⟨p1, p2, p3, p4⟩ := s4.1.2.2 (t - old + k) (by omega)
    obtain ⟨x, x6, x7⟩ := h12 (t - old + k) (by omega) (by omega)
    have gy := mTk_yes (w := mTold v d c) (d := d) (k := t - old + k) (a := i) (b := j) (by rw [p4, x6, ← x7, nI_pred]) (p1.trans i2) (p2.trans j2) (by omega) (by omega)
    rw [p3] at gy
    refine b_iload dL_go_73 rfl ?_
    refine b_iload_n dL_go_75 rfl ?_
    refine b_iload dL_go_76 rfl ?_
    refine b_iadd dL_go_78 ?_
    refine b_topi (y := nI (c + old)) (nI_add c old) ?_
    refine b_icmp_ge (tgt := 575) dL_go_79 (by decide) (fun h79 => ?_) (fun h79 => ?_)
    · exact absurd h79 (nI_ge (by omega) (by omega))
    · refine b_iload dL_go_82 rfl ?_
      refine b_iload_n dL_go_84 rfl ?_
      refine b_icmp_ge (tgt := 97) dL_go_85 (by decide) (fun h85 => ?_) (fun h85 => ?_)
      · refine b_aload dL_go_97 rfl ?_
        refine b_iconst (v := 3) dL_go_99 (by decide) ?_
        refine b_iload dL_go_100 rfl ?_
        refine b_iload_n dL_go_102 rfl ?_
        refine b_isub dL_go_103 ?_
        refine b_topi (y := nI k) (by rw [nI_sub (by omega), Nat.add_sub_cancel_left]) ?_
        refine b_imul dL_go_104 ?_
        refine b_topi (y := nI (3 * k)) (nI_mul 3 k) ?_
        refine b_ialdN dL_go_105 rfl ⟨by omega, by decide⟩ ?_
        refine b_topi (y := nI i) f1 ?_
        refine b_istore dL_go_106 (by decide) ?_
        refine b_iload dL_go_108 rfl ?_
        refine b_iload_n dL_go_110 rfl ?_
        refine b_icmp_ge (tgt := 125) dL_go_111 (by decide) (fun h111 => ?_) (fun h111 => ?_)
        · refine b_aload dL_go_125 rfl ?_
          refine b_iconst (v := 3) dL_go_127 (by decide) ?_
          refine b_iload dL_go_128 rfl ?_
          refine b_iload_n dL_go_130 rfl ?_
          refine b_isub dL_go_131 ?_
          refine b_topi (y := nI k) (by rw [nI_sub (by omega), Nat.add_sub_cancel_left]) ?_
          refine b_imul dL_go_132 ?_
          refine b_topi (y := nI (3 * k)) (nI_mul 3 k) ?_
          refine b_iconst (v := 1) dL_go_133 (by decide) ?_
          refine b_iadd dL_go_134 ?_
          refine b_topi (y := nI (3 * k + 1)) (nI_1 _) ?_
          refine b_ialdN dL_go_135 rfl ⟨by omega, by decide⟩ ?_
          refine b_topi (y := nI j) f2 ?_
          refine b_istore dL_go_136 (by decide) ?_
          refine b_iload dL_go_138 rfl ?_
          refine b_iload_n dL_go_140 rfl ?_
          refine b_icmp_ge (tgt := 155) dL_go_141 (by decide) (fun h141 => ?_) (fun h141 => ?_)
          · refine b_aload dL_go_155 rfl ?_
            refine b_iconst (v := 3) dL_go_157 (by decide) ?_
            refine b_iload dL_go_158 rfl ?_
            refine b_iload_n dL_go_160 rfl ?_
            refine b_isub dL_go_161 ?_
            refine b_topi (y := nI k) (by rw [nI_sub (by omega), Nat.add_sub_cancel_left]) ?_
            refine b_imul dL_go_162 ?_
            refine b_topi (y := nI (3 * k)) (nI_mul 3 k) ?_
            refine b_iconst (v := 2) dL_go_163 (by decide) ?_
            refine b_iadd dL_go_164 ?_
            refine b_topi (y := nI (3 * k + 2)) (nI_add _ 2) ?_
            refine b_ialdN dL_go_165 rfl ⟨by omega, by decide⟩ ?_
            refine b_topi (y := v.1 18 (t - old + k)) f3 ?_
            refine b_istore dL_go_166 (by decide) ?_
            refine b_iload dL_go_168 rfl ?_
            refine b_iload_n dL_go_170 rfl ?_
            refine b_icmp_ge (tgt := 199) dL_go_171 (by decide) (fun h171 => ?_) (fun h171 => ?_)
            · refine b_sub [3, 4, 5, 6, 7, 8, 9, 10, 11, 12, 13, 14, 2, 1, 0] rfl ?_
              refine s_go_body (a := 0) (b := 0) (hs := w2) (m0 := m0) (h1.keep (w1.1.1 39 (by decide) (by decide)) s2) s1 h5 i1 j1 (fun W' y' g1 g2 g3 => s_go_569 ?_)
              rw [gy] at g1
              exact ih (k + 1) (by omega) W' y' (w1.tr g2 g3) g1
            · exact absurd (nI_le (Nat.le_add_right c k) (by omega)) h171
          · exact absurd (nI_le (Nat.le_add_right c k) (by omega)) h141
        · exact absurd (nI_le (Nat.le_add_right c k) (by omega)) h111
      · exact absurd (nI_le (Nat.le_add_right c k) (by omega)) h85

set_option maxRecDepth 100000 in
set_option maxHeartbeats 1000000 in
theorem s_go_73a {Φ : Option Value → kW → Prop} {c old d : Nat} {un till td : Int32} {n m0 t : Nat} {W0 v : kW} (hc : c ≤ 9) (hD : gDw n c un d old t m0 W0 v) (kk : ∀ (W : kW) (y : Nat), gUw W0 W → gS n td t y W (mDawn c v d) → ∀ k, BS shL RL cL_go 21 none 1 27 Φ 575 [(0, .ref 39), (1, .ref 40), (2, .int (nI c)), (3, .int un), (4, .int till), (5, .int td), (6, .ref 41), (7, .ref 42), (8, .int (nI old)), (9, .int (nI d)), (10, .int (nI y)), (11, .int (nI k))] [] W) : ∀ q k, k + q = c → ∀ (W : kW) (y : Nat), gUw W0 W → gS n td t y W (mTold v d k) → BS shL RL cL_go 21 none 1 27 Φ 73 [(0, .ref 39), (1, .ref 40), (2, .int (nI c)), (3, .int un), (4, .int till), (5, .int td), (6, .ref 41), (7, .ref 42), (8, .int (nI old)), (9, .int (nI d)), (10, .int (nI y)), (11, .int (nI k))] [] W := by
  have hD' := hD
  obtain ⟨h1, h2, h3, h4, h5, h6, h7, h8, h9, h10, h11, h12, h13, h14⟩ := hD
  obtain ⟨t1, x1, x2, x3, x4, x5⟩ := hD'.x
  intro q
  induction q with
  | zero =>
    intro k hk W y w1 w2
    have e : k = c := by omega
    rw [e] at w2 ⊢
    refine s_go_73b hc hD' kk old 0 (by omega) W y w1 ?_
    have e1 : mTk (mTold v d c) d (t - old + 0) = mTold v d c := mTk_skip (t := t) (q := t - old) (fun k hk => by
      obtain ⟨x, y1, y2, y3⟩ := h11 k hk
      exact ⟨x, y1, ((x4.1.2.2 k (by omega)).2.2.2).trans y2, y3⟩) h6 _ (by omega)
    rw [e1]
    exact w2
  | succ q ih =>
    intro k hk W y w1 w2
    obtain ⟨s1, s2⟩ := mTold_inv (d := d) h4 h3 h5 k (by omega)
    obtain ⟨i, j, dd, g, i1, j1, -, d1, g1, g2, i2, j2, d2, g3⟩ := h3.2.2 k (by omega)
    have hn := h1.1.le
    obtain ⟨r1, r2, r3, r4⟩ := h2 k (by omega)
    have e40 : W.1 40 = W0.1 40 := w1.1.1 40 (by decide) (by decide)
    have f1 : W.1 40 (4 * k) = nI i := by rw [e40]; exact r1.trans i2
    have f2 : W.1 40 (4 * k + 1) = nI j := by rw [e40]; exact r2.trans j2
    have f3 : W.1 40 (4 * k + 2) = v.1 13 k := by rw [e40]; exact r3
    have f4 : W.1 40 (4 * k + 3) = v.1 14 k := by rw [e40]; exact r4
    have k13 : (mTold v d k).1 13 k = v.1 13 k := by rw [s2.1 13 (by decide) (by decide)]
    have k20 : bt ((mTold v d k).1 0 20) k = bt un k := by rw [s2.2.1 20 (by decide) (by decide) (by decide), h14 k (by omega)]
    have no : ∀ z : ¬ (v.1 13 k = nI d - 1 ∧ bt un k = false), mTold v d k = mTold v d (k + 1) := fun z => mTold_no (by rw [k13, k20]; exact z)
    have yes : ∀ (z1 : v.1 13 k = nI d - 1) (z2 : bt un k = false), mAnswer (mTold v d k) i j (v.1 14 k) (nI d) = mTold v d (k + 1) := fun z1 z2 => by
      have := mTold_yes (w := v) (d := d) (k := k) (a := i) (b := j) (by rw [k13]; exact z1) (by rw [k20]; exact z2) (by rw [s2.1 11 (by decide) (by decide)]; exact i2) (by rw [s2.1 12 (by decide) (by decide)]; exact j2) (by omega) (by omega)
      rwa [s2.1 14 (by decide) (by decide)] at this
    refine b_iload dL_go_73 rfl ?_
    refine b_iload_n dL_go_75 rfl ?_
    refine b_iload dL_go_76 rfl ?_
    refine b_iadd dL_go_78 ?_
    refine b_topi (y := nI (c + old)) (nI_add c old) ?_
    refine b_icmp_ge (tgt := 575) dL_go_79 (by decide) (fun h79 => ?_) (fun h79 => ?_)
    · exact absurd h79 (nI_ge (by omega) (by omega))
    · refine b_iload dL_go_82 rfl ?_
      refine b_iload_n dL_go_84 rfl ?_
      refine b_icmp_ge (tgt := 97) dL_go_85 (by decide) (fun h85 => ?_) (fun h85 => ?_)
      · exact absurd h85 (nI_ge (by omega) (by omega))
      · refine b_aload_n dL_go_88 rfl ?_
        refine b_iconst (v := 4) dL_go_89 (by decide) ?_
        refine b_iload dL_go_90 rfl ?_
        refine b_imul dL_go_92 ?_
        refine b_topi (y := nI (4 * k)) (nI_mul 4 k) ?_
        refine b_ialdN dL_go_93 rfl ⟨by omega, by decide⟩ ?_
        refine b_topi (y := nI i) f1 ?_
        refine b_goto (tgt := 106) dL_go_94 (by decide) ?_
        refine b_istore dL_go_106 (by decide) ?_
        refine b_iload dL_go_108 rfl ?_
        refine b_iload_n dL_go_110 rfl ?_
        refine b_icmp_ge (tgt := 125) dL_go_111 (by decide) (fun h111 => ?_) (fun h111 => ?_)
        · exact absurd h111 (nI_ge (by omega) (by omega))
        · refine b_aload_n dL_go_114 rfl ?_
          refine b_iconst (v := 4) dL_go_115 (by decide) ?_
          refine b_iload dL_go_116 rfl ?_
          refine b_imul dL_go_118 ?_
          refine b_topi (y := nI (4 * k)) (nI_mul 4 k) ?_
          refine b_iconst (v := 1) dL_go_119 (by decide) ?_
          refine b_iadd dL_go_120 ?_
          refine b_topi (y := nI (4 * k + 1)) (nI_1 _) ?_
          refine b_ialdN dL_go_121 rfl ⟨by omega, by decide⟩ ?_
          refine b_topi (y := nI j) f2 ?_
          refine b_goto (tgt := 136) dL_go_122 (by decide) ?_
          refine b_istore dL_go_136 (by decide) ?_
          refine b_iload dL_go_138 rfl ?_
          refine b_iload_n dL_go_140 rfl ?_
          refine b_icmp_ge (tgt := 155) dL_go_141 (by decide) (fun h141 => ?_) (fun h141 => ?_)
          · exact absurd h141 (nI_ge (by omega) (by omega))
          · refine b_aload_n dL_go_144 rfl ?_
            refine b_iconst (v := 4) dL_go_145 (by decide) ?_
            refine b_iload dL_go_146 rfl ?_
            refine b_imul dL_go_148 ?_
            refine b_topi (y := nI (4 * k)) (nI_mul 4 k) ?_
            refine b_iconst (v := 3) dL_go_149 (by decide) ?_
            refine b_iadd dL_go_150 ?_
            refine b_topi (y := nI (4 * k + 3)) (nI_add _ 3) ?_
            refine b_ialdN dL_go_151 rfl ⟨by omega, by decide⟩ ?_
            refine b_topi (y := v.1 14 k) f4 ?_
            refine b_goto (tgt := 166) dL_go_152 (by decide) ?_
            refine b_istore dL_go_166 (by decide) ?_
            refine b_iload dL_go_168 rfl ?_
            refine b_iload_n dL_go_170 rfl ?_
            refine b_icmp_ge (tgt := 199) dL_go_171 (by decide) (fun h171 => ?_) (fun h171 => ?_)
            · exact absurd h171 (nI_ge (by omega) (by omega))
            · refine b_aload_n dL_go_174 rfl ?_
              refine b_iconst (v := 4) dL_go_175 (by decide) ?_
              refine b_iload dL_go_176 rfl ?_
              refine b_imul dL_go_178 ?_
              refine b_topi (y := nI (4 * k)) (nI_mul 4 k) ?_
              refine b_iconst (v := 2) dL_go_179 (by decide) ?_
              refine b_iadd dL_go_180 ?_
              refine b_topi (y := nI (4 * k + 2)) (nI_add _ 2) ?_
              refine b_ialdN dL_go_181 rfl ⟨by omega, by decide⟩ ?_
              refine b_topi (y := v.1 13 k) f3 ?_
              refine b_iconst (v := 1) dL_go_182 (by decide) ?_
              refine b_iadd dL_go_183 ?_
              refine b_iload dL_go_184 rfl ?_
              refine b_icmp_ne (tgt := 569) dL_go_186 (by decide) (fun h186 => ?_) (fun h186 => ?_)
              · refine b_sub [3, 4, 5, 6, 7, 8, 9, 10, 11, 12, 13, 14] rfl ?_
                refine s_go_569 (ih (k + 1) (by omega) W y w1 ?_)
                rw [← no (fun z => h186 (day_eq.mpr z.1))]
                exact w2
              · refine b_iload_n dL_go_189 rfl ?_
                refine b_iload dL_go_190 rfl ?_
                refine b_ishr dL_go_192 ?_
                refine b_iconst (v := 1) dL_go_193 (by decide) ?_
                refine b_iand dL_go_194 ?_
                refine b_iconst (v := 1) dL_go_195 (by decide) ?_
                refine b_icmp_eq (tgt := 569) dL_go_196 (by decide) (fun h196 => ?_) (fun h196 => ?_)
                · refine b_sub [3, 4, 5, 6, 7, 8, 9, 10, 11, 12, 13, 14] rfl ?_
                  refine s_go_569 (ih (k + 1) (by omega) W y w1 ?_)
                  rw [← no (fun z => absurd ((bit_1 un (by omega)).mp h196) (by rw [z.2]; decide))]
                  exact w2
                · refine b_sub [3, 4, 5, 6, 7, 8, 9, 10, 11, 12, 13, 14, 2, 1, 0] rfl ?_
                  refine s_go_body (a := 0) (b := 0) (hs := w2) (m0 := m0) (h1.keep (w1.1.1 39 (by decide) (by decide)) s2) s1 h5 i1 j1 (fun W' y' g1 g2 g3 => s_go_569 ?_)
                  rw [yes (day_eq.mp h186) (b_f (fun z => h196 ((bit_1 un (by omega)).mpr z)))] at g1
                  exact ih (k + 1) (by omega) W' y' (w1.tr g2 g3) g1
