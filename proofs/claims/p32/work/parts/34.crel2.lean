def RA (n : Nat) (w g : kW) : Prop := ∀ p, p < n → (bt (w.1 1 1) p = false ↔ g.1 7 p = 0)
def RR (q : Nat) (w g : kW) : Prop := w.1 11 0 = nI q ∧ ∀ k, k < q → w.1 12 k = g.1 26 k ∧ w.1 13 k = g.1 27 k ∧ w.1 14 k = g.1 28 k
def RS1 (k : Nat) (w g : kW) : Prop := ((w.1 (31 + k) 0 = 0 ∧ g.1 1 k = -9) ∨ (w.1 (31 + k) 0 = 1 ∧ isT (g.1 1 k) ∧ g.1 1 k = w.1 (31 + k) 1)) ∧ g.1 2 k = w.1 (31 + k) 2 ∧ ∀ x, x < 50 → w.1 (35 + k) x = g.1 3 (50 * k + x)
def RN (w g : kW) : Prop := w.1 0 5 = g.1 0 1 ∧ w.1 0 6 = g.1 0 0
/-- the class's world beside the model's -/
def Rel (n c q : Nat) (w g : kW) : Prop := MInv n c q g ∧ RP n w g ∧ RI c w g ∧ RA n w g ∧ RR q w g ∧ (∀ k, k < 4 → RS1 k w g) ∧ RN w g
/-- what a call of the class leaves: the number told, a world beside the model's -/
def RQ (R : Int32 × kW) (r : Option Value) (w' : kW) : Prop := r = some (.int R.1) ∧ ∃ n c q, Rel n c q w' R.2
theorem Rel.k2 {n c q : Nat} {w w' g : kW} (h : Rel n c q w g) (hk : cK2 w w') : Rel n c q w' g := by
  obtain ⟨h1, ⟨h2, h3, h4⟩, ⟨h5, h6⟩, h7, ⟨h8, h9⟩, h10, h11, h12⟩ := h
  have e : ∀ c, (c < 15 ∨ 29 < c) → w'.1 c = w.1 c := hk
  refine ⟨h1, ⟨h2, ?_, ?_⟩, ⟨?_, ?_⟩, ?_, ⟨?_, ?_⟩, ?_, ?_, ?_⟩
  · rw [e 1 (by decide)]; exact h3
  · intro p hp; rw [e 2 (by decide), e 3 (by decide), e 4 (by decide), e 5 (by decide)]; exact h4 p hp
  · rw [e 6 (by decide)]; exact h5
  · intro k hk; rw [e 7 (by decide), e 8 (by decide), e 9 (by decide), e 10 (by decide)]; exact h6 k hk
  · intro p hp; rw [e 1 (by decide)]; exact h7 p hp
  · rw [e 11 (by decide)]; exact h8
  · intro k hk; rw [e 12 (by decide), e 13 (by decide), e 14 (by decide)]; exact h9 k hk
  · intro k hk
    unfold RS1
    rw [e (31 + k) (by omega), e (35 + k) (by omega)]
    exact h10 k hk
  · rw [e 0 (by decide)]; exact h11
  · rw [e 0 (by decide)]; exact h12
theorem Rel.mk {n c q : Nat} {w g g' : kW} (h : Rel n c q w g) (hk : mKp c g g') : Rel n c q w g' := by
  obtain ⟨h1, ⟨h2, h3, h4⟩, ⟨h5, h6⟩, h7, ⟨h8, h9⟩, h10, h11, h12⟩ := h
  have hM := hk.minv h1
  have e : ∀ j, j ≠ 0 → (j < 11 ∨ 25 < j) → g'.1 j = g.1 j := hk.1
  refine ⟨hM, ⟨hM.1, h3, ?_⟩, ⟨h5, ?_⟩, ?_, ⟨h8, ?_⟩, ?_, ?_, ?_⟩
  · intro p hp; rw [e 4 (by decide) (by decide), e 5 (by decide) (by decide), e 6 (by decide) (by decide)]; exact h4 p hp
  · intro k hk2; rw [hk.2.1 11 k (by decide) (by decide) hk2, hk.2.1 12 k (by decide) (by decide) hk2, hk.2.1 13 k (by decide) (by decide) hk2, hk.2.1 14 k (by decide) (by decide) hk2]; exact h6 k hk2
  · intro p hp; rw [e 7 (by decide) (by decide)]; exact h7 p hp
  · intro k hk; rw [e 26 (by decide) (by decide), e 27 (by decide) (by decide), e 28 (by decide) (by decide)]; exact h9 k hk
  · intro k hk
    unfold RS1
    rw [e 1 (by decide) (by decide), e 2 (by decide) (by decide), e 3 (by decide) (by decide)]
    exact h10 k hk
  · rw [hk.2.2 1 (by decide) (by decide) (by decide)]; exact h11
  · rw [hk.2.2 0 (by decide) (by decide) (by decide)]; exact h12
theorem MInv.num {n c q k : Nat} {g : kW} {x : Int32} (h : MInv n c q g) (hk : k ≤ 1) : MInv n c q (kset g 0 k x) := by
  obtain ⟨⟨h1, h2⟩, ⟨h3, h4⟩, h5, ⟨h6, h7⟩, h8, h9⟩ := h
  have e : ∀ j, j ≠ k → (kset g 0 k x).1 0 j = g.1 0 j := fun j hj => kset_ne _ _ (Or.inr hj)
  exact ⟨⟨(e 5 (by omega)).trans h1, h2⟩, ⟨(e 15 (by omega)).trans h3, h4⟩, h5, ⟨(e 35 (by omega)).trans h6, h7⟩, (e 20 (by omega)).trans h8, h9⟩
theorem RS1.of {k : Nat} {w g w' g' : kW} (h : RS1 k w g) (e1 : w'.1 (31 + k) = w.1 (31 + k)) (e2 : w'.1 (35 + k) = w.1 (35 + k)) (e3 : g'.1 1 k = g.1 1 k) (e4 : g'.1 2 k = g.1 2 k) (e5 : ∀ x, x < 50 → g'.1 3 (50 * k + x) = g.1 3 (50 * k + x)) : RS1 k w' g' := by
  unfold RS1
  rw [e1, e2, e3, e4]
  exact ⟨h.1, h.2.1, fun x hx => (h.2.2 x hx).trans (e5 x hx).symm⟩
theorem Rel.flt {n c q : Nat} {w g : kW} {x : Int32} (h : Rel n c q w g) : Rel n c q (kset w 0 6 x) (kset g 0 0 x) := by
  obtain ⟨h1, ⟨h2, h3, h4⟩, h5, h7, h8, h10, h11, h12⟩ := h
  have hM := h1.num (k := 0) (x := x) (by decide)
  exact ⟨hM, ⟨hM.1, h3, h4⟩, h5, h7, h8, fun k hk => (h10 k hk).of (kset_row _ _ _ _ (by omega)) (kset_row _ _ _ _ (by omega)) rfl rfl (fun _ _ => rfl), h11, rfl⟩
theorem Rel.trc {n c q : Nat} {w g : kW} {x : Int32} (h : Rel n c q w g) : Rel n c q (kset w 0 5 x) (kset g 0 1 x) := by
  obtain ⟨h1, ⟨h2, h3, h4⟩, h5, h7, h8, h10, h11, h12⟩ := h
  have hM := h1.num (k := 1) (x := x) (by decide)
  exact ⟨hM, ⟨hM.1, h3, h4⟩, h5, h7, h8, fun k hk => (h10 k hk).of (kset_row _ _ _ _ (by omega)) (kset_row _ _ _ _ (by omega)) rfl rfl (fun _ _ => rfl), rfl, h12⟩
theorem Rel.hp {n c q : Nat} {w g : kW} (h : Rel n c q w g) : w.1 1 0 = g.1 0 5 := h.2.1.2.1.trans h.1.1.1.symm
theorem Rel.hc {n c q : Nat} {w g : kW} (h : Rel n c q w g) : w.1 6 0 = g.1 0 15 := h.2.2.1.1.trans h.1.2.1.1.symm
theorem Rel.hq {n c q : Nat} {w g : kW} (h : Rel n c q w g) : w.1 11 0 = g.1 0 35 := h.2.2.2.2.1.1.trans h.1.2.2.2.1.1.symm
theorem lt_le {x : Int32} {a b : Int32} (hab : b.toInt = a.toInt + 1) : x < b ↔ x ≤ a := by
  rw [Int32.lt_iff_toInt_lt, Int32.le_iff_toInt_le]; omega
set_option maxRecDepth 100000 in
set_option maxHeartbeats 1000000 in
theorem s_X7_isLane {w : kW} {k : Int32} : Spec shC yX7_isLane cX7_isLane 1 (some .boolean) 0 0 [.int k] w (fun r w' => w = w' ∧ ((r = some (.int 1) ∧ (0 ≤ k ∧ k ≤ 2)) ∨ (r = some (.int 0) ∧ ¬ (0 ≤ k ∧ k ≤ 2)))) := by
  refine k_enter pn_X7 (Nat.le_of_ble_eq_true rfl) ?_
  refine b_iload_n dX7_isLane_0 rfl ?_
  refine b_if_lt (tgt := 13) dX7_isLane_1 (by decide) (fun h1 => ?_) (fun h1 => ?_)
  · refine b_iconst (v := 0) dX7_isLane_13 (by decide) ?_
    exact b_zret (Or.inl rfl) dX7_isLane_14 rfl ⟨rfl, Or.inr ⟨rfl, fun z => absurd z.1 (Int32.not_le.mpr h1)⟩⟩
  · refine b_iload_n dX7_isLane_4 rfl ?_
    refine b_iconst (v := 3) dX7_isLane_5 (by decide) ?_
    refine b_icmp_ge (tgt := 13) dX7_isLane_6 (by decide) (fun h6 => ?_) (fun h6 => ?_)
    · refine b_iconst (v := 0) dX7_isLane_13 (by decide) ?_
      exact b_zret (Or.inl rfl) dX7_isLane_14 rfl ⟨rfl, Or.inr ⟨rfl, fun z => absurd ((lt_le (a := 2) (b := 3) (by decide)).mpr z.2) (Int32.not_lt.mpr h6)⟩⟩
    · refine b_iconst (v := 1) dX7_isLane_9 (by decide) ?_
      refine b_goto (tgt := 14) dX7_isLane_10 (by decide) ?_
      exact b_zret (Or.inr rfl) dX7_isLane_14 rfl ⟨rfl, Or.inl ⟨rfl, Int32.not_lt.mp h1, (lt_le (by decide)).mp (Int32.not_le.mp h6)⟩⟩
set_option maxRecDepth 100000 in
set_option maxHeartbeats 1000000 in
theorem s_X7_isDay {w : kW} {k : Int32} : Spec shC yX7_isDay cX7_isDay 1 (some .boolean) 0 0 [.int k] w (fun r w' => w = w' ∧ ((r = some (.int 1) ∧ (0 ≤ k ∧ k ≤ 29)) ∨ (r = some (.int 0) ∧ ¬ (0 ≤ k ∧ k ≤ 29)))) := by
  refine k_enter pn_X7 (Nat.le_of_ble_eq_true rfl) ?_
  refine b_iload_n dX7_isDay_0 rfl ?_
  refine b_if_lt (tgt := 14) dX7_isDay_1 (by decide) (fun h1 => ?_) (fun h1 => ?_)
  · refine b_iconst (v := 0) dX7_isDay_14 (by decide) ?_
    exact b_zret (Or.inl rfl) dX7_isDay_15 rfl ⟨rfl, Or.inr ⟨rfl, fun z => absurd z.1 (Int32.not_le.mpr h1)⟩⟩
  · refine b_iload_n dX7_isDay_4 rfl ?_
    refine b_bipush (v := 30) dX7_isDay_5 (by decide) ?_
    refine b_icmp_ge (tgt := 14) dX7_isDay_7 (by decide) (fun h7 => ?_) (fun h7 => ?_)
    · refine b_iconst (v := 0) dX7_isDay_14 (by decide) ?_
      exact b_zret (Or.inl rfl) dX7_isDay_15 rfl ⟨rfl, Or.inr ⟨rfl, fun z => absurd ((lt_le (a := 29) (b := 30) (by decide)).mpr z.2) (Int32.not_lt.mpr h7)⟩⟩
    · refine b_iconst (v := 1) dX7_isDay_10 (by decide) ?_
      refine b_goto (tgt := 15) dX7_isDay_11 (by decide) ?_
      exact b_zret (Or.inr rfl) dX7_isDay_15 rfl ⟨rfl, Or.inl ⟨rfl, Int32.not_lt.mp h1, (lt_le (by decide)).mp (Int32.not_le.mp h7)⟩⟩
set_option maxRecDepth 100000 in
set_option maxHeartbeats 1000000 in
theorem s_X7_isDawn {w : kW} {k : Int32} : Spec shC yX7_isDawn cX7_isDawn 1 (some .boolean) 0 0 [.int k] w (fun r w' => w = w' ∧ ((r = some (.int 1) ∧ (0 ≤ k ∧ k ≤ 59)) ∨ (r = some (.int 0) ∧ ¬ (0 ≤ k ∧ k ≤ 59)))) := by
  refine k_enter pn_X7 (Nat.le_of_ble_eq_true rfl) ?_
  refine b_iload_n dX7_isDawn_0 rfl ?_
  refine b_if_lt (tgt := 14) dX7_isDawn_1 (by decide) (fun h1 => ?_) (fun h1 => ?_)
  · refine b_iconst (v := 0) dX7_isDawn_14 (by decide) ?_
    exact b_zret (Or.inl rfl) dX7_isDawn_15 rfl ⟨rfl, Or.inr ⟨rfl, fun z => absurd z.1 (Int32.not_le.mpr h1)⟩⟩
  · refine b_iload_n dX7_isDawn_4 rfl ?_
    refine b_bipush (v := 60) dX7_isDawn_5 (by decide) ?_
    refine b_icmp_ge (tgt := 14) dX7_isDawn_7 (by decide) (fun h7 => ?_) (fun h7 => ?_)
    · refine b_iconst (v := 0) dX7_isDawn_14 (by decide) ?_
      exact b_zret (Or.inl rfl) dX7_isDawn_15 rfl ⟨rfl, Or.inr ⟨rfl, fun z => absurd ((lt_le (a := 59) (b := 60) (by decide)).mpr z.2) (Int32.not_lt.mpr h7)⟩⟩
    · refine b_iconst (v := 1) dX7_isDawn_10 (by decide) ?_
      refine b_goto (tgt := 15) dX7_isDawn_11 (by decide) ?_
      exact b_zret (Or.inr rfl) dX7_isDawn_15 rfl ⟨rfl, Or.inl ⟨rfl, Int32.not_lt.mp h1, (lt_le (by decide)).mp (Int32.not_le.mp h7)⟩⟩
set_option maxRecDepth 100000 in
set_option maxHeartbeats 1000000 in
theorem s_X7_isEmpty {w : kW} : Spec shC yX7_isEmpty cX7_isEmpty 1 (some .boolean) 0 0 [.ref 0] w (fun r w' => w = w' ∧ ((r = some (.int 1) ∧ (w.1 1 0 = 0)) ∨ (r = some (.int 0) ∧ ¬ (w.1 1 0 = 0)))) := by
  refine k_enter pn_X7 (Nat.le_of_ble_eq_true rfl) ?_
  refine b_aload_n dX7_isEmpty_0 rfl ?_
  refine b_getr dX7_isEmpty_1 gf_X7_14 rfl rfl ?_
  refine b_geti dX7_isEmpty_4 gf_X7_84 rfl rfl ?_
  refine b_if_ne (tgt := 14) dX7_isEmpty_7 (by decide) (fun h7 => ?_) (fun h7 => ?_)
  · refine b_iconst (v := 0) dX7_isEmpty_14 (by decide) ?_
    refine b_zret (Or.inl rfl) dX7_isEmpty_15 rfl ⟨rfl, Or.inr ⟨rfl, ?_⟩⟩
    exact h7
  · refine b_iconst (v := 1) dX7_isEmpty_10 (by decide) ?_
    refine b_goto (tgt := 15) dX7_isEmpty_11 (by decide) ?_
    refine b_zret (Or.inr rfl) dX7_isEmpty_15 rfl ⟨rfl, Or.inl ⟨rfl, ?_⟩⟩
    exact h7
set_option maxRecDepth 100000 in
set_option maxHeartbeats 1000000 in
theorem s_X7_faulted {w : kW} {k : Int32} : Spec shC yX7_faulted cX7_faulted 2 (some .int) 0 0 [.ref 0, .int k] w (fun r w' => r = some (.int (-10 - k)) ∧ kset w 0 6 k = w') := by
  refine k_enter pn_X7 (Nat.le_of_ble_eq_true rfl) ?_
  refine b_aload_n dX7_faulted_0 rfl ?_
  refine b_iload_n dX7_faulted_1 rfl ?_
  refine b_puti dX7_faulted_2 gf_X7_50 gs_X7_6 rfl rfl ?_
  refine b_bipush (v := (-10)) dX7_faulted_5 (by decide) ?_
  refine b_iload_n dX7_faulted_7 rfl ?_
  refine b_isub dX7_faulted_8 ?_
  refine b_iret dX7_faulted_9 rfl ⟨?_, ?_⟩
  · rfl
  · rfl
def ctr (w : kW) (b : Int32) : kW := kset w 0 5 (31 * w.1 0 5 + b)
theorem Rel.tr {n c q : Nat} {w g : kW} {b : Int32} (h : Rel n c q w g) : Rel n c q (ctr w b) (tr1 g b) := by
  have e := h.2.2.2.2.2.2.1
  unfold ctr tr1
  rw [e]
  exact h.trc
set_option maxRecDepth 100000 in
set_option maxHeartbeats 1000000 in
theorem s_X7_cut {w : kW} {v l : Int32} (hl : isT l) : Spec shC yX7_cut cX7_cut 2 (some .int) 0 0 [.int v, .int l] w (fun r w' => r = some (.int (mCut l v)) ∧ w = w') := by
  refine k_enter pn_X7 (Nat.le_of_ble_eq_true rfl) ?_
  refine b_iload_n dX7_cut_0 rfl ?_
  obtain ⟨x, hx, rfl⟩ := nI_of2 (n := 2) (M := 2) (by decide) (Int32.not_lt.mpr hl.1) hl.2
  rcases (show x = 0 ∨ x = 1 ∨ x = 2 by omega) with rfl | rfl | rfl
  · refine b_lsw (off := 27) (tgt := 28) dX7_cut_1 (by decide) (by decide) (by decide) ?_
    refine b_iload_n dX7_cut_28 rfl ?_
    refine b_i2b dX7_cut_29 ?_
    refine b_iret dX7_cut_30 rfl ⟨?_, ?_⟩
    · rfl
    · rfl
  · refine b_lsw (off := 30) (tgt := 31) dX7_cut_1 (by decide) (by decide) (by decide) ?_
    refine b_iload_n dX7_cut_31 rfl ?_
    refine b_i2s dX7_cut_32 ?_
    refine b_iret dX7_cut_33 rfl ⟨?_, ?_⟩
    · rfl
    · rfl
  · refine b_lsw (off := 33) (tgt := 34) dX7_cut_1 (by decide) (by decide) (by decide) ?_
    refine b_iload_n dX7_cut_34 rfl ?_
    refine b_iret dX7_cut_35 rfl ⟨?_, ?_⟩
    · rfl
    · rfl
