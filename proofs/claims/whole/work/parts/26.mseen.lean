/-! ===== what was seen ===== -/
def wIn (w : kW) (p d : Int32) : Prop := ∃ k, k < dn (w.1 0 28) ∧ w.1 20 k = d ∧ (w.1 21 k = p ∨ w.1 22 k = p)
def wHu (w : kW) (p : Int32) : Prop := ∃ k, k < dn (w.1 0 28) ∧ w.1 25 k = p
def dMt (w : kW) (p o day : Int32) : Prop := ∃ k, k < dn (w.1 0 28) ∧ ((w.1 21 k = p ∧ w.1 22 k = o) ∨ (w.1 21 k = o ∧ w.1 22 k = p)) ∧ day < w.1 20 k
theorem ex_up {P : Nat → Prop} {m : Nat} (h : ∀ k, k < m → ¬ P k) : ¬ ∃ k, k < m ∧ P k := fun ⟨k, a, b⟩ => h k a b
theorem no_up {P : Nat → Prop} {k : Nat} (h : ∀ j, j < k → ¬ P j) (hk : ¬ P k) : ∀ j, j < k + 1 → ¬ P j := fun j hj => by
  by_cases e : j = k
  · subst e; exact hk
  · exact h j (by omega)

set_option maxRecDepth 100000 in
set_option maxHeartbeats 4000000 in
theorem s_X8_wasIn_lp {w : kW} {m : Nat} {p d : Int32} (hm : w.1 0 28 = nI m) (hm2 : m ≤ 180) : ∀ q k, k + q = m → (∀ j, j < k → ¬ (w.1 20 j = d ∧ (w.1 21 j = p ∨ w.1 22 j = p))) → BS shM RX8 cX8_wasIn 4 (some .boolean) 0 0 (fun r w' => w = w' ∧ ((r = some (.int 1) ∧ (wIn w p d)) ∨ (r = some (.int 0) ∧ ¬ (wIn w p d)))) 2 [(0, .ref 0), (1, .int p), (2, .int d), (3, .int (nI k))] [] w := by
  intro q
  have em : dn (w.1 0 28) = m := by rw [hm]; exact dn_nI (by omega)
  induction q with
  | zero =>
    intro k hk hno
    refine b_iload_n dX8_wasIn_2 rfl ?_
    refine b_aload_n dX8_wasIn_3 rfl ?_
    refine b_geti dX8_wasIn_4 gf_X8_165 rfl rfl ?_
    refine b_topi (y := nI m) hm ?_
    refine b_icmp_ge (tgt := 48) dX8_wasIn_7 (by decide) (fun h7 => ?_) (fun h7 => ?_)
    · refine b_iconst (v := 0) dX8_wasIn_48 (by decide) ?_
      have e : k = m := by omega
      subst e
      refine b_zret (Or.inl rfl) dX8_wasIn_49 rfl ⟨rfl, Or.inr ⟨rfl, fun hh => ?_⟩⟩
      obtain ⟨j, j1, j2⟩ := hh
      rw [em] at j1
      exact hno j j1 j2
    · exact absurd (nI_le (by omega) (by omega)) h7
  | succ q ih =>
    intro k hk hno
    refine b_iload_n dX8_wasIn_2 rfl ?_
    refine b_aload_n dX8_wasIn_3 rfl ?_
    refine b_geti dX8_wasIn_4 gf_X8_165 rfl rfl ?_
    refine b_topi (y := nI m) hm ?_
    refine b_icmp_ge (tgt := 48) dX8_wasIn_7 (by decide) (fun h7 => ?_) (fun h7 => ?_)
    · exact absurd h7 (nI_ge (by omega) (by omega))
    · refine b_aload_n dX8_wasIn_10 rfl ?_
      refine b_getr dX8_wasIn_11 gf_X8_68 rfl rfl ?_
      refine b_iload_n dX8_wasIn_14 rfl ?_
      refine b_ialdN dX8_wasIn_15 rfl ⟨by omega, by decide⟩ ?_
      refine b_iload_n dX8_wasIn_16 rfl ?_
      refine b_icmp_ne (tgt := 42) dX8_wasIn_17 (by decide) (fun h17 => ?_) (fun h17 => ?_)
      · refine b_iinc dX8_wasIn_42 rfl (nI_inc k) (by decide) ?_
        refine b_goto (tgt := 2) dX8_wasIn_45 (by decide) ?_
        refine b_sub [1, 2, 3, 0] rfl ?_
        exact ih (k + 1) (by omega) (no_up hno (fun z => h17 z.1))
      · refine b_aload_n dX8_wasIn_20 rfl ?_
        refine b_getr dX8_wasIn_21 gf_X8_71 rfl rfl ?_
        refine b_iload_n dX8_wasIn_24 rfl ?_
        refine b_ialdN dX8_wasIn_25 rfl ⟨by omega, by decide⟩ ?_
        refine b_iload_n dX8_wasIn_26 rfl ?_
        refine b_icmp_eq (tgt := 40) dX8_wasIn_27 (by decide) (fun h27 => ?_) (fun h27 => ?_)
        · refine b_iconst (v := 1) dX8_wasIn_40 (by decide) ?_
          refine b_zret (Or.inr rfl) dX8_wasIn_41 rfl ⟨rfl, Or.inl ⟨rfl, k, by rw [em]; omega, h17, Or.inl h27⟩⟩
        · refine b_aload_n dX8_wasIn_30 rfl ?_
          refine b_getr dX8_wasIn_31 gf_X8_74 rfl rfl ?_
          refine b_iload_n dX8_wasIn_34 rfl ?_
          refine b_ialdN dX8_wasIn_35 rfl ⟨by omega, by decide⟩ ?_
          refine b_iload_n dX8_wasIn_36 rfl ?_
          refine b_icmp_ne (tgt := 42) dX8_wasIn_37 (by decide) (fun h37 => ?_) (fun h37 => ?_)
          · refine b_iinc dX8_wasIn_42 rfl (nI_inc k) (by decide) ?_
            refine b_goto (tgt := 2) dX8_wasIn_45 (by decide) ?_
            refine b_sub [1, 2, 3, 0] rfl ?_
            exact ih (k + 1) (by omega) (no_up hno (fun z => z.2.elim h27 h37))
          · refine b_iconst (v := 1) dX8_wasIn_40 (by decide) ?_
            refine b_zret (Or.inr rfl) dX8_wasIn_41 rfl ⟨rfl, Or.inl ⟨rfl, k, by rw [em]; omega, h17, Or.inr h37⟩⟩

set_option maxRecDepth 100000 in
set_option maxHeartbeats 4000000 in
theorem s_X8_wasIn {w : kW} {m : Nat} {p d : Int32} (hm : w.1 0 28 = nI m) (hm2 : m ≤ 180) : Spec shM yX8_wasIn cX8_wasIn 4 (some .boolean) 0 0 [.ref 0, .int p, .int d] w (fun r w' => w = w' ∧ ((r = some (.int 1) ∧ (wIn w p d)) ∨ (r = some (.int 0) ∧ ¬ (wIn w p d)))) := by
  refine k_enter pn_X8 (Nat.le_of_ble_eq_true rfl) ?_
  refine b_iconst (v := 0) dX8_wasIn_0 (by decide) ?_
  refine b_istore_n dX8_wasIn_1 (by decide) ?_
  refine b_sub [1, 2, 3, 0] rfl ?_
  exact s_X8_wasIn_lp hm hm2 m 0 (by omega) (fun j hj => absurd hj (Nat.not_lt_zero _))

set_option maxRecDepth 100000 in
set_option maxHeartbeats 4000000 in
theorem s_X8_wasHurt_lp {w : kW} {m : Nat} {p : Int32} (hm : w.1 0 28 = nI m) (hm2 : m ≤ 180) : ∀ q k, k + q = m → (∀ j, j < k → ¬ (w.1 25 j = p)) → BS shM RX8 cX8_wasHurt 3 (some .boolean) 0 0 (fun r w' => w = w' ∧ ((r = some (.int 1) ∧ (wHu w p)) ∨ (r = some (.int 0) ∧ ¬ (wHu w p)))) 2 [(0, .ref 0), (1, .int p), (2, .int (nI k))] [] w := by
  intro q
  have em : dn (w.1 0 28) = m := by rw [hm]; exact dn_nI (by omega)
  induction q with
  | zero =>
    intro k hk hno
    refine b_iload_n dX8_wasHurt_2 rfl ?_
    refine b_aload_n dX8_wasHurt_3 rfl ?_
    refine b_geti dX8_wasHurt_4 gf_X8_165 rfl rfl ?_
    refine b_topi (y := nI m) hm ?_
    refine b_icmp_ge (tgt := 28) dX8_wasHurt_7 (by decide) (fun h7 => ?_) (fun h7 => ?_)
    · refine b_iconst (v := 0) dX8_wasHurt_28 (by decide) ?_
      have e : k = m := by omega
      subst e
      refine b_zret (Or.inl rfl) dX8_wasHurt_29 rfl ⟨rfl, Or.inr ⟨rfl, fun hh => ?_⟩⟩
      obtain ⟨j, j1, j2⟩ := hh
      rw [em] at j1
      exact hno j j1 j2
    · exact absurd (nI_le (by omega) (by omega)) h7
  | succ q ih =>
    intro k hk hno
    refine b_iload_n dX8_wasHurt_2 rfl ?_
    refine b_aload_n dX8_wasHurt_3 rfl ?_
    refine b_geti dX8_wasHurt_4 gf_X8_165 rfl rfl ?_
    refine b_topi (y := nI m) hm ?_
    refine b_icmp_ge (tgt := 28) dX8_wasHurt_7 (by decide) (fun h7 => ?_) (fun h7 => ?_)
    · exact absurd h7 (nI_ge (by omega) (by omega))
    · refine b_aload_n dX8_wasHurt_10 rfl ?_
      refine b_getr dX8_wasHurt_11 gf_X8_83 rfl rfl ?_
      refine b_iload_n dX8_wasHurt_14 rfl ?_
      refine b_ialdN dX8_wasHurt_15 rfl ⟨by omega, by decide⟩ ?_
      refine b_iload_n dX8_wasHurt_16 rfl ?_
      refine b_icmp_ne (tgt := 22) dX8_wasHurt_17 (by decide) (fun h17 => ?_) (fun h17 => ?_)
      · refine b_iinc dX8_wasHurt_22 rfl (nI_inc k) (by decide) ?_
        refine b_goto (tgt := 2) dX8_wasHurt_25 (by decide) ?_
        refine b_sub [1, 2, 0] rfl ?_
        exact ih (k + 1) (by omega) (no_up hno h17)
      · refine b_iconst (v := 1) dX8_wasHurt_20 (by decide) ?_
        refine b_zret (Or.inr rfl) dX8_wasHurt_21 rfl ⟨rfl, Or.inl ⟨rfl, k, by rw [em]; omega, h17⟩⟩

set_option maxRecDepth 100000 in
set_option maxHeartbeats 4000000 in
theorem s_X8_wasHurt {w : kW} {m : Nat} {p : Int32} (hm : w.1 0 28 = nI m) (hm2 : m ≤ 180) : Spec shM yX8_wasHurt cX8_wasHurt 3 (some .boolean) 0 0 [.ref 0, .int p] w (fun r w' => w = w' ∧ ((r = some (.int 1) ∧ (wHu w p)) ∨ (r = some (.int 0) ∧ ¬ (wHu w p)))) := by
  refine k_enter pn_X8 (Nat.le_of_ble_eq_true rfl) ?_
  refine b_iconst (v := 0) dX8_wasHurt_0 (by decide) ?_
  refine b_istore_n dX8_wasHurt_1 (by decide) ?_
  refine b_sub [1, 2, 0] rfl ?_
  exact s_X8_wasHurt_lp hm hm2 m 0 (by omega) (fun j hj => absurd hj (Nat.not_lt_zero _))

set_option maxRecDepth 100000 in
set_option maxHeartbeats 4000000 in
theorem s_X8_didMeet_lp {w : kW} {m : Nat} {p o day : Int32} (hm : w.1 0 28 = nI m) (hm2 : m ≤ 180) : ∀ q k, k + q = m → (∀ j, j < k → ¬ (((w.1 21 j = p ∧ w.1 22 j = o) ∨ (w.1 21 j = o ∧ w.1 22 j = p)) ∧ day < w.1 20 j)) → BS shM RX8 cX8_didMeet 6 (some .boolean) 0 0 (fun r w' => w = w' ∧ ((r = some (.int 1) ∧ (dMt w p o day)) ∨ (r = some (.int 0) ∧ ¬ (dMt w p o day)))) 3 [(0, .ref 0), (1, .int p), (2, .int o), (3, .int day), (4, .int (nI k))] [] w := by
  intro q
  have em : dn (w.1 0 28) = m := by rw [hm]; exact dn_nI (by omega)
  induction q with
  | zero =>
    intro k hk hno
    refine b_iload dX8_didMeet_3 rfl ?_
    refine b_aload_n dX8_didMeet_5 rfl ?_
    refine b_geti dX8_didMeet_6 gf_X8_165 rfl rfl ?_
    refine b_topi (y := nI m) hm ?_
    refine b_icmp_ge (tgt := 87) dX8_didMeet_9 (by decide) (fun h9 => ?_) (fun h9 => ?_)
    · refine b_iconst (v := 0) dX8_didMeet_87 (by decide) ?_
      have e : k = m := by omega
      subst e
      refine b_zret (Or.inl rfl) dX8_didMeet_88 rfl ⟨rfl, Or.inr ⟨rfl, fun hh => ?_⟩⟩
      obtain ⟨j, j1, j2⟩ := hh
      rw [em] at j1
      exact hno j j1 j2
    · exact absurd (nI_le (by omega) (by omega)) h9
  | succ q ih =>
    intro k hk hno
    refine b_iload dX8_didMeet_3 rfl ?_
    refine b_aload_n dX8_didMeet_5 rfl ?_
    refine b_geti dX8_didMeet_6 gf_X8_165 rfl rfl ?_
    refine b_topi (y := nI m) hm ?_
    refine b_icmp_ge (tgt := 87) dX8_didMeet_9 (by decide) (fun h9 => ?_) (fun h9 => ?_)
    · exact absurd h9 (nI_ge (by omega) (by omega))
    · refine b_aload_n dX8_didMeet_12 rfl ?_
      refine b_getr dX8_didMeet_13 gf_X8_71 rfl rfl ?_
      refine b_iload dX8_didMeet_16 rfl ?_
      refine b_ialdN dX8_didMeet_18 rfl ⟨by omega, by decide⟩ ?_
      refine b_iload_n dX8_didMeet_19 rfl ?_
      refine b_icmp_ne (tgt := 34) dX8_didMeet_20 (by decide) (fun h20 => ?_) (fun h20 => ?_)
      · refine b_aload_n dX8_didMeet_34 rfl ?_
        refine b_getr dX8_didMeet_35 gf_X8_71 rfl rfl ?_
        refine b_iload dX8_didMeet_38 rfl ?_
        refine b_ialdN dX8_didMeet_40 rfl ⟨by omega, by decide⟩ ?_
        refine b_iload_n dX8_didMeet_41 rfl ?_
        refine b_icmp_ne (tgt := 60) dX8_didMeet_42 (by decide) (fun h42 => ?_) (fun h42 => ?_)
        · refine b_iconst (v := 0) dX8_didMeet_60 (by decide) ?_
          refine b_istore dX8_didMeet_61 (by decide) ?_
          refine b_iload dX8_didMeet_63 rfl ?_
          refine b_if_eq (tgt := 81) dX8_didMeet_65 (by decide) (fun h65 => ?_) (fun h65 => absurd h65 (by decide))
          refine b_iinc dX8_didMeet_81 rfl (nI_inc k) (by decide) ?_
          refine b_goto (tgt := 3) dX8_didMeet_84 (by decide) ?_
          refine b_sub [2, 3, 4, 5, 0] rfl ?_
          exact ih (k + 1) (by omega) (no_up hno (fun z => z.1.elim (fun y => h20 y.1) (fun y => h42 y.1)))
        · refine b_aload_n dX8_didMeet_45 rfl ?_
          refine b_getr dX8_didMeet_46 gf_X8_74 rfl rfl ?_
          refine b_iload dX8_didMeet_49 rfl ?_
          refine b_ialdN dX8_didMeet_51 rfl ⟨by omega, by decide⟩ ?_
          refine b_iload_n dX8_didMeet_52 rfl ?_
          refine b_icmp_ne (tgt := 60) dX8_didMeet_53 (by decide) (fun h53 => ?_) (fun h53 => ?_)
          · refine b_iconst (v := 0) dX8_didMeet_60 (by decide) ?_
            refine b_istore dX8_didMeet_61 (by decide) ?_
            refine b_iload dX8_didMeet_63 rfl ?_
            refine b_if_eq (tgt := 81) dX8_didMeet_65 (by decide) (fun h65 => ?_) (fun h65 => absurd h65 (by decide))
            refine b_iinc dX8_didMeet_81 rfl (nI_inc k) (by decide) ?_
            refine b_goto (tgt := 3) dX8_didMeet_84 (by decide) ?_
            refine b_sub [2, 3, 4, 5, 0] rfl ?_
            exact ih (k + 1) (by omega) (no_up hno (fun z => z.1.elim (fun y => h20 y.1) (fun y => h53 y.2)))
          · refine b_iconst (v := 1) dX8_didMeet_56 (by decide) ?_
            refine b_goto (tgt := 61) dX8_didMeet_57 (by decide) ?_
            refine b_istore dX8_didMeet_61 (by decide) ?_
            refine b_iload dX8_didMeet_63 rfl ?_
            refine b_if_eq (tgt := 81) dX8_didMeet_65 (by decide) (fun h65 => absurd h65 (by decide)) (fun h65 => ?_)
            refine b_aload_n dX8_didMeet_68 rfl ?_
            refine b_getr dX8_didMeet_69 gf_X8_68 rfl rfl ?_
            refine b_iload dX8_didMeet_72 rfl ?_
            refine b_ialdN dX8_didMeet_74 rfl ⟨by omega, by decide⟩ ?_
            refine b_iload_n dX8_didMeet_75 rfl ?_
            refine b_icmp_le (tgt := 81) dX8_didMeet_76 (by decide) (fun h76 => ?_) (fun h76 => ?_)
            · refine b_iinc dX8_didMeet_81 rfl (nI_inc k) (by decide) ?_
              refine b_goto (tgt := 3) dX8_didMeet_84 (by decide) ?_
              refine b_sub [2, 3, 4, 5, 0] rfl ?_
              exact ih (k + 1) (by omega) (no_up hno (fun z => absurd z.2 (Int32.not_lt.mpr h76)))
            · refine b_iconst (v := 1) dX8_didMeet_79 (by decide) ?_
              refine b_zret (Or.inr rfl) dX8_didMeet_80 rfl ⟨rfl, Or.inl ⟨rfl, k, by rw [em]; omega, Or.inr ⟨h42, h53⟩, Int32.not_le.mp h76⟩⟩
      · refine b_aload_n dX8_didMeet_23 rfl ?_
        refine b_getr dX8_didMeet_24 gf_X8_74 rfl rfl ?_
        refine b_iload dX8_didMeet_27 rfl ?_
        refine b_ialdN dX8_didMeet_29 rfl ⟨by omega, by decide⟩ ?_
        refine b_iload_n dX8_didMeet_30 rfl ?_
        refine b_icmp_eq (tgt := 56) dX8_didMeet_31 (by decide) (fun h31 => ?_) (fun h31 => ?_)
        · refine b_iconst (v := 1) dX8_didMeet_56 (by decide) ?_
          refine b_goto (tgt := 61) dX8_didMeet_57 (by decide) ?_
          refine b_istore dX8_didMeet_61 (by decide) ?_
          refine b_iload dX8_didMeet_63 rfl ?_
          refine b_if_eq (tgt := 81) dX8_didMeet_65 (by decide) (fun h65 => absurd h65 (by decide)) (fun h65 => ?_)
          refine b_aload_n dX8_didMeet_68 rfl ?_
          refine b_getr dX8_didMeet_69 gf_X8_68 rfl rfl ?_
          refine b_iload dX8_didMeet_72 rfl ?_
          refine b_ialdN dX8_didMeet_74 rfl ⟨by omega, by decide⟩ ?_
          refine b_iload_n dX8_didMeet_75 rfl ?_
          refine b_icmp_le (tgt := 81) dX8_didMeet_76 (by decide) (fun h76 => ?_) (fun h76 => ?_)
          · refine b_iinc dX8_didMeet_81 rfl (nI_inc k) (by decide) ?_
            refine b_goto (tgt := 3) dX8_didMeet_84 (by decide) ?_
            refine b_sub [2, 3, 4, 5, 0] rfl ?_
            exact ih (k + 1) (by omega) (no_up hno (fun z => absurd z.2 (Int32.not_lt.mpr h76)))
          · refine b_iconst (v := 1) dX8_didMeet_79 (by decide) ?_
            refine b_zret (Or.inr rfl) dX8_didMeet_80 rfl ⟨rfl, Or.inl ⟨rfl, k, by rw [em]; omega, Or.inl ⟨h20, h31⟩, Int32.not_le.mp h76⟩⟩
        · refine b_aload_n dX8_didMeet_34 rfl ?_
          refine b_getr dX8_didMeet_35 gf_X8_71 rfl rfl ?_
          refine b_iload dX8_didMeet_38 rfl ?_
          refine b_ialdN dX8_didMeet_40 rfl ⟨by omega, by decide⟩ ?_
          refine b_iload_n dX8_didMeet_41 rfl ?_
          refine b_icmp_ne (tgt := 60) dX8_didMeet_42 (by decide) (fun h42 => ?_) (fun h42 => ?_)
          · refine b_iconst (v := 0) dX8_didMeet_60 (by decide) ?_
            refine b_istore dX8_didMeet_61 (by decide) ?_
            refine b_iload dX8_didMeet_63 rfl ?_
            refine b_if_eq (tgt := 81) dX8_didMeet_65 (by decide) (fun h65 => ?_) (fun h65 => absurd h65 (by decide))
            refine b_iinc dX8_didMeet_81 rfl (nI_inc k) (by decide) ?_
            refine b_goto (tgt := 3) dX8_didMeet_84 (by decide) ?_
            refine b_sub [2, 3, 4, 5, 0] rfl ?_
            exact ih (k + 1) (by omega) (no_up hno (fun z => z.1.elim (fun y => h31 y.2) (fun y => h42 y.1)))
          · refine b_aload_n dX8_didMeet_45 rfl ?_
            refine b_getr dX8_didMeet_46 gf_X8_74 rfl rfl ?_
            refine b_iload dX8_didMeet_49 rfl ?_
            refine b_ialdN dX8_didMeet_51 rfl ⟨by omega, by decide⟩ ?_
            refine b_iload_n dX8_didMeet_52 rfl ?_
            refine b_icmp_ne (tgt := 60) dX8_didMeet_53 (by decide) (fun h53 => ?_) (fun h53 => ?_)
            · refine b_iconst (v := 0) dX8_didMeet_60 (by decide) ?_
              refine b_istore dX8_didMeet_61 (by decide) ?_
              refine b_iload dX8_didMeet_63 rfl ?_
              refine b_if_eq (tgt := 81) dX8_didMeet_65 (by decide) (fun h65 => ?_) (fun h65 => absurd h65 (by decide))
              refine b_iinc dX8_didMeet_81 rfl (nI_inc k) (by decide) ?_
              refine b_goto (tgt := 3) dX8_didMeet_84 (by decide) ?_
              refine b_sub [2, 3, 4, 5, 0] rfl ?_
              exact ih (k + 1) (by omega) (no_up hno (fun z => z.1.elim (fun y => h31 y.2) (fun y => h53 y.2)))
            · refine b_iconst (v := 1) dX8_didMeet_56 (by decide) ?_
              refine b_goto (tgt := 61) dX8_didMeet_57 (by decide) ?_
              refine b_istore dX8_didMeet_61 (by decide) ?_
              refine b_iload dX8_didMeet_63 rfl ?_
              refine b_if_eq (tgt := 81) dX8_didMeet_65 (by decide) (fun h65 => absurd h65 (by decide)) (fun h65 => ?_)
              refine b_aload_n dX8_didMeet_68 rfl ?_
              refine b_getr dX8_didMeet_69 gf_X8_68 rfl rfl ?_
              refine b_iload dX8_didMeet_72 rfl ?_
              refine b_ialdN dX8_didMeet_74 rfl ⟨by omega, by decide⟩ ?_
              refine b_iload_n dX8_didMeet_75 rfl ?_
              refine b_icmp_le (tgt := 81) dX8_didMeet_76 (by decide) (fun h76 => ?_) (fun h76 => ?_)
              · refine b_iinc dX8_didMeet_81 rfl (nI_inc k) (by decide) ?_
                refine b_goto (tgt := 3) dX8_didMeet_84 (by decide) ?_
                refine b_sub [2, 3, 4, 5, 0] rfl ?_
                exact ih (k + 1) (by omega) (no_up hno (fun z => absurd z.2 (Int32.not_lt.mpr h76)))
              · refine b_iconst (v := 1) dX8_didMeet_79 (by decide) ?_
                refine b_zret (Or.inr rfl) dX8_didMeet_80 rfl ⟨rfl, Or.inl ⟨rfl, k, by rw [em]; omega, Or.inr ⟨h42, h53⟩, Int32.not_le.mp h76⟩⟩

set_option maxRecDepth 100000 in
set_option maxHeartbeats 4000000 in
theorem s_X8_didMeet {w : kW} {m : Nat} {p o day : Int32} (hm : w.1 0 28 = nI m) (hm2 : m ≤ 180) : Spec shM yX8_didMeet cX8_didMeet 6 (some .boolean) 0 0 [.ref 0, .int p, .int o, .int day] w (fun r w' => w = w' ∧ ((r = some (.int 1) ∧ (dMt w p o day)) ∨ (r = some (.int 0) ∧ ¬ (dMt w p o day)))) := by
  refine k_enter pn_X8 (Nat.le_of_ble_eq_true rfl) ?_
  refine b_iconst (v := 0) dX8_didMeet_0 (by decide) ?_
  refine b_istore dX8_didMeet_1 (by decide) ?_
  refine b_sub [1, 2, 3, 4, 0] rfl ?_
  exact s_X8_didMeet_lp hm hm2 m 0 (by omega) (fun j hj => absurd hj (Nat.not_lt_zero _))

def soW (n c : Nat) (w : kW) : Prop := ∀ k, k < dn (w.1 0 35) → (wIn (mGo n c w 60) (w.1 26 k) (w.1 27 k) ↔ w.1 28 k = 1)
theorem SQ.inq {n : Nat} {w v : kW} {p d : Int32} (h : SQ n w v) : wIn v p d ↔ wIn w p d := by
  obtain ⟨t, m, h1, h2, h3, h4, h5, h6, h7⟩ := h
  unfold wIn
  rw [h3, h4, dn_nI (by omega)]
  constructor
  · rintro ⟨k, a, b, e⟩
    rw [h7.2.2.2 20 k (by decide) (by decide) a] at b
    rw [h7.2.2.2 21 k (by decide) (by decide) a, h7.2.2.2 22 k (by decide) (by decide) a] at e
    exact ⟨k, a, b, e⟩
  · rintro ⟨k, a, b, e⟩
    refine ⟨k, a, ?_, ?_⟩
    · rw [h7.2.2.2 20 k (by decide) (by decide) a]; exact b
    · rw [h7.2.2.2 21 k (by decide) (by decide) a, h7.2.2.2 22 k (by decide) (by decide) a]; exact e
theorem SQ.huq {n : Nat} {w v : kW} {p : Int32} (h : SQ n w v) : wHu v p ↔ wHu w p := by
  obtain ⟨t, m, h1, h2, h3, h4, h5, h6, h7⟩ := h
  unfold wHu
  rw [h3, h4, dn_nI (by omega)]
  constructor
  · rintro ⟨k, a, b⟩
    rw [h7.2.2.2 25 k (by decide) (by decide) a] at b
    exact ⟨k, a, b⟩
  · rintro ⟨k, a, b⟩
    exact ⟨k, a, by rw [h7.2.2.2 25 k (by decide) (by decide) a]; exact b⟩
theorem SQ.dmq {n : Nat} {w v : kW} {p o day : Int32} (h : SQ n w v) : dMt v p o day ↔ dMt w p o day := by
  obtain ⟨t, m, h1, h2, h3, h4, h5, h6, h7⟩ := h
  unfold dMt
  rw [h3, h4, dn_nI (by omega)]
  constructor
  · rintro ⟨k, a, b⟩
    rw [h7.2.2.2 20 k (by decide) (by decide) a, h7.2.2.2 21 k (by decide) (by decide) a, h7.2.2.2 22 k (by decide) (by decide) a] at b
    exact ⟨k, a, b⟩
  · rintro ⟨k, a, b⟩
    exact ⟨k, a, by rw [h7.2.2.2 20 k (by decide) (by decide) a, h7.2.2.2 21 k (by decide) (by decide) a, h7.2.2.2 22 k (by decide) (by decide) a]; exact b⟩
/-- what is read stays -/
def rEq (w v : kW) : Prop := v.1 0 35 = w.1 0 35 ∧ v.1 26 = w.1 26 ∧ v.1 27 = w.1 27 ∧ v.1 28 = w.1 28
theorem soW_eq {n c : Nat} {w v : kW} (hP : Pn n w) (hI : Ins n c w) (hp : PEq c w v) (hr : rEq w v) : soW n c v ↔ soW n c w := by
  unfold soW
  rw [hr.1, hr.2.1, hr.2.2.1, hr.2.2.2]
  constructor
  · intro h k hk; rw [← h k hk]; exact (mGo_sq hP hI hp (Nat.le_refl 60)).inq.symm
  · intro h k hk; rw [← h k hk]; exact (mGo_sq hP hI hp (Nat.le_refl 60)).inq
theorem mKp.req {c : Nat} {w v : kW} (h : mKp c w v) : rEq w v := ⟨h.2.2 35 (by decide) (by decide) (by decide), h.1 26 (by decide) (by decide), h.1 27 (by decide) (by decide), h.1 28 (by decide) (by decide)⟩

theorem so_iff {x : Int32} {P : Prop} {b : Int32} (hb : b = 0 ∨ b = 1) (hx : (x = 1 ∧ P) ∨ (x = 0 ∧ ¬ P)) : x = b ↔ (P ↔ b = 1) := by
  rcases hx with ⟨rfl, h⟩ | ⟨rfl, h⟩ <;> rcases hb with rfl | rfl <;> simp [h]

set_option maxRecDepth 100000 in
set_option maxHeartbeats 4000000 in
theorem s_X8_areSo_lp {w : kW} {n c qq : Nat} (hP : Pn n w) (hI : Ins n c w) (hR : Rd n qq w) : ∀ q k, k + q = qq → (∀ j, j < k → (wIn (mGo n c w 60) (w.1 26 j) (w.1 27 j) ↔ w.1 28 j = 1)) → BS shM RX8 cX8_areSo 2 (some .boolean) 6 146 (fun r w' => mGo n c w 60 = w' ∧ ((r = some (.int 1) ∧ soW n c w) ∨ (r = some (.int 0) ∧ ¬ soW n c w))) 8 [(0, .ref 0), (1, .int (nI k))] [] (mGo n c w 60) := by
  intro q
  have hq8 := hR.2.1
  have eq9 : dn (w.1 0 35) = qq := by rw [hR.1]; exact dn_nI (by omega)
  obtain ⟨m, hm, hm2⟩ := met_lt (k := 0) (mGo_inv hP hI (Nat.le_refl 60)) (by omega)
  induction q with
  | zero =>
    intro k hk hall
    refine b_iload_n dX8_areSo_8 rfl ?_
    refine b_aload_n dX8_areSo_9 rfl ?_
    refine b_geti dX8_areSo_10 gf_X8_135 rfl rfl ?_
    refine b_topi (y := nI qq) (((mGo_keep hP hI (Nat.le_refl 60)).2.1 35 (by decide) (by decide) (by decide)).trans hR.1) ?_
    refine b_icmp_ge (tgt := 49) dX8_areSo_13 (by decide) (fun h13 => ?_) (fun h13 => ?_)
    · refine b_iconst (v := 1) dX8_areSo_49 (by decide) ?_
      have e : k = qq := by omega
      subst e
      refine b_zret (Or.inr rfl) dX8_areSo_50 rfl ⟨rfl, Or.inl ⟨rfl, fun j hj => hall j (by rw [eq9] at hj; exact hj)⟩⟩
    · exact absurd (nI_le (by omega) (by omega)) h13
  | succ q ih =>
    intro k hk hall
    obtain ⟨rp, rd, rp1, rd1, rp2, rd2, rb⟩ := hR.2.2 k (by omega)
    refine b_iload_n dX8_areSo_8 rfl ?_
    refine b_aload_n dX8_areSo_9 rfl ?_
    refine b_geti dX8_areSo_10 gf_X8_135 rfl rfl ?_
    refine b_topi (y := nI qq) (((mGo_keep hP hI (Nat.le_refl 60)).2.1 35 (by decide) (by decide) (by decide)).trans hR.1) ?_
    refine b_icmp_ge (tgt := 49) dX8_areSo_13 (by decide) (fun h13 => ?_) (fun h13 => ?_)
    · exact absurd h13 (nI_ge (by omega) (by omega))
    · refine b_aload_n dX8_areSo_16 rfl ?_
      refine b_aload_n dX8_areSo_17 rfl ?_
      refine b_getr dX8_areSo_18 gf_X8_86 rfl rfl ?_
      refine b_iload_n dX8_areSo_21 rfl ?_
      refine b_ialdN dX8_areSo_22 rfl ⟨by omega, by decide⟩ ?_
      refine b_topi (y := w.1 26 k) (congrFun ((mGo_keep hP hI (Nat.le_refl 60)).1 26 (by decide) (by decide)) k) ?_
      refine b_aload_n dX8_areSo_23 rfl ?_
      refine b_getr dX8_areSo_24 gf_X8_89 rfl rfl ?_
      refine b_iload_n dX8_areSo_27 rfl ?_
      refine b_ialdN dX8_areSo_28 rfl ⟨by omega, by decide⟩ ?_
      refine b_topi (y := w.1 27 k) (congrFun ((mGo_keep hP hI (Nat.le_refl 60)).1 27 (by decide) (by decide)) k) ?_
      refine b_callV2 dX8_areSo_29 lk_X8_222 rfl rfl rfl ⟨Nat.le_of_ble_eq_true rfl, Nat.le_of_ble_eq_true rfl⟩ (Nat.le_of_ble_eq_true rfl) (s_X8_wasIn hm hm2) (fun r w29 h29 => ?_)
      obtain ⟨rfl, h29⟩ := h29
      have hx : ∃ x, r = some (.int x) ∧ ((x = 1 ∧ wIn (mGo n c w 60) (w.1 26 k) (w.1 27 k)) ∨ (x = 0 ∧ ¬ wIn (mGo n c w 60) (w.1 26 k) (w.1 27 k))) := by
        rcases h29 with ⟨h, h9⟩ | ⟨h, h9⟩
        · exact ⟨1, h, Or.inl ⟨rfl, h9⟩⟩
        · exact ⟨0, h, Or.inr ⟨rfl, h9⟩⟩
      obtain ⟨x, rfl, hx⟩ := hx
      refine b_aload_n dX8_areSo_32 rfl ?_
      refine b_getr dX8_areSo_33 gf_X8_92 rfl rfl ?_
      refine b_iload_n dX8_areSo_36 rfl ?_
      refine b_zaldN dX8_areSo_37 rfl ⟨by omega, by decide⟩ ?_
      refine b_topi (y := w.1 28 k) (congrFun ((mGo_keep hP hI (Nat.le_refl 60)).1 28 (by decide) (by decide)) k) ?_
      refine b_icmp_eq (tgt := 43) dX8_areSo_38 (by decide) (fun h38 => ?_) (fun h38 => ?_)
      · refine b_iinc dX8_areSo_43 rfl (nI_inc k) (by decide) ?_
        refine b_goto (tgt := 8) dX8_areSo_46 (by decide) ?_
        refine b_sub [1, 0] rfl ?_
        refine ih (k + 1) (by omega) (fun j hj => ?_)
        by_cases e : j = k
        · subst e; exact (so_iff rb hx).mp h38
        · exact hall j (by omega)
      · refine b_iconst (v := 0) dX8_areSo_41 (by decide) ?_
        refine b_zret (Or.inl rfl) dX8_areSo_42 rfl ⟨rfl, Or.inr ⟨rfl, fun hh => ?_⟩⟩
        exact h38 ((so_iff rb hx).mpr (hh k (by rw [eq9]; omega)))

set_option maxRecDepth 100000 in
set_option maxHeartbeats 4000000 in
theorem s_X8_areSo {w : kW} {n c qq : Nat} (hP : Pn n w) (hI : Ins n c w) (hR : Rd n qq w) : Spec shM yX8_areSo cX8_areSo 2 (some .boolean) 6 146 [.ref 0] w (fun r w' => mGo n c w 60 = w' ∧ ((r = some (.int 1) ∧ soW n c w) ∨ (r = some (.int 0) ∧ ¬ soW n c w))) := by
  refine k_enter pn_X8 (Nat.le_of_ble_eq_true rfl) ?_
  refine b_aload_n dX8_areSo_0 rfl ?_
  refine b_bipush (v := 60) dX8_areSo_1 (by decide) ?_
  refine b_callV1 dX8_areSo_3 lk_X8_198 rfl rfl rfl ⟨Nat.le_of_ble_eq_true rfl, Nat.le_of_ble_eq_true rfl⟩ (Nat.le_of_ble_eq_true rfl) (s_X8_goAhead (D := 60) hP hI (by omega)) (fun r w3 h3 => ?_)
  obtain ⟨rfl, rfl⟩ := h3
  refine b_iconst (v := 0) dX8_areSo_6 (by decide) ?_
  refine b_istore_n dX8_areSo_7 (by decide) ?_
  refine b_sub [1, 0] rfl ?_
  exact s_X8_areSo_lp hP hI hR qq 0 (by omega) (fun j hj => absurd hj (Nat.not_lt_zero _))
