set_option maxRecDepth 100000 in
set_option maxHeartbeats 4000000 in
theorem s_X4_freeAhead_lp {w : kW} {n : Nat} {d : Int32} (hn0 : w.1 1 0 = nI n) (hn : n ≤ 6) : ∀ q k, k + q = n → ∀ s : Int32, (∀ p, p < 6 → (bt s p = true ↔ p < k ∧ bt (w.1 15 9) p = false ∧ w.1 29 p ≤ d)) → BS shC RX4 cX4_freeAhead 4 (some .int) 1 21 (fun r w' => w = w' ∧ ∃ s, r = some (.int s) ∧ ∀ p, p < 6 → (bt s p = true ↔ p < n ∧ bt (w.1 15 9) p = false ∧ w.1 29 p ≤ d)) 4 [(0, .ref 15), (1, .int d), (2, .int s), (3, .int (nI k))] [] w := by
  intro q
  induction q with
  | zero =>
    intro k hk s hs
    refine b_iload_n dX4_freeAhead_4 rfl ?_
    refine b_aload_n dX4_freeAhead_5 rfl ?_
    refine b_getr dX4_freeAhead_6 gf_X4_31 rfl rfl ?_
    refine b_geti dX4_freeAhead_9 gf_X4_90 rfl rfl ?_
    refine b_topi (y := nI n) hn0 ?_
    refine b_icmp_ge (tgt := 49) dX4_freeAhead_12 (by decide) (fun h12 => ?_) (fun h12 => ?_)
    · refine b_iload_n dX4_freeAhead_49 rfl ?_
      exact b_iret dX4_freeAhead_50 rfl ⟨rfl, s, rfl, by (have e : k = n := by omega); subst e; exact hs⟩
    · exact absurd (nI_le (by omega) (by omega)) h12
  | succ q ih =>
    intro k hk s hs
    refine b_iload_n dX4_freeAhead_4 rfl ?_
    refine b_aload_n dX4_freeAhead_5 rfl ?_
    refine b_getr dX4_freeAhead_6 gf_X4_31 rfl rfl ?_
    refine b_geti dX4_freeAhead_9 gf_X4_90 rfl rfl ?_
    refine b_topi (y := nI n) hn0 ?_
    refine b_icmp_ge (tgt := 49) dX4_freeAhead_12 (by decide) (fun h12 => ?_) (fun h12 => ?_)
    · exact absurd h12 (nI_ge (by omega) (by omega))
    · refine b_aload_n dX4_freeAhead_15 rfl ?_
      refine b_geti dX4_freeAhead_16 gf_X4_49 rfl rfl ?_
      refine b_iload_n dX4_freeAhead_19 rfl ?_
      refine b_callSN2 dX4_freeAhead_20 lk_X4_59 ⟨Nat.le_of_ble_eq_true rfl, Nat.le_of_ble_eq_true rfl⟩ (Nat.le_of_ble_eq_true rfl) (s_X7_in (by omega)) (fun r w20 h20 => ?_)
      obtain ⟨rfl, h20⟩ := h20
      rcases h20 with ⟨rfl, h20⟩ | ⟨rfl, h20⟩
      · refine b_if_ne (tgt := 43) dX4_freeAhead_23 (by decide) (fun h23 => ?_) (fun h23 => absurd h23 (by decide))
        refine b_iinc dX4_freeAhead_43 rfl (nI_inc k) (by decide) ?_
        refine b_goto (tgt := 4) dX4_freeAhead_46 (by decide) ?_
        refine b_sub [1, 2, 3, 0] rfl ?_
        refine ih (k + 1) (by omega) _ (fun p hp => ?_)
        rw [hs p hp]
        constructor
        · exact fun h => ⟨by omega, h.2⟩
        · intro h
          by_cases e : p = k
          · subst e
            exact absurd (h20.symm.trans h.2.1) (by decide)
          · exact ⟨by omega, h.2⟩
      · refine b_if_ne (tgt := 43) dX4_freeAhead_23 (by decide) (fun h23 => absurd h23 (by decide)) (fun h23 => ?_)
        refine b_aload_n dX4_freeAhead_26 rfl ?_
        refine b_getr dX4_freeAhead_27 gf_X4_27 rfl rfl ?_
        refine b_iload_n dX4_freeAhead_30 rfl ?_
        refine b_ialdN dX4_freeAhead_31 rfl ⟨by omega, by decide⟩ ?_
        refine b_iload_n dX4_freeAhead_32 rfl ?_
        refine b_icmp_gt (tgt := 43) dX4_freeAhead_33 (by decide) (fun h33 => ?_) (fun h33 => ?_)
        · refine b_iinc dX4_freeAhead_43 rfl (nI_inc k) (by decide) ?_
          refine b_goto (tgt := 4) dX4_freeAhead_46 (by decide) ?_
          refine b_sub [1, 2, 3, 0] rfl ?_
          refine ih (k + 1) (by omega) _ (fun p hp => ?_)
          rw [hs p hp]
          constructor
          · exact fun h => ⟨by omega, h.2⟩
          · intro h
            by_cases e : p = k
            · subst e
              exact absurd h.2.2 (Int32.not_le.mpr h33)
            · exact ⟨by omega, h.2⟩
        · refine b_iload_n dX4_freeAhead_36 rfl ?_
          refine b_iload_n dX4_freeAhead_37 rfl ?_
          refine b_callSN1 dX4_freeAhead_38 lk_X4_93 ⟨Nat.le_of_ble_eq_true rfl, Nat.le_of_ble_eq_true rfl⟩ (Nat.le_of_ble_eq_true rfl) (s_X7_bit) (fun r w38 h38 => ?_)
          obtain ⟨rfl, rfl⟩ := h38
          refine b_ior dX4_freeAhead_41 ?_
          refine b_istore_n dX4_freeAhead_42 (by decide) ?_
          refine b_iinc dX4_freeAhead_43 rfl (nI_inc k) (by decide) ?_
          refine b_goto (tgt := 4) dX4_freeAhead_46 (by decide) ?_
          refine b_sub [2, 3, 1, 0] rfl ?_
          refine ih (k + 1) (by omega) _ (fun p hp => ?_)
          rw [b_or, bit_one (by omega) (by omega), Bool.or_eq_true, hs p hp, decide_eq_true_eq]
          constructor
          · rintro (h | rfl)
            · exact ⟨by omega, h.2⟩
            · exact ⟨by omega, b_f h20, Int32.not_lt.mp h33⟩
          · intro h
            by_cases e : p = k
            · exact Or.inr e
            · exact Or.inl ⟨by omega, h.2⟩
set_option maxRecDepth 100000 in
set_option maxHeartbeats 4000000 in
theorem s_X4_freeAhead {w : kW} {n : Nat} {d : Int32} (hn0 : w.1 1 0 = nI n) (hn : n ≤ 6) : Spec shC yX4_freeAhead cX4_freeAhead 4 (some .int) 1 21 [.ref 15, .int d] w (fun r w' => w = w' ∧ ∃ s, r = some (.int s) ∧ ∀ p, p < 6 → (bt s p = true ↔ p < n ∧ bt (w.1 15 9) p = false ∧ w.1 29 p ≤ d)) := by
  refine k_enter pn_X4 (Nat.le_of_ble_eq_true rfl) ?_
  refine b_iconst (v := 0) dX4_freeAhead_0 (by decide) ?_
  refine b_istore_n dX4_freeAhead_1 (by decide) ?_
  refine b_iconst (v := 0) dX4_freeAhead_2 (by decide) ?_
  refine b_istore_n dX4_freeAhead_3 (by decide) ?_
  refine b_sub [2, 3, 1, 0] rfl ?_
  exact s_X4_freeAhead_lp hn0 hn n 0 (by omega) 0 (fun p hp => by rw [b_0]; simp)
def cHurt (w : kW) (hu y t : Nat) (d : Int32) : kW :=
  let w1 := kset (kset w 15 1 (w.1 15 1 ||| 1 <<< (nI hu &&& 31))) 29 hu (d + (w.1 3 y - w.1 3 hu) + 2)
  if w.1 4 hu = nI y then w1 else kset (kset (kset (kset (kset w1 25 t (nI y)) 26 t (w.1 4 hu)) 27 t d) 28 t (w.1 3 y - w.1 3 hu)) 24 0 (nI t + 1)
theorem i_abs1 {x y : Nat} (h : y ≤ x) (hx : x ≤ 9) : (if 0 ≤ nI x - nI y then nI x - nI y else 0 - (nI x - nI y)) = nI x - nI y := by
  rw [if_pos (by rw [nI_sub h]; exact nI_pos' (by omega))]
theorem i_abs2 {x y : Nat} (h : x < y) (hx : y ≤ 9) : (if 0 ≤ nI x - nI y then nI x - nI y else 0 - (nI x - nI y)) = nI y - nI x := by
  have e : nI x - nI y = 0 - (nI y - nI x) := by
    rw [Int32.zero_sub, Int32.neg_sub]
  have h1 : ¬ (0 : Int32) ≤ nI x - nI y := by
    have : ∀ x, x < 10 → ∀ y, y < 10 → x < y → ¬ (0 : Int32) ≤ nI x - nI y := by decide +kernel
    exact this x (by omega) y (by omega) h
  rw [if_neg h1, Int32.zero_sub, Int32.neg_sub]
theorem i_sgn {x y : Nat} (hx : x ≤ 9) (hy : y ≤ 9) : (nI x - nI y = 0 ↔ x = y) ∧ (0 ≤ nI x - nI y ↔ y ≤ x) := by
  have : ∀ x, x < 10 → ∀ y, y < 10 → (nI x - nI y = 0 ↔ x = y) ∧ (0 ≤ nI x - nI y ↔ y ≤ x) := by decide +kernel
  exact this x (by omega) y (by omega)
set_option maxRecDepth 100000 in
set_option maxHeartbeats 4000000 in
theorem s_X4_shoot {w : kW} {a b t x y : Nat} {d : Int32} (ha : a < 6) (hb : b < 6) (hx : x ≤ 9) (hy : y ≤ 9) (ea : w.1 3 a = nI x) (eb : w.1 3 b = nI y) (ht : w.1 24 0 = nI t) (ht2 : t < 180) : Spec shC yX4_shoot cX4_shoot 9 (some .int) 1 24 [.ref 15, .int (nI a), .int (nI b), .int d] w (fun r w' => r = some (.int (if x = y then -9 else if y ≤ x then nI b else nI a)) ∧ (if x = y then w else if y ≤ x then cHurt w b a t d else cHurt w a b t d) = w') := by
  have eab1 : w.1 3 a - w.1 3 b = nI x - nI y := by rw [ea, eb]
  have eab2 : w.1 3 b - w.1 3 a = nI y - nI x := by rw [ea, eb]
  refine k_enter pn_X4 (Nat.le_of_ble_eq_true rfl) ?_
  refine b_aload_n dX4_shoot_0 rfl ?_
  refine b_getr dX4_shoot_1 gf_X4_31 rfl rfl ?_
  refine b_getr dX4_shoot_4 gf_X4_120 rfl rfl ?_
  refine b_iload_n dX4_shoot_7 rfl ?_
  refine b_ialdN dX4_shoot_8 rfl ⟨by omega, by decide⟩ ?_
  refine b_topi (y := nI x) ea ?_
  refine b_aload_n dX4_shoot_9 rfl ?_
  refine b_getr dX4_shoot_10 gf_X4_31 rfl rfl ?_
  refine b_getr dX4_shoot_13 gf_X4_120 rfl rfl ?_
  refine b_iload_n dX4_shoot_16 rfl ?_
  refine b_ialdN dX4_shoot_17 rfl ⟨by omega, by decide⟩ ?_
  refine b_topi (y := nI y) eb ?_
  refine b_isub dX4_shoot_18 ?_
  refine b_istore dX4_shoot_19 (by decide) ?_
  refine b_iload dX4_shoot_21 rfl ?_
  refine b_if_ne (tgt := 29) dX4_shoot_23 (by decide) (fun h23 => ?_) (fun h23 => ?_)
  · refine b_iload dX4_shoot_29 rfl ?_
    refine b_if_ge (tgt := 38) dX4_shoot_31 (by decide) (fun h31 => ?_) (fun h31 => ?_)
    · refine b_iload_n dX4_shoot_38 rfl ?_
      refine b_istore dX4_shoot_39 (by decide) ?_
      refine b_iload dX4_shoot_41 rfl ?_
      refine b_if_ge (tgt := 50) dX4_shoot_43 (by decide) (fun h43 => ?_) (fun h43 => ?_)
      · refine b_iload_n dX4_shoot_50 rfl ?_
        refine b_istore dX4_shoot_51 (by decide) ?_
        refine b_iload dX4_shoot_53 rfl ?_
        refine b_abs dX4_shoot_55 lk_X4_123 (Nat.le_of_ble_eq_true rfl) (Nat.le_of_ble_eq_true rfl) ?_
        refine b_topi (y := nI x - nI y) (i_abs1 ((i_sgn hx hy).2.mp h31) hx) ?_
        refine b_istore dX4_shoot_58 (by decide) ?_
        refine b_aload_n dX4_shoot_60 rfl ?_
        refine b_dup dX4_shoot_61 rfl ?_
        refine b_geti dX4_shoot_62 gf_X4_70 rfl rfl ?_
        refine b_iload dX4_shoot_65 rfl ?_
        refine b_callSN1 dX4_shoot_67 lk_X4_93 ⟨Nat.le_of_ble_eq_true rfl, Nat.le_of_ble_eq_true rfl⟩ (Nat.le_of_ble_eq_true rfl) (s_X7_bit) (fun r w67 h67 => ?_)
        obtain ⟨rfl, rfl⟩ := h67
        refine b_ior dX4_shoot_70 ?_
        refine b_puti dX4_shoot_71 gf_X4_70 gs_X4_1 rfl rfl ?_
        refine b_aload_n dX4_shoot_74 rfl ?_
        refine b_getr dX4_shoot_75 gf_X4_27 rfl rfl ?_
        refine b_iload dX4_shoot_78 rfl ?_
        refine b_iload_n dX4_shoot_80 rfl ?_
        refine b_iload dX4_shoot_81 rfl ?_
        refine b_iadd dX4_shoot_83 ?_
        refine b_iconst (v := 2) dX4_shoot_84 (by decide) ?_
        refine b_iadd dX4_shoot_85 ?_
        refine b_iastN dX4_shoot_86 rfl ⟨by omega, by decide⟩ ?_
        refine b_aload_n dX4_shoot_87 rfl ?_
        refine b_getr dX4_shoot_88 gf_X4_31 rfl rfl ?_
        refine b_getr dX4_shoot_91 gf_X4_128 rfl rfl ?_
        refine b_iload dX4_shoot_94 rfl ?_
        refine b_ialdN dX4_shoot_96 rfl ⟨by omega, by decide⟩ ?_
        refine b_topi (y := w.1 4 b) rfl ?_
        refine b_istore dX4_shoot_97 (by decide) ?_
        refine b_iload dX4_shoot_99 rfl ?_
        refine b_iload dX4_shoot_101 rfl ?_
        refine b_icmp_eq (tgt := 120) dX4_shoot_103 (by decide) (fun h103 => ?_) (fun h103 => ?_)
        · refine b_iload dX4_shoot_120 rfl ?_
          refine b_iret dX4_shoot_122 rfl ⟨by rw [if_neg (fun e => h23 ((i_sgn hx hy).1.mpr e)), if_pos ((i_sgn hx hy).2.mp h31)], ?_⟩
          rw [if_neg (fun e => h23 ((i_sgn hx hy).1.mpr e)), if_pos ((i_sgn hx hy).2.mp h31)]
          simp only [cHurt, if_pos h103, eab1]
          rfl
        · refine b_aload_n dX4_shoot_106 rfl ?_
          refine b_getr dX4_shoot_107 gf_X4_23 rfl rfl ?_
          refine b_iload dX4_shoot_110 rfl ?_
          refine b_iload dX4_shoot_112 rfl ?_
          refine b_iload_n dX4_shoot_114 rfl ?_
          refine b_iload dX4_shoot_115 rfl ?_
          refine b_callV4 dX4_shoot_117 lk_X4_131 rfl rfl rfl ⟨Nat.le_of_ble_eq_true rfl, Nat.le_of_ble_eq_true rfl⟩ (Nat.le_of_ble_eq_true rfl) (s_X0_add_24 ht ht2) (fun r w117 h117 => ?_)
          obtain ⟨rfl, rfl⟩ := h117
          refine b_iload dX4_shoot_120 rfl ?_
          refine b_iret dX4_shoot_122 rfl ⟨by rw [if_neg (fun e => h23 ((i_sgn hx hy).1.mpr e)), if_pos ((i_sgn hx hy).2.mp h31)], ?_⟩
          rw [if_neg (fun e => h23 ((i_sgn hx hy).1.mpr e)), if_pos ((i_sgn hx hy).2.mp h31)]
          simp only [cHurt, if_neg h103, eab1]
          rfl
      · exact absurd h31 h43
    · refine b_iload_n dX4_shoot_34 rfl ?_
      refine b_goto (tgt := 39) dX4_shoot_35 (by decide) ?_
      refine b_istore dX4_shoot_39 (by decide) ?_
      refine b_iload dX4_shoot_41 rfl ?_
      refine b_if_ge (tgt := 50) dX4_shoot_43 (by decide) (fun h43 => ?_) (fun h43 => ?_)
      · exact absurd h43 h31
      · refine b_iload_n dX4_shoot_46 rfl ?_
        refine b_goto (tgt := 51) dX4_shoot_47 (by decide) ?_
        refine b_istore dX4_shoot_51 (by decide) ?_
        refine b_iload dX4_shoot_53 rfl ?_
        refine b_abs dX4_shoot_55 lk_X4_123 (Nat.le_of_ble_eq_true rfl) (Nat.le_of_ble_eq_true rfl) ?_
        refine b_topi (y := nI y - nI x) (i_abs2 (Nat.not_le.mp (fun e => h31 ((i_sgn hx hy).2.mpr e))) hy) ?_
        refine b_istore dX4_shoot_58 (by decide) ?_
        refine b_aload_n dX4_shoot_60 rfl ?_
        refine b_dup dX4_shoot_61 rfl ?_
        refine b_geti dX4_shoot_62 gf_X4_70 rfl rfl ?_
        refine b_iload dX4_shoot_65 rfl ?_
        refine b_callSN1 dX4_shoot_67 lk_X4_93 ⟨Nat.le_of_ble_eq_true rfl, Nat.le_of_ble_eq_true rfl⟩ (Nat.le_of_ble_eq_true rfl) (s_X7_bit) (fun r w67 h67 => ?_)
        obtain ⟨rfl, rfl⟩ := h67
        refine b_ior dX4_shoot_70 ?_
        refine b_puti dX4_shoot_71 gf_X4_70 gs_X4_1 rfl rfl ?_
        refine b_aload_n dX4_shoot_74 rfl ?_
        refine b_getr dX4_shoot_75 gf_X4_27 rfl rfl ?_
        refine b_iload dX4_shoot_78 rfl ?_
        refine b_iload_n dX4_shoot_80 rfl ?_
        refine b_iload dX4_shoot_81 rfl ?_
        refine b_iadd dX4_shoot_83 ?_
        refine b_iconst (v := 2) dX4_shoot_84 (by decide) ?_
        refine b_iadd dX4_shoot_85 ?_
        refine b_iastN dX4_shoot_86 rfl ⟨by omega, by decide⟩ ?_
        refine b_aload_n dX4_shoot_87 rfl ?_
        refine b_getr dX4_shoot_88 gf_X4_31 rfl rfl ?_
        refine b_getr dX4_shoot_91 gf_X4_128 rfl rfl ?_
        refine b_iload dX4_shoot_94 rfl ?_
        refine b_ialdN dX4_shoot_96 rfl ⟨by omega, by decide⟩ ?_
        refine b_topi (y := w.1 4 a) rfl ?_
        refine b_istore dX4_shoot_97 (by decide) ?_
        refine b_iload dX4_shoot_99 rfl ?_
        refine b_iload dX4_shoot_101 rfl ?_
        refine b_icmp_eq (tgt := 120) dX4_shoot_103 (by decide) (fun h103 => ?_) (fun h103 => ?_)
        · refine b_iload dX4_shoot_120 rfl ?_
          refine b_iret dX4_shoot_122 rfl ⟨by rw [if_neg (fun e => h23 ((i_sgn hx hy).1.mpr e)), if_neg (fun e => h31 ((i_sgn hx hy).2.mpr e))], ?_⟩
          rw [if_neg (fun e => h23 ((i_sgn hx hy).1.mpr e)), if_neg (fun e => h31 ((i_sgn hx hy).2.mpr e))]
          simp only [cHurt, if_pos h103, eab2]
          rfl
        · refine b_aload_n dX4_shoot_106 rfl ?_
          refine b_getr dX4_shoot_107 gf_X4_23 rfl rfl ?_
          refine b_iload dX4_shoot_110 rfl ?_
          refine b_iload dX4_shoot_112 rfl ?_
          refine b_iload_n dX4_shoot_114 rfl ?_
          refine b_iload dX4_shoot_115 rfl ?_
          refine b_callV4 dX4_shoot_117 lk_X4_131 rfl rfl rfl ⟨Nat.le_of_ble_eq_true rfl, Nat.le_of_ble_eq_true rfl⟩ (Nat.le_of_ble_eq_true rfl) (s_X0_add_24 ht ht2) (fun r w117 h117 => ?_)
          obtain ⟨rfl, rfl⟩ := h117
          refine b_iload dX4_shoot_120 rfl ?_
          refine b_iret dX4_shoot_122 rfl ⟨by rw [if_neg (fun e => h23 ((i_sgn hx hy).1.mpr e)), if_neg (fun e => h31 ((i_sgn hx hy).2.mpr e))], ?_⟩
          rw [if_neg (fun e => h23 ((i_sgn hx hy).1.mpr e)), if_neg (fun e => h31 ((i_sgn hx hy).2.mpr e))]
          simp only [cHurt, if_neg h103, eab2]
          rfl
  · refine b_bipush (v := (-9)) dX4_shoot_26 (by decide) ?_
    exact b_iret dX4_shoot_28 rfl ⟨by rw [if_pos ((i_sgn hx hy).1.mp h23)], by rw [if_pos ((i_sgn hx hy).1.mp h23)]⟩
