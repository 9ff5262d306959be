/-! ===== begin ===== -/
def cK2 (w w' : kW) : Prop := ∀ c, (c < 15 ∨ 29 < c) → w'.1 c = w.1 c
theorem cKeep.k2 {w w' : kW} (h : cKeep w w') : cK2 w w' := h.1
theorem cK2.tr {w v u : kW} (h1 : cK2 w v) (h2 : cK2 v u) : cK2 w u := fun c h => (h2 c h).trans (h1 c h)
theorem k_up_up {α : Type} (f : Nat → Nat → α) (c k : Nat) (a b : α) : k_up (k_up f c k a) c k b = k_up f c k b := by
  funext c' k'
  simp only [k_up]
  split
  · split <;> rfl
  · rfl
def dayBits (c : Nat) (ins : Int32) (w : kW) (D : Int64) : Prop := ∀ i, i < 64 → (btL D i = true ↔ ∃ k, k < c ∧ bt ins k = true ∧ w.1 9 k = nI i)
def beg0 (w : kW) (ins arr : Int32) (D : Int64) : kW := ((kset (kset w 15 7 ins) 15 9 arr).1, k_up w.2 15 8 D)
def begW (w : kW) (ins arr : Int32) (D : Int64) : kW := fillF (kset (kset (kset (kset (beg0 w ins arr D) 16 0 0) 24 0 0) 15 5 0) 15 1 0) 29 0 6
set_option maxRecDepth 100000 in
set_option maxHeartbeats 4000000 in
theorem s_X4_begin_lp {w : kW} {c : Nat} {ins arr : Int32} (hc : w.1 6 0 = nI c) (hc9 : c ≤ 9) (hd : ∀ k, k < c → ∃ d, d < 30 ∧ w.1 9 k = nI d) : ∀ q k, k + q = c → ∀ D : Int64, dayBits k ins w D → BS shC RX4 cX4_begin 4 none 1 23 (fun r w' => r = none ∧ ∃ D, dayBits c ins w D ∧ begW w ins arr D = w') 17 [(0, .ref 15), (1, .int ins), (2, .int arr), (3, .int (nI k))] [] (beg0 w ins arr D) := by
  intro q
  induction q with
  | zero =>
    intro k hk D hD
    refine b_iload_n dX4_begin_17 rfl ?_
    refine b_aload_n dX4_begin_18 rfl ?_
    refine b_getr dX4_begin_19 gf_X4_35 rfl rfl ?_
    refine b_geti dX4_begin_22 gf_X4_56 rfl rfl ?_
    refine b_topi (y := nI c) hc ?_
    refine b_icmp_ge (tgt := 65) dX4_begin_25 (by decide) (fun h25 => ?_) (fun h25 => ?_)
    · refine b_aload_n dX4_begin_65 rfl ?_
      refine b_getr dX4_begin_66 gf_X4_12 rfl rfl ?_
      refine b_iconst (v := 0) dX4_begin_69 (by decide) ?_
      refine b_puti dX4_begin_70 gf_X4_66 gs_X1_0 rfl rfl ?_
      refine b_aload_n dX4_begin_73 rfl ?_
      refine b_getr dX4_begin_74 gf_X4_23 rfl rfl ?_
      refine b_iconst (v := 0) dX4_begin_77 (by decide) ?_
      refine b_puti dX4_begin_78 gf_X4_56 gs_X0_0 rfl rfl ?_
      refine b_aload_n dX4_begin_81 rfl ?_
      refine b_iconst (v := 0) dX4_begin_82 (by decide) ?_
      refine b_puti dX4_begin_83 gf_X4_67 gs_X4_5 rfl rfl ?_
      refine b_aload_n dX4_begin_86 rfl ?_
      refine b_iconst (v := 0) dX4_begin_87 (by decide) ?_
      refine b_puti dX4_begin_88 gf_X4_70 gs_X4_1 rfl rfl ?_
      refine b_aload_n dX4_begin_91 rfl ?_
      refine b_getr dX4_begin_92 gf_X4_27 rfl rfl ?_
      refine b_iconst (v := 0) dX4_begin_95 (by decide) ?_
      refine b_callS2 dX4_begin_96 lk_X4_73 ⟨Nat.le_of_ble_eq_true rfl, Nat.le_of_ble_eq_true rfl⟩ (Nat.le_of_ble_eq_true rfl) (s_fill (N := 6) rfl (by decide)) (fun r w96 h96 => ?_)
      obtain ⟨rfl, rfl⟩ := h96
      have e : k = c := by omega
      subst e
      exact b_vret dX4_begin_99 rfl ⟨rfl, D, hD, rfl⟩
    · exact absurd (nI_le (by omega) (by omega)) h25
  | succ q ih =>
    intro k hk D hD
    refine b_iload_n dX4_begin_17 rfl ?_
    refine b_aload_n dX4_begin_18 rfl ?_
    refine b_getr dX4_begin_19 gf_X4_35 rfl rfl ?_
    refine b_geti dX4_begin_22 gf_X4_56 rfl rfl ?_
    refine b_topi (y := nI c) hc ?_
    refine b_icmp_ge (tgt := 65) dX4_begin_25 (by decide) (fun h25 => ?_) (fun h25 => ?_)
    · exact absurd h25 (nI_ge (by omega) (by omega))
    · refine b_aload_n dX4_begin_28 rfl ?_
      refine b_geti dX4_begin_29 gf_X4_45 rfl rfl ?_
      refine b_topi (y := ins) rfl ?_
      refine b_iload_n dX4_begin_32 rfl ?_
      refine b_callSN2 dX4_begin_33 lk_X4_59 ⟨Nat.le_of_ble_eq_true rfl, Nat.le_of_ble_eq_true rfl⟩ (Nat.le_of_ble_eq_true rfl) (s_X7_in (by omega)) (fun r w33 h33 => ?_)
      obtain ⟨rfl, h33⟩ := h33
      rcases h33 with ⟨rfl, h33⟩ | ⟨rfl, h33⟩
      · refine b_if_eq (tgt := 59) dX4_begin_36 (by decide) (fun h36 => absurd h36 (by decide)) (fun h36 => ?_)
        refine b_aload_n dX4_begin_39 rfl ?_
        refine b_dup dX4_begin_40 rfl ?_
        refine b_getl dX4_begin_41 gf_X4_52 rfl rfl ?_
        refine b_topl (y := D) rfl ?_
        refine b_lconst (v := 1) dX4_begin_44 (by decide) ?_
        refine b_aload_n dX4_begin_45 rfl ?_
        refine b_getr dX4_begin_46 gf_X4_35 rfl rfl ?_
        refine b_getr dX4_begin_49 gf_X4_63 rfl rfl ?_
        refine b_iload_n dX4_begin_52 rfl ?_
        refine b_ialdN dX4_begin_53 rfl ⟨by omega, by decide⟩ ?_
        obtain ⟨dd, dd1, dd2⟩ := hd k (by omega)
        refine b_topi (y := nI dd) dd2 ?_
        refine b_lshl dX4_begin_54 ?_
        refine b_lor dX4_begin_55 ?_
        refine b_putl dX4_begin_56 gf_X4_52 gs_X4_8 rfl rfl ?_
        refine b_iinc dX4_begin_59 rfl (nI_inc k) (by decide) ?_
        refine b_goto (tgt := 17) dX4_begin_62 (by decide) ?_
        refine b_sub [1, 2, 3, 0] rfl ?_
        refine b_wd (w' := beg0 w ins arr (D ||| 1 <<< ((nI dd).toInt64 &&& 63))) (by show (_, k_up (k_up w.2 15 8 D) 15 8 _) = _; rw [k_up_up]; rfl) ?_
        refine ih (k + 1) (by omega) _ (fun i hi => ?_)
        rw [btL_or, btL_one (by omega) hi, Bool.or_eq_true, hD i hi, decide_eq_true_eq]
        constructor
        · rintro (⟨j, j1, j2, j3⟩ | rfl)
          · exact ⟨j, by omega, j2, j3⟩
          · exact ⟨k, by omega, h33, dd2⟩
        · rintro ⟨j, j1, j2, j3⟩
          by_cases e : j = k
          · subst e
            exact Or.inr (nI_inj (by omega) (by omega) (j3.symm.trans dd2))
          · exact Or.inl ⟨j, by omega, j2, j3⟩
      · refine b_if_eq (tgt := 59) dX4_begin_36 (by decide) (fun h36 => ?_) (fun h36 => absurd h36 (by decide))
        refine b_iinc dX4_begin_59 rfl (nI_inc k) (by decide) ?_
        refine b_goto (tgt := 17) dX4_begin_62 (by decide) ?_
        refine b_sub [1, 2, 3, 0] rfl ?_
        refine ih (k + 1) (by omega) _ (fun i hi => ?_)
        rw [hD i hi]
        constructor
        · rintro ⟨j, j1, j2, j3⟩
          exact ⟨j, by omega, j2, j3⟩
        · rintro ⟨j, j1, j2, j3⟩
          by_cases e : j = k
          · subst e
            exact absurd j2 h33
          · exact ⟨j, by omega, j2, j3⟩
set_option maxRecDepth 100000 in
set_option maxHeartbeats 4000000 in
theorem s_X4_begin {w : kW} {c : Nat} {ins arr : Int32} (hc : w.1 6 0 = nI c) (hc9 : c ≤ 9) (hd : ∀ k, k < c → ∃ d, d < 30 ∧ w.1 9 k = nI d) : Spec shC yX4_begin cX4_begin 4 none 1 23 [.ref 15, .int ins, .int arr] w (fun r w' => r = none ∧ ∃ D, dayBits c ins w D ∧ begW w ins arr D = w') := by
  refine k_enter pn_X4 (Nat.le_of_ble_eq_true rfl) ?_
  refine b_aload_n dX4_begin_0 rfl ?_
  refine b_iload_n dX4_begin_1 rfl ?_
  refine b_puti dX4_begin_2 gf_X4_45 gs_X4_7 rfl rfl ?_
  refine b_aload_n dX4_begin_5 rfl ?_
  refine b_iload_n dX4_begin_6 rfl ?_
  refine b_puti dX4_begin_7 gf_X4_49 gs_X4_9 rfl rfl ?_
  refine b_aload_n dX4_begin_10 rfl ?_
  refine b_lconst (v := 0) dX4_begin_11 (by decide) ?_
  refine b_putl dX4_begin_12 gf_X4_52 gs_X4_8 rfl rfl ?_
  refine b_iconst (v := 0) dX4_begin_15 (by decide) ?_
  refine b_istore_n dX4_begin_16 (by decide) ?_
  refine b_sub [1, 2, 3, 0] rfl ?_
  refine b_wd (w' := beg0 w ins arr 0) rfl ?_
  exact s_X4_begin_lp hc hc9 hd c 0 (by omega) 0 (fun i hi => by rw [btL_0]; simp)
