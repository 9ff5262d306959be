/-! ===== provoked ===== -/
theorem dMt_k15 {w : kW} {x p o d : Int32} (h : dMt (kset w 0 15 x) p o d) : dMt w p o d := h
theorem dMt_k15' {w : kW} {x p o d : Int32} (h : ¬ dMt (kset w 0 15 x) p o d) : ¬ dMt w p o d := h
def layW (w : kW) (c : Nat) (a b d g : Int32) : kW := kset (kset (kset (kset (kset w 11 c a) 12 c b) 13 c d) 14 c g) 0 15 (nI (c + 1))
theorem layW_pn {n c : Nat} {w : kW} {a b d g : Int32} (h : Pn n w) : Pn n (layW w c a b d g) := h
theorem layW_ins {n c a b d g : Nat} {w : kW} (h : Ins n c w) (hc : c ≤ 8) (ha : a < n) (hb : b < n) (hab : a ≠ b) (hd : d < 30) (hg : 1 ≤ g) (hg9 : g ≤ 9) : Ins n (c + 1) (layW w c (nI a) (nI b) (nI d) (nI g)) := by
  refine ⟨rfl, by omega, fun k hk => ?_⟩
  by_cases e : k = c
  · subst e
    exact ⟨a, b, d, g, ha, hb, hab, hd, hg, hg9, by simp [layW, kset_1], by simp [layW, kset_1], by simp [layW, kset_1], by simp [layW, kset_1]⟩
  · obtain ⟨a', b', d', g', z1, z2, z3, z4, z5, z6, z7, z8, z9, z10⟩ := h.2.2 k (by omega)
    exact ⟨a', b', d', g', z1, z2, z3, z4, z5, z6, by simp [layW, kset_1, e, z7], by simp [layW, kset_1, e, z8], by simp [layW, kset_1, e, z9], by simp [layW, kset_1, e, z10]⟩
theorem layW_peq {c : Nat} {w v : kW} {a b d g : Int32} (h : mKp c w v) (hu : ∀ k, k < c + 1 → bt (v.1 0 20) k = bt (w.1 0 20) k) : PEq (c + 1) (layW w c a b d g) (layW v c a b d g) := by
  refine ⟨fun j p q => ?_, fun j k p q hk => ?_, h.2.2 5 (by decide) (by decide) (by decide), rfl, hu⟩
  · unfold layW
    rw [kset_row _ _ _ _ (by omega), kset_row _ _ _ _ (by omega), kset_row _ _ _ _ (by omega), kset_row _ _ _ _ (by omega), kset_row _ _ _ _ (by omega), kset_row _ _ _ _ (by omega), kset_row _ _ _ _ (by omega), kset_row _ _ _ _ (by omega), kset_row _ _ _ _ (by omega), kset_row _ _ _ _ (by omega)]
    exact h.1 j (by omega) (by omega)
  · unfold layW
    by_cases e : k = c
    · subst e
      rcases (show j = 11 ∨ j = 12 ∨ j = 13 ∨ j = 14 by omega) with rfl | rfl | rfl | rfl <;> simp [kset_1]
    · refine kset_cg (kset_cg (kset_cg (kset_cg (kset_cg (h.2.1 j k p q (by omega))))))
def prov (n c : Nat) (w : kW) (p o : Int32) (d a b g : Nat) : Prop := dMt (mGo n (c + 1) (layW w c (nI a) (nI b) (nI d) (nI g)) 60) p o (nI d)
theorem lay_back {n c : Nat} {w v u : kW} {a b d g : Int32} (h : mKp c w v) (hI : w.1 0 15 = nI c) (hk : sKeep (layW v c a b d g) u) : mKp c w (kset u 0 15 (nI c)) := by
  refine ⟨fun j p q => ?_, fun j k p q hk2 => ?_, fun j p q r => ?_⟩
  · rw [kset_row _ _ _ _ p, hk.1 j p (by omega)]
    unfold layW
    rw [kset_row _ _ _ _ p, kset_row _ _ _ _ (by omega), kset_row _ _ _ _ (by omega), kset_row _ _ _ _ (by omega), kset_row _ _ _ _ (by omega)]
    exact h.1 j p q
  · rw [kset_row _ _ _ _ (by omega), hk.1 j (by omega) (by omega)]
    unfold layW
    rw [kset_ne _ _ (by omega), kset_ne _ _ (by omega), kset_ne _ _ (by omega), kset_ne _ _ (by omega), kset_ne _ _ (by omega)]
    exact h.2.1 j k p q hk2
  · by_cases e : j = 15
    · subst e; rw [kset_eq, hI]
    · rw [kset_ne _ _ (Or.inr e), hk.2.1 j p q r]
      unfold layW
      rw [kset_ne _ _ (Or.inr e), kset_ne _ _ (Or.inl (by decide)), kset_ne _ _ (Or.inl (by decide)), kset_ne _ _ (Or.inl (by decide)), kset_ne _ _ (Or.inl (by decide))]
      exact h.2.2 j p q r

set_option maxRecDepth 100000 in
set_option maxHeartbeats 1000000 in
theorem s_X8_doesProvoke {v : kW} {n c a b d g : Nat} {p o : Int32} (hP : Pn n v) (hI : Ins n c v) (hc : c ≤ 8) (ha : a < n) (hb : b < n) (hab : a ≠ b) (hd : d < 30) (hg : 1 ≤ g) (hg9 : g ≤ 9) : Spec shM yX8_doesProvoke cX8_doesProvoke 7 (some .boolean) 6 146 [.ref 0, .int (nI a), .int (nI b), .int (nI g), .int p, .int o, .int (nI d)] v (fun r w' => kset (mGo n (c + 1) (layW v c (nI a) (nI b) (nI d) (nI g)) 60) 0 15 (nI c) = w' ∧ ((r = some (.int 1) ∧ dMt (mGo n (c + 1) (layW v c (nI a) (nI b) (nI d) (nI g)) 60) p o (nI d)) ∨ (r = some (.int 0) ∧ ¬ dMt (mGo n (c + 1) (layW v c (nI a) (nI b) (nI d) (nI g)) 60) p o (nI d)))) := by
  have hI2 := layW_ins hI hc ha hb hab hd hg hg9
  obtain ⟨m, hm, hm2⟩ := met_lt (k := 0) (mGo_inv (layW_pn hP) hI2 (Nat.le_refl 60)) (by omega)
  refine k_enter pn_X8 (Nat.le_of_ble_eq_true rfl) ?_
  refine b_aload_n dX8_doesProvoke_0 rfl ?_
  refine b_aload_n dX8_doesProvoke_1 rfl ?_
  refine b_geti dX8_doesProvoke_2 gf_X8_132 rfl rfl ?_
  refine b_topi (y := nI c) hI.1 ?_
  refine b_iload_n dX8_doesProvoke_5 rfl ?_
  refine b_iload_n dX8_doesProvoke_6 rfl ?_
  refine b_iload dX8_doesProvoke_7 rfl ?_
  refine b_iload_n dX8_doesProvoke_9 rfl ?_
  refine b_callV5 dX8_doesProvoke_10 lk_X8_151 rfl rfl rfl ⟨Nat.le_of_ble_eq_true rfl, Nat.le_of_ble_eq_true rfl⟩ (Nat.le_of_ble_eq_true rfl) (s_X8_lay (k := c) (by omega)) (fun r w10 h10 => ?_)
  obtain ⟨rfl, rfl⟩ := h10
  refine b_aload_n dX8_doesProvoke_13 rfl ?_
  refine b_dup dX8_doesProvoke_14 rfl ?_
  refine b_geti dX8_doesProvoke_15 gf_X8_132 rfl rfl ?_
  refine b_topi (y := nI c) hI.1 ?_
  refine b_iconst (v := 1) dX8_doesProvoke_18 (by decide) ?_
  refine b_iadd dX8_doesProvoke_19 ?_
  refine b_topi (y := nI (c + 1)) (nI_1 c) ?_
  refine b_puti dX8_doesProvoke_20 gf_X8_132 gs_X8_15 rfl rfl ?_
  refine b_aload_n dX8_doesProvoke_23 rfl ?_
  refine b_bipush (v := 60) dX8_doesProvoke_24 (by decide) ?_
  refine b_callV1 dX8_doesProvoke_26 lk_X8_198 rfl rfl rfl ⟨Nat.le_of_ble_eq_true rfl, Nat.le_of_ble_eq_true rfl⟩ (Nat.le_of_ble_eq_true rfl) (s_X8_goAhead (w := layW v c (nI a) (nI b) (nI d) (nI g)) (D := 60) (layW_pn hP) hI2 (by omega)) (fun r w26 h26 => ?_)
  obtain ⟨rfl, rfl⟩ := h26
  refine b_aload_n dX8_doesProvoke_29 rfl ?_
  refine b_dup dX8_doesProvoke_30 rfl ?_
  refine b_geti dX8_doesProvoke_31 gf_X8_132 rfl rfl ?_
  refine b_topi (y := nI (c + 1)) ((mGo_keep (layW_pn hP) hI2 (Nat.le_refl 60)).2.1 15 (by decide) (by decide) (by decide)) ?_
  refine b_iconst (v := 1) dX8_doesProvoke_34 (by decide) ?_
  refine b_isub dX8_doesProvoke_35 ?_
  refine b_topi (y := nI c) nI_predS ?_
  refine b_puti dX8_doesProvoke_36 gf_X8_132 gs_X8_15 rfl rfl ?_
  refine b_aload_n dX8_doesProvoke_39 rfl ?_
  refine b_iload dX8_doesProvoke_40 rfl ?_
  refine b_iload dX8_doesProvoke_42 rfl ?_
  refine b_iload dX8_doesProvoke_44 rfl ?_
  refine b_callV3 dX8_doesProvoke_46 lk_X8_208 rfl rfl rfl ⟨Nat.le_of_ble_eq_true rfl, Nat.le_of_ble_eq_true rfl⟩ (Nat.le_of_ble_eq_true rfl) (s_X8_didMeet (w := kset (mGo n (c + 1) (layW v c (nI a) (nI b) (nI d) (nI g)) 60) 0 15 (nI c)) (m := m) ((kset_ne _ _ (Or.inr (by decide))).trans hm) hm2) (fun r w46 h46 => ?_)
  obtain ⟨rfl, h46⟩ := h46
  rcases h46 with ⟨rfl, h46⟩ | ⟨rfl, h46⟩
  · exact b_zret (Or.inr rfl) dX8_doesProvoke_49 rfl ⟨rfl, Or.inl ⟨rfl, dMt_k15 h46⟩⟩
  · exact b_zret (Or.inl rfl) dX8_doesProvoke_49 rfl ⟨rfl, Or.inr ⟨rfl, dMt_k15' h46⟩⟩

def valid (n a b g : Nat) : Prop := a < n ∧ b < n ∧ a ≠ b ∧ 1 ≤ g ∧ g ≤ 9
def noneBelow (n c : Nat) (w : kW) (p o : Int32) (d t : Nat) : Prop := ∀ a b g, valid n a b g → 100 * a + 10 * b + g < t → ¬ prov n c w p o d a b g
def PProv (n c : Nat) (w : kW) (p o : Int32) (d : Nat) (r : Option Value) : Prop := (r = some (.int (-9)) ∧ noneBelow n c w p o d 1000) ∨ ∃ a b g, valid n a b g ∧ r = some (.int (nI (100 * a + 10 * b + g))) ∧ prov n c w p o d a b g ∧ noneBelow n c w p o d (100 * a + 10 * b + g)
def PA_prov (n c : Nat) (w : kW) (p o d : Int32) (r : Option Value) : Prop := if isPr w p ∧ isPr w o ∧ ¬ p = o then (if 0 ≤ d ∧ d ≤ 29 then PProv n c w p o (dn d) r else r = some (.int (-2))) else r = some (.int (-1))
theorem noneBelow.up {n c : Nat} {w : kW} {p o : Int32} {d t : Nat} {a b g : Nat} (h : noneBelow n c w p o d (100 * a + 10 * b + g)) (hn : n ≤ 6) (hb : b < 6) (hg : g ≤ 9) (h1 : ¬ prov n c w p o d a b g) : noneBelow n c w p o d (100 * a + 10 * b + (g + 1)) := by
  intro a' b' g' hv ht
  by_cases e : 100 * a' + 10 * b' + g' = 100 * a + 10 * b + g
  · obtain ⟨v1, v2, v3, v4, v5⟩ := hv
    obtain ⟨rfl, rfl, rfl⟩ : a' = a ∧ b' = b ∧ g' = g := by omega
    exact h1
  · exact h a' b' g' hv (by omega)
theorem noneBelow.skip {n c : Nat} {w : kW} {p o : Int32} {d t t' : Nat} (h : noneBelow n c w p o d t) (hs : ∀ a b g, valid n a b g → 100 * a + 10 * b + g < t' → 100 * a + 10 * b + g < t) : noneBelow n c w p o d t' := fun a b g hv ht => h a b g hv (hs a b g hv ht)

set_option maxRecDepth 100000 in
set_option maxHeartbeats 1000000 in
theorem s_X8_provoked_l3 {w : kW} {n c qq : Nat} (hM : MInv n c qq w) {p o : Int32} {a b d : Nat} (ha : a < n) (hb : b < n) (hd : d < 30) (hcont : ∀ v, mKp c w v → noneBelow n c w p o d (100 * a + 10 * b + 10) → BS shM RX8 cX8_provoked 7 (some .int) 7 172 (fun r w' => PProv n c w p o d r ∧ mKp c w w') 114 [(0, .ref 0), (1, .int p), (2, .int o), (3, .int (nI d)), (4, .int (nI a)), (5, .int (nI b))] [] v) : ∀ q k, k + q = 10 → 1 ≤ k → ∀ v : kW, mKp c w v → noneBelow n c w p o d (100 * a + 10 * b + k) → BS shM RX8 cX8_provoked 7 (some .int) 7 172 (fun r w' => PProv n c w p o d r ∧ mKp c w w') 63 [(0, .ref 0), (1, .int p), (2, .int o), (3, .int (nI d)), (4, .int (nI a)), (5, .int (nI b)), (6, .int (nI k))] [] v := by
  intro q
  obtain ⟨hP, hI, hc8, hR, hu, hS⟩ := id hM
  have hn := hP.le
  induction q with
  | zero =>
    intro k hk hk1 v hv hno
    refine b_iload dX8_provoked_63 rfl ?_
    refine b_bipush (v := 9) dX8_provoked_65 (by decide) ?_
    refine b_icmp_gt (tgt := 114) dX8_provoked_67 (by decide) (fun h67 => ?_) (fun h67 => ?_)
    · refine b_sub [0, 1, 2, 3, 4, 5] rfl ?_
      exact hcont v hv (hno.skip (fun a1 b1 g1 hv ht => by obtain ⟨v1, v2, v3, v4, v5⟩ := hv; omega))
    · exact absurd (nI_lt (a := 9) (b := k) (by omega) (by omega)) h67
  | succ q ih =>
    intro k hk hk1 v hv hno
    refine b_iload dX8_provoked_63 rfl ?_
    refine b_bipush (v := 9) dX8_provoked_65 (by decide) ?_
    refine b_icmp_gt (tgt := 114) dX8_provoked_67 (by decide) (fun h67 => ?_) (fun h67 => ?_)
    · exact absurd h67 (nI_nlt (b := k) (a := 9) (by omega) (by omega))
    · refine b_iload dX8_provoked_70 rfl ?_
      refine b_iload dX8_provoked_72 rfl ?_
      refine b_icmp_eq (tgt := 114) dX8_provoked_74 (by decide) (fun h74 => ?_) (fun h74 => ?_)
      · refine b_sub [0, 1, 2, 3, 4, 5] rfl ?_
        have hab9 := nI_inj (by omega) (by omega) h74
        exact hcont v hv (hno.skip (fun a1 b1 g1 hv ht => by obtain ⟨v1, v2, v3, v4, v5⟩ := hv; omega))
      · have hab : a ≠ b := fun e => h74 (by rw [e])
        have hI2 := layW_ins (hv.ins hI) hc8 ha hb hab hd hk1 (show k ≤ 9 by omega)
        have hk9 := mGo_keep (layW_pn (hv.pn hP)) hI2 (Nat.le_refl 60)
        have hsq := mGo_sq (layW_pn hP) (layW_ins hI hc8 ha hb hab hd hk1 (show k ≤ 9 by omega)) (layW_peq hv (fun _ _ => by rw [hv.2.2 20 (by decide) (by decide) (by decide)])) (Nat.le_refl 60)
        refine b_aload_n dX8_provoked_77 rfl ?_
        refine b_iload dX8_provoked_78 rfl ?_
        refine b_iload dX8_provoked_80 rfl ?_
        refine b_iload dX8_provoked_82 rfl ?_
        refine b_iload_n dX8_provoked_84 rfl ?_
        refine b_iload_n dX8_provoked_85 rfl ?_
        refine b_iload_n dX8_provoked_86 rfl ?_
        refine b_callV6 dX8_provoked_87 lk_X8_211 rfl rfl rfl ⟨Nat.le_of_ble_eq_true rfl, Nat.le_of_ble_eq_true rfl⟩ (Nat.le_of_ble_eq_true rfl) (s_X8_doesProvoke (hv.pn hP) (hv.ins hI) hc8 ha hb hab hd (by omega) (by omega)) (fun r w87 h87 => ?_)
        obtain ⟨rfl, h87⟩ := h87
        rcases h87 with ⟨rfl, h87⟩ | ⟨rfl, h87⟩
        · refine b_if_eq (tgt := 108) dX8_provoked_90 (by decide) (fun h90 => absurd h90 (by decide)) (fun h90 => ?_)
          have e100 : 100 * nI a + 10 * nI b + nI k = nI (100 * a + 10 * b + k) := by
            rw [show (100 : Int32) = nI 100 from rfl, show (10 : Int32) = nI 10 from rfl, nI_mul, nI_mul, nI_add, nI_add]
          refine b_bipush (v := 100) dX8_provoked_93 (by decide) ?_
          refine b_iload dX8_provoked_95 rfl ?_
          refine b_imul dX8_provoked_97 ?_
          refine b_bipush (v := 10) dX8_provoked_98 (by decide) ?_
          refine b_iload dX8_provoked_100 rfl ?_
          refine b_imul dX8_provoked_102 ?_
          refine b_iadd dX8_provoked_103 ?_
          refine b_iload dX8_provoked_104 rfl ?_
          refine b_iadd dX8_provoked_106 ?_
          refine b_topi (y := nI (100 * a + 10 * b + k)) e100 ?_
          exact b_iret dX8_provoked_107 rfl ⟨Or.inr ⟨a, b, k, ⟨ha, hb, hab, by omega, by omega⟩, rfl, hsq.dmq.mp h87, hno⟩, lay_back (n := n) hv hI.1 hk9⟩
        · refine b_if_eq (tgt := 108) dX8_provoked_90 (by decide) (fun h90 => ?_) (fun h90 => absurd h90 (by decide))
          refine b_iinc dX8_provoked_108 rfl (nI_inc k) (by decide) ?_
          refine b_goto (tgt := 63) dX8_provoked_111 (by decide) ?_
          refine b_sub [1, 2, 3, 4, 5, 6, 0] rfl ?_
          exact ih (k + 1) (by omega) (by omega) _ (lay_back (n := n) hv hI.1 hk9) (hno.up (t := 0) hn (by omega) (by omega) (fun z => h87 (hsq.dmq.mpr z)))

set_option maxRecDepth 100000 in
set_option maxHeartbeats 1000000 in
theorem s_X8_provoked_l2 {w : kW} {n c qq : Nat} (hM : MInv n c qq w) {p o : Int32} {a d : Nat} (ha : a < n) (hd : d < 30) (hcont : ∀ v, mKp c w v → noneBelow n c w p o d (100 * a + 100) → BS shM RX8 cX8_provoked 7 (some .int) 7 172 (fun r w' => PProv n c w p o d r ∧ mKp c w w') 120 [(0, .ref 0), (1, .int p), (2, .int o), (3, .int (nI d)), (4, .int (nI a))] [] v) : ∀ q k, k + q = n → ∀ v : kW, mKp c w v → noneBelow n c w p o d (100 * a + 10 * k) → BS shM RX8 cX8_provoked 7 (some .int) 7 172 (fun r w' => PProv n c w p o d r ∧ mKp c w w') 51 [(0, .ref 0), (1, .int p), (2, .int o), (3, .int (nI d)), (4, .int (nI a)), (5, .int (nI k))] [] v := by
  intro q
  obtain ⟨hP, hI, hc8, hR, hu, hS⟩ := id hM
  have hn := hP.le
  induction q with
  | zero =>
    intro k hk v hv hno
    refine b_iload dX8_provoked_51 rfl ?_
    refine b_aload_n dX8_provoked_53 rfl ?_
    refine b_geti dX8_provoked_54 gf_X8_105 rfl rfl ?_
    refine b_topi (y := nI n) ((hv.2.2 5 (by decide) (by decide) (by decide)).trans hP.1) ?_
    refine b_icmp_ge (tgt := 120) dX8_provoked_57 (by decide) (fun h57 => ?_) (fun h57 => ?_)
    · refine b_sub [0, 1, 2, 3, 4] rfl ?_
      exact hcont v hv (hno.skip (fun a1 b1 g1 hv ht => by obtain ⟨v1, v2, v3, v4, v5⟩ := hv; omega))
    · exact absurd (nI_le (by omega) (by omega)) h57
  | succ q ih =>
    intro k hk v hv hno
    refine b_iload dX8_provoked_51 rfl ?_
    refine b_aload_n dX8_provoked_53 rfl ?_
    refine b_geti dX8_provoked_54 gf_X8_105 rfl rfl ?_
    refine b_topi (y := nI n) ((hv.2.2 5 (by decide) (by decide) (by decide)).trans hP.1) ?_
    refine b_icmp_ge (tgt := 120) dX8_provoked_57 (by decide) (fun h57 => ?_) (fun h57 => ?_)
    · exact absurd h57 (nI_ge (by omega) (by omega))
    · refine b_iconst (v := 1) dX8_provoked_60 (by decide) ?_
      refine b_istore dX8_provoked_61 (by decide) ?_
      refine b_sub [1, 2, 3, 4, 5, 6, 0] rfl ?_
      refine s_X8_provoked_l3 hM ha (show k < n by omega) hd (fun v1 hv1 hno1 => ?_) 9 1 (by omega) (by omega) v hv (hno.skip (fun a1 b1 g1 hv ht => by obtain ⟨v1, v2, v3, v4, v5⟩ := hv; omega))
      refine b_iinc dX8_provoked_114 rfl (nI_inc k) (by decide) ?_
      refine b_goto (tgt := 51) dX8_provoked_117 (by decide) ?_
      refine b_sub [1, 2, 3, 4, 5, 0] rfl ?_
      exact ih (k + 1) (by omega) v1 hv1 (hno1.skip (fun a1 b1 g1 hv ht => by obtain ⟨v1, v2, v3, v4, v5⟩ := hv; omega))

set_option maxRecDepth 100000 in
set_option maxHeartbeats 1000000 in
theorem s_X8_provoked_l1 {w : kW} {n c qq : Nat} (hM : MInv n c qq w) {p o : Int32} {d : Nat} (hd : d < 30) : ∀ q k, k + q = n → ∀ v : kW, mKp c w v → noneBelow n c w p o d (100 * k) → BS shM RX8 cX8_provoked 7 (some .int) 7 172 (fun r w' => PProv n c w p o d r ∧ mKp c w w') 39 [(0, .ref 0), (1, .int p), (2, .int o), (3, .int (nI d)), (4, .int (nI k))] [] v := by
  intro q
  obtain ⟨hP, hI, hc8, hR, hu, hS⟩ := id hM
  have hn := hP.le
  induction q with
  | zero =>
    intro k hk v hv hno
    refine b_iload dX8_provoked_39 rfl ?_
    refine b_aload_n dX8_provoked_41 rfl ?_
    refine b_geti dX8_provoked_42 gf_X8_105 rfl rfl ?_
    refine b_topi (y := nI n) ((hv.2.2 5 (by decide) (by decide) (by decide)).trans hP.1) ?_
    refine b_icmp_ge (tgt := 126) dX8_provoked_45 (by decide) (fun h45 => ?_) (fun h45 => ?_)
    · refine b_bipush (v := (-9)) dX8_provoked_126 (by decide) ?_
      exact b_iret dX8_provoked_128 rfl ⟨Or.inl ⟨rfl, hno.skip (fun a1 b1 g1 hv ht => by obtain ⟨v1, v2, v3, v4, v5⟩ := hv; omega)⟩, hv⟩
    · exact absurd (nI_le (by omega) (by omega)) h45
  | succ q ih =>
    intro k hk v hv hno
    refine b_iload dX8_provoked_39 rfl ?_
    refine b_aload_n dX8_provoked_41 rfl ?_
    refine b_geti dX8_provoked_42 gf_X8_105 rfl rfl ?_
    refine b_topi (y := nI n) ((hv.2.2 5 (by decide) (by decide) (by decide)).trans hP.1) ?_
    refine b_icmp_ge (tgt := 126) dX8_provoked_45 (by decide) (fun h45 => ?_) (fun h45 => ?_)
    · exact absurd h45 (nI_ge (by omega) (by omega))
    · refine b_iconst (v := 0) dX8_provoked_48 (by decide) ?_
      refine b_istore dX8_provoked_49 (by decide) ?_
      refine b_sub [1, 2, 3, 4, 5, 0] rfl ?_
      refine s_X8_provoked_l2 hM (show k < n by omega) hd (fun v1 hv1 hno1 => ?_) n 0 (by omega) v hv (hno.skip (fun a1 b1 g1 hv ht => by obtain ⟨v1, v2, v3, v4, v5⟩ := hv; omega))
      refine b_iinc dX8_provoked_120 rfl (nI_inc k) (by decide) ?_
      refine b_goto (tgt := 39) dX8_provoked_123 (by decide) ?_
      refine b_sub [1, 2, 3, 4, 0] rfl ?_
      exact ih (k + 1) (by omega) v1 hv1 (hno1.skip (fun a1 b1 g1 hv ht => by obtain ⟨v1, v2, v3, v4, v5⟩ := hv; omega))

theorem day_of {x : Int32} (h : 0 ≤ x ∧ x ≤ 29) : ∃ D, D < 30 ∧ x = nI D := by
  obtain ⟨j, hj, e⟩ := nI_of2 (n := 29) (M := 29) (by decide) (Int32.not_lt.mpr h.1) h.2
  exact ⟨j, by omega, e⟩

set_option maxRecDepth 100000 in
set_option maxHeartbeats 1000000 in
theorem s_X8_provoked {w : kW} {n c qq : Nat} (hM : MInv n c qq w) {p o d : Int32} : Spec shM yX8_provoked cX8_provoked 7 (some .int) 7 172 [.ref 0, .int p, .int o, .int d] w (fun r w' => PA_prov n c w p o d r ∧ mKp c w w') := by
  obtain ⟨hP, hI, hc8, hR, hu, hS⟩ := id hM
  have hn := hP.le
  refine k_enter pn_X8 (Nat.le_of_ble_eq_true rfl) ?_
  refine b_aload_n dX8_provoked_0 rfl ?_
  refine b_iload_n dX8_provoked_1 rfl ?_
  refine b_callV1 dX8_provoked_2 lk_X8_145 rfl rfl rfl ⟨Nat.le_of_ble_eq_true rfl, Nat.le_of_ble_eq_true rfl⟩ (Nat.le_of_ble_eq_true rfl) (s_X8_isPerson) (fun r w2 h2 => ?_)
  obtain ⟨rfl, h2⟩ := h2
  rcases h2 with ⟨rfl, h2⟩ | ⟨rfl, h2⟩
  · refine b_if_eq (tgt := 21) dX8_provoked_5 (by decide) (fun h5 => absurd h5 (by decide)) (fun h5 => ?_)
    refine b_aload_n dX8_provoked_8 rfl ?_
    refine b_iload_n dX8_provoked_9 rfl ?_
    refine b_callV1 dX8_provoked_10 lk_X8_145 rfl rfl rfl ⟨Nat.le_of_ble_eq_true rfl, Nat.le_of_ble_eq_true rfl⟩ (Nat.le_of_ble_eq_true rfl) (s_X8_isPerson) (fun r w10 h10 => ?_)
    obtain ⟨rfl, h10⟩ := h10
    rcases h10 with ⟨rfl, h10⟩ | ⟨rfl, h10⟩
    · refine b_if_eq (tgt := 21) dX8_provoked_13 (by decide) (fun h13 => absurd h13 (by decide)) (fun h13 => ?_)
      refine b_iload_n dX8_provoked_16 rfl ?_
      refine b_iload_n dX8_provoked_17 rfl ?_
      refine b_icmp_ne (tgt := 23) dX8_provoked_18 (by decide) (fun h18 => ?_) (fun h18 => ?_)
      · have hq2 : isPr w p ∧ isPr w o ∧ ¬ p = o := ⟨h2, h10, h18⟩
        refine b_iload_n dX8_provoked_23 rfl ?_
        refine b_iconst (v := 0) dX8_provoked_24 (by decide) ?_
        refine b_bipush (v := 29) dX8_provoked_25 (by decide) ?_
        refine b_callS3 dX8_provoked_27 lk_X8_101 ⟨Nat.le_of_ble_eq_true rfl, Nat.le_of_ble_eq_true rfl⟩ (Nat.le_of_ble_eq_true rfl) (s_X8_within) (fun r w27 h27 => ?_)
        obtain ⟨rfl, h27⟩ := h27
        rcases h27 with ⟨rfl, h27⟩ | ⟨rfl, h27⟩
        · refine b_if_ne (tgt := 36) dX8_provoked_30 (by decide) (fun h30 => ?_) (fun h30 => absurd h30 (by decide))
          have hd9 := h27
          obtain ⟨dd, hd, rfl⟩ := day_of h27
          refine b_iconst (v := 0) dX8_provoked_36 (by decide) ?_
          refine b_istore dX8_provoked_37 (by decide) ?_
          refine b_sub [1, 2, 3, 4, 0] rfl ?_
          refine (s_X8_provoked_l1 hM hd n 0 (by omega) w mKp.rf (fun a b g hv ht => absurd ht (by omega))).mono (fun r w1 h => ⟨?_, h.2⟩)
          rw [PA_prov, if_pos hq2, if_pos hd9, dn_nI (by omega)]
          exact h.1
        · refine b_if_ne (tgt := 36) dX8_provoked_30 (by decide) (fun h30 => absurd h30 (by decide)) (fun h30 => ?_)
          refine b_bipush (v := (-2)) dX8_provoked_33 (by decide) ?_
          exact b_iret dX8_provoked_35 rfl ⟨by rw [PA_prov, if_pos hq2, if_neg h27], mKp.rf⟩
      · refine b_iconst (v := (-1)) dX8_provoked_21 (by decide) ?_
        exact b_iret dX8_provoked_22 rfl ⟨by rw [PA_prov, if_neg (fun z => z.2.2 h18)], mKp.rf⟩
    · refine b_if_eq (tgt := 21) dX8_provoked_13 (by decide) (fun h13 => ?_) (fun h13 => absurd h13 (by decide))
      refine b_iconst (v := (-1)) dX8_provoked_21 (by decide) ?_
      exact b_iret dX8_provoked_22 rfl ⟨by rw [PA_prov, if_neg (fun z => h10 z.2.1)], mKp.rf⟩
  · refine b_if_eq (tgt := 21) dX8_provoked_5 (by decide) (fun h5 => ?_) (fun h5 => absurd h5 (by decide))
    refine b_iconst (v := (-1)) dX8_provoked_21 (by decide) ?_
    exact b_iret dX8_provoked_22 rfl ⟨by rw [PA_prov, if_neg (fun z => h2 z.1)], mKp.rf⟩
