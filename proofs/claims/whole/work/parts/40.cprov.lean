def cKt (c : Nat) (w v : kW) : Prop := (∀ j, j < 6 ∨ (10 < j ∧ j < 15) ∨ 29 < j → v.1 j = w.1 j) ∧ v.1 6 0 = w.1 6 0 ∧ ∀ j k, 7 ≤ j → j ≤ 10 → k < c → v.1 j k = w.1 j k
theorem cKt.rf {c : Nat} {w : kW} : cKt c w w := ⟨fun _ _ => rfl, rfl, fun _ _ _ _ _ => rfl⟩
theorem cKt.of {c : Nat} {w v : kW} (h : cK2 w v) : cKt c w v := ⟨fun j a => h j (by omega), by rw [h 6 (by omega)], fun j k a b _ => by rw [h j (by omega)]⟩
theorem Rel.kt {n c q : Nat} {w w' g : kW} (h : Rel n c q w g) (hk : cKt c w w') : Rel n c q w' g := by
  obtain ⟨h1, ⟨h2, h3, h4⟩, ⟨h5, h6⟩, h7, ⟨h8, h9⟩, h10, h11, h12⟩ := h
  obtain ⟨e, e6, er⟩ := hk
  refine ⟨h1, ⟨h2, ?_, ?_⟩, ⟨?_, ?_⟩, ?_, ⟨?_, ?_⟩, ?_, ?_, ?_⟩
  · rw [e 1 (by decide)]; exact h3
  · intro p hp; rw [e 2 (by decide), e 3 (by decide), e 4 (by decide), e 5 (by decide)]; exact h4 p hp
  · rw [e6]; exact h5
  · intro k hk; rw [er 7 k (by decide) (by decide) hk, er 8 k (by decide) (by decide) hk, er 9 k (by decide) (by decide) hk, er 10 k (by decide) (by decide) hk]; exact h6 k hk
  · intro p hp; rw [e 1 (by decide)]; exact h7 p hp
  · rw [e 11 (by decide)]; exact h8
  · intro k hk; rw [e 12 (by decide), e 13 (by decide), e 14 (by decide)]; exact h9 k hk
  · intro k hk
    unfold RS1
    rw [e (31 + k) (by omega), e (35 + k) (by omega)]
    exact h10 k hk
  · rw [e 0 (by decide)]; exact h11
  · rw [e 0 (by decide)]; exact h12
def tryW (v : kW) (c : Nat) (a b d e : Int32) : kW := kset (kset (kset (kset (kset v 7 c a) 8 c b) 9 c d) 10 c e) 6 0 (nI c + 1)
theorem try_ri {c : Nat} {v g : kW} {a b d e : Int32} (h : RI c v g) : RI (c + 1) (tryW v c a b d e) (layW g c a b d e) := by
  refine ⟨nI_1 c, fun k hk => ?_⟩
  unfold tryW layW
  by_cases q : k = c
  · subst q
    refine ⟨?_, ?_, ?_, ?_⟩ <;> simp [kset_1]
  · obtain ⟨z1, z2, z3, z4⟩ := h.2 k (by omega)
    refine ⟨?_, ?_, ?_, ?_⟩ <;> simp [kset_1, q, z1, z2, z3, z4]
theorem try_back {c : Nat} {w v u : kW} {a b d e : Int32} (h : cKt c w v) (hc : v.1 6 0 = nI c) (hk : cK2 (tryW v c a b d e) u) : cKt c w (kset u 6 0 (nI c)) := by
  refine ⟨fun j hj => ?_, ?_, fun j k p q hk2 => ?_⟩
  · rw [kset_row _ _ _ _ (by omega), hk j (by omega)]
    unfold tryW
    rw [kset_row _ _ _ _ (by omega), kset_row _ _ _ _ (by omega), kset_row _ _ _ _ (by omega), kset_row _ _ _ _ (by omega), kset_row _ _ _ _ (by omega)]
    exact h.1 j hj
  · rw [kset_eq, ← hc]; exact h.2.1
  · rw [kset_row _ _ _ _ (by omega), hk j (by omega)]
    unfold tryW
    rw [kset_ne _ _ (by omega), kset_ne _ _ (by omega), kset_ne _ _ (by omega), kset_ne _ _ (by omega), kset_ne _ _ (by omega)]
    exact h.2.2 j k p q hk2
theorem LV.k6 {n : Nat} {w g : kW} {x : Int32} (h : LV n w g) : LV n (kset w 6 0 x) g := ⟨h.1, h.2.1.k (c := 6) (Or.inr (by decide)), h.2.2⟩
theorem s_liveT {n c q a b d e : Nat} {v g : kW} (h : Rel n c q v g) (ha : a < n) (hb : b < n) (hab : a ≠ b) (hd : d < 30) (h1 : 1 ≤ e) (h9 : e ≤ 9) : Spec shC yX4_live cX4_live 5 none 4 105 [.ref 15, .int (-1), .int (v.1 1 1), .int 59] (tryW v c (nI a) (nI b) (nI d) (nI e)) (fun r w' => r = none ∧ RD n (c + 1) 60 w' (mAhead n (c + 1) (layW g c (nI a) (nI b) (nI d) (nI e)) 60) ∧ cK2 (tryW v c (nI a) (nI b) (nI d) (nI e)) w') :=
  s_X4_live (g := layW g c (nI a) (nI b) (nI d) (nI e)) (c := c + 1) (D := 60) ⟨layW_pn h.1.1, h.2.1.2.1, h.2.1.2.2⟩ (layW_ins h.1.2.1 h.1.2.2.1 ha hb hab hd h1 h9) (try_ri h.2.2.1) (by omega) (by decide) (fun k hk => by
    have := h.1.2.2.1
    rw [b_m1 k (by omega), show (layW g c (nI a) (nI b) (nI d) (nI e)).1 0 20 = 0 from h.1.2.2.2.2.1, b_0]; simp) h.2.2.2.1

set_option maxRecDepth 100000 in
set_option maxHeartbeats 1000000 in
theorem s_X7_provokingDegree_lp {w g : kW} {n c qq : Nat} (hh : Rel n c qq w g) {a b d p o : Nat} (ha : a < n) (hb : b < n) (hab : a ≠ b) (hd : d < 30) (hp : p < n) (ho : o < n) (hpo : p ≠ o) : ∀ q k, k + q = 10 → 1 ≤ k → ∀ v : kW, cKt c w v → noneBelow n c g (nI p) (nI o) d (100 * a + 10 * b + k) → BS shC RX7 cX7_provokingDegree 6 (some .int) 5 129 (fun r w' => cKt c w w' ∧ ((∃ e, 1 ≤ e ∧ e ≤ 9 ∧ r = some (.int (nI e)) ∧ prov n c g (nI p) (nI o) d a b e ∧ noneBelow n c g (nI p) (nI o) d (100 * a + 10 * b + e)) ∨ (r = some (.int 0) ∧ noneBelow n c g (nI p) (nI o) d (100 * a + 10 * b + 10)))) 3 [(0, .ref 0), (1, .int (nI a)), (2, .int (nI b)), (3, .int (nI d)), (4, .int (1 <<< (nI p &&& 31) ||| 1 <<< (nI o &&& 31))), (5, .int (nI k))] [] v := by
  intro q
  obtain ⟨hM, hRP, hRI, hRA, hRR, hRS, hRN⟩ := id hh
  obtain ⟨hP, hI, hc8, hRd, hu, hS⟩ := id hM
  have hn := hP.le
  induction q with
  | zero =>
    intro k hk h1k v hv hno
    have hv2 := hh.kt hv
    refine b_iload dX7_provokingDegree_3 rfl ?_
    refine b_bipush (v := 9) dX7_provokingDegree_5 (by decide) ?_
    refine b_icmp_gt (tgt := 77) dX7_provokingDegree_7 (by decide) (fun h7 => ?_) (fun h7 => ?_)
    · refine b_iconst (v := 0) dX7_provokingDegree_77 (by decide) ?_
      have e : k = 10 := by omega
      subst e
      exact b_iret dX7_provokingDegree_78 rfl ⟨hv, Or.inr ⟨rfl, hno⟩⟩
    · exact absurd (show nI k ≤ 9 from by rw [show k = 10 by omega] at h7 ⊢; exact Int32.not_lt.mp (fun z => absurd (nI_lt (a := 9) (b := 10) (by decide) (by decide)) (fun y => h7 (by decide)))) (by rw [show k = 10 by omega]; decide)
  | succ q ih =>
    intro k hk h1k v hv hno
    have hv2 := hh.kt hv
    refine b_iload dX7_provokingDegree_3 rfl ?_
    refine b_bipush (v := 9) dX7_provokingDegree_5 (by decide) ?_
    refine b_icmp_gt (tgt := 77) dX7_provokingDegree_7 (by decide) (fun h7 => ?_) (fun h7 => ?_)
    · exact absurd (show (9 : Int32) < nI k from h7) (Int32.not_lt.mpr (nI_le (b := 9) (by omega) (by decide)))
    · refine b_aload_n dX7_provokingDegree_10 rfl ?_
      refine b_getr dX7_provokingDegree_11 gf_X7_23 rfl rfl ?_
      refine b_iload_n dX7_provokingDegree_14 rfl ?_
      refine b_iload_n dX7_provokingDegree_15 rfl ?_
      refine b_iload_n dX7_provokingDegree_16 rfl ?_
      refine b_iload dX7_provokingDegree_17 rfl ?_
      refine b_callV4 dX7_provokingDegree_19 lk_X7_117 rfl rfl rfl ⟨Nat.le_of_ble_eq_true rfl, Nat.le_of_ble_eq_true rfl⟩ (Nat.le_of_ble_eq_true rfl) (s_X0_add_6 (m := c) hv2.2.2.1.1 (by omega)) (fun r w19 h19 => ?_)
      obtain ⟨rfl, rfl⟩ := h19
      refine b_wd (w' := tryW v c (nI a) (nI b) (nI d) (nI k)) rfl ?_
      refine b_aload_n dX7_provokingDegree_22 rfl ?_
      refine b_getr dX7_provokingDegree_23 gf_X7_39 rfl rfl ?_
      refine b_iconst (v := (-1)) dX7_provokingDegree_26 (by decide) ?_
      refine b_aload_n dX7_provokingDegree_27 rfl ?_
      refine b_getr dX7_provokingDegree_28 gf_X7_14 rfl rfl ?_
      refine b_geti dX7_provokingDegree_31 gf_X7_104 rfl rfl ?_
      refine b_topi (y := v.1 1 1) rfl ?_
      refine b_bipush (v := 59) dX7_provokingDegree_34 (by decide) ?_
      refine b_callV3 dX7_provokingDegree_36 lk_X7_131 rfl rfl rfl ⟨Nat.le_of_ble_eq_true rfl, Nat.le_of_ble_eq_true rfl⟩ (Nat.le_of_ble_eq_true rfl) (s_liveT (e := k) hv2 ha hb hab hd h1k (by omega)) (fun r w36 h36 => ?_)
      obtain ⟨rfl, hRD, hk⟩ := h36
      have hl := hRD.lv
      obtain ⟨m, hm, hm2⟩ := met_lt (k := 0) (mGo_inv (w := (layW g c (nI a) (nI b) (nI d) (nI k))) (layW_pn hP) (layW_ins hI hc8 ha hb hab hd h1k (by omega)) (Nat.le_refl 60)) (by omega)
      refine b_aload_n dX7_provokingDegree_39 rfl ?_
      refine b_getr dX7_provokingDegree_40 gf_X7_23 rfl rfl ?_
      refine b_dup dX7_provokingDegree_43 rfl ?_
      refine b_geti dX7_provokingDegree_44 gf_X7_80 rfl rfl ?_
      refine b_topi (y := nI (c + 1)) (by rw [hk 6 (by decide)]; exact nI_1 c) ?_
      refine b_iconst (v := 1) dX7_provokingDegree_47 (by decide) ?_
      refine b_isub dX7_provokingDegree_48 ?_
      refine b_topi (y := nI c) nI_predS ?_
      refine b_puti dX7_provokingDegree_49 gf_X7_80 gs_X0_0 rfl rfl ?_
      refine b_aload_n dX7_provokingDegree_52 rfl ?_
      refine b_getr dX7_provokingDegree_53 gf_X7_39 rfl rfl ?_
      refine b_getr dX7_provokingDegree_56 gf_X7_135 rfl rfl ?_
      refine b_iload dX7_provokingDegree_59 rfl ?_
      refine b_iload_n dX7_provokingDegree_61 rfl ?_
      refine b_callV2 dX7_provokingDegree_62 lk_X7_162 rfl rfl rfl ⟨Nat.le_of_ble_eq_true rfl, Nat.le_of_ble_eq_true rfl⟩ (Nat.le_of_ble_eq_true rfl) (s_X1_pairMetBehind (p := p) (o := o) (g := mGo n (c + 1) (layW g c (nI a) (nI b) (nI d) (nI k)) 60) hl.k6 (mGo_mt (layW_pn hP) (layW_ins hI hc8 ha hb hab hd h1k (by omega)) (Nat.le_refl 60)) hm hm2 (by omega) (by omega) hpo) (fun r w62 h62 => ?_)
      obtain ⟨rfl, h62⟩ := h62
      rcases h62 with ⟨rfl, h62⟩ | ⟨rfl, h62⟩
      · refine b_if_eq (tgt := 71) dX7_provokingDegree_65 (by decide) (fun h65 => absurd h65 (by decide)) (fun h65 => ?_)
        refine b_iload dX7_provokingDegree_68 rfl ?_
        exact b_iret dX7_provokingDegree_70 rfl ⟨try_back hv hv2.2.2.1.1 hk, Or.inl ⟨k, h1k, by omega, rfl, h62, hno⟩⟩
      · refine b_if_eq (tgt := 71) dX7_provokingDegree_65 (by decide) (fun h65 => ?_) (fun h65 => absurd h65 (by decide))
        refine b_iinc dX7_provokingDegree_71 rfl (nI_inc k) (by decide) ?_
        refine b_goto (tgt := 3) dX7_provokingDegree_74 (by decide) ?_
        refine b_sub [1, 2, 3, 4, 5, 0] rfl ?_
        exact ih (k + 1) (by omega) (by omega) _ (try_back hv hv2.2.2.1.1 hk) (hno.up (t := 0) hn (by omega) (by omega) h62)

set_option maxRecDepth 100000 in
set_option maxHeartbeats 1000000 in
theorem s_X7_provokingDegree {w g : kW} {n c qq : Nat} (hh : Rel n c qq w g) {a b d p o : Nat} (ha : a < n) (hb : b < n) (hab : a ≠ b) (hd : d < 30) (hp : p < n) (ho : o < n) (hpo : p ≠ o) {v : kW} (hv : cKt c w v) (hno : noneBelow n c g (nI p) (nI o) d (100 * a + 10 * b)) : Spec shC yX7_provokingDegree cX7_provokingDegree 6 (some .int) 5 129 [.ref 0, .int (nI a), .int (nI b), .int (nI d), .int (1 <<< (nI p &&& 31) ||| 1 <<< (nI o &&& 31))] v (fun r w' => cKt c w w' ∧ ((∃ e, 1 ≤ e ∧ e ≤ 9 ∧ r = some (.int (nI e)) ∧ prov n c g (nI p) (nI o) d a b e ∧ noneBelow n c g (nI p) (nI o) d (100 * a + 10 * b + e)) ∨ (r = some (.int 0) ∧ noneBelow n c g (nI p) (nI o) d (100 * a + 10 * b + 10)))) := by
  have hn := hh.1.1.le
  refine k_enter pn_X7 (Nat.le_of_ble_eq_true rfl) ?_
  refine b_iconst (v := 1) dX7_provokingDegree_0 (by decide) ?_
  refine b_istore dX7_provokingDegree_1 (by decide) ?_
  refine b_sub [1, 2, 3, 4, 5, 0] rfl ?_
  exact s_X7_provokingDegree_lp hh ha hb hab hd hp ho hpo 9 1 (by omega) (by omega) v hv (hno.skip (fun a' b' g' z1 z2 => by obtain ⟨y1, y2, y3, y4, y5⟩ := z1; omega))

set_option maxRecDepth 100000 in
set_option maxHeartbeats 1000000 in
theorem s_X7_provoked_l2 {w g : kW} {n c qq : Nat} (hh : Rel n c qq w g) {d p o : Nat} (hd : d < 30) (hp : p < n) (ho : o < n) (hpo : p ≠ o) {a : Nat} (ha : a < n) (hcont : ∀ v, cKt c w v → noneBelow n c g (nI p) (nI o) d (100 * a + 100) → BS shC RX7 cX7_provoked 7 (some .int) 6 154 (fun r w' => PProv n c g (nI p) (nI o) d r ∧ cKt c w w') 111 [(0, .ref 0), (1, .int (nI p)), (2, .int (nI o)), (3, .int (nI d)), (4, .int (nI a))] [] v) : ∀ q k, k + q = n → ∀ v : kW, cKt c w v → noneBelow n c g (nI p) (nI o) d (100 * a + 10 * k) → BS shC RX7 cX7_provoked 7 (some .int) 6 154 (fun r w' => PProv n c g (nI p) (nI o) d r ∧ cKt c w w') 42 [(0, .ref 0), (1, .int (nI p)), (2, .int (nI o)), (3, .int (nI d)), (4, .int (nI a)), (5, .int (nI k))] [] v := by
  intro q
  obtain ⟨hM, hRP, hRI, hRA, hRR, hRS, hRN⟩ := id hh
  obtain ⟨hP, hI, hc8, hRd, hu, hS⟩ := id hM
  have hn := hP.le
  induction q with
  | zero =>
    intro k hk v hv hno
    refine b_iload dX7_provoked_42 rfl ?_
    refine b_aload_n dX7_provoked_44 rfl ?_
    refine b_getr dX7_provoked_45 gf_X7_14 rfl rfl ?_
    refine b_geti dX7_provoked_48 gf_X7_84 rfl rfl ?_
    refine b_topi (y := nI n) (hh.kt hv).2.1.2.1 ?_
    refine b_icmp_ge (tgt := 111) dX7_provoked_51 (by decide) (fun h51 => ?_) (fun h51 => ?_)
    · refine b_sub [0, 1, 2, 3, 4] rfl ?_
      exact hcont _ hv (hno.skip (fun a' b' g' z1 z2 => by obtain ⟨y1, y2, y3, y4, y5⟩ := z1; omega))
    · exact absurd (nI_le (by omega) (by omega)) h51
  | succ q ih =>
    intro k hk v hv hno
    refine b_iload dX7_provoked_42 rfl ?_
    refine b_aload_n dX7_provoked_44 rfl ?_
    refine b_getr dX7_provoked_45 gf_X7_14 rfl rfl ?_
    refine b_geti dX7_provoked_48 gf_X7_84 rfl rfl ?_
    refine b_topi (y := nI n) (hh.kt hv).2.1.2.1 ?_
    refine b_icmp_ge (tgt := 111) dX7_provoked_51 (by decide) (fun h51 => ?_) (fun h51 => ?_)
    · exact absurd h51 (nI_ge (by omega) (by omega))
    · refine b_iload dX7_provoked_54 rfl ?_
      refine b_iload dX7_provoked_56 rfl ?_
      refine b_icmp_ne (tgt := 65) dX7_provoked_58 (by decide) (fun h58 => ?_) (fun h58 => ?_)
      · refine b_aload_n dX7_provoked_65 rfl ?_
        refine b_iload dX7_provoked_66 rfl ?_
        refine b_iload dX7_provoked_68 rfl ?_
        refine b_iload_n dX7_provoked_70 rfl ?_
        refine b_iload_n dX7_provoked_71 rfl ?_
        refine b_callS1 dX7_provoked_72 lk_X7_121 ⟨Nat.le_of_ble_eq_true rfl, Nat.le_of_ble_eq_true rfl⟩ (Nat.le_of_ble_eq_true rfl) (s_X7_bit) (fun r w72 h72 => ?_)
        obtain ⟨rfl, rfl⟩ := h72
        refine b_iload_n dX7_provoked_75 rfl ?_
        refine b_callS1 dX7_provoked_76 lk_X7_121 ⟨Nat.le_of_ble_eq_true rfl, Nat.le_of_ble_eq_true rfl⟩ (Nat.le_of_ble_eq_true rfl) (s_X7_bit) (fun r w76 h76 => ?_)
        obtain ⟨rfl, rfl⟩ := h76
        refine b_ior dX7_provoked_79 ?_
        refine b_callV4 dX7_provoked_80 lk_X7_158 rfl rfl rfl ⟨Nat.le_of_ble_eq_true rfl, Nat.le_of_ble_eq_true rfl⟩ (Nat.le_of_ble_eq_true rfl) (s_X7_provokingDegree hh ha (by omega) (fun z => h58 (by rw [z])) hd hp ho hpo hv hno) (fun r w80 h80 => ?_)
        obtain ⟨hv1, h80⟩ := h80
        rcases h80 with ⟨e, he1, he9, rfl, hpr, hno1⟩ | ⟨rfl, hno1⟩
        · refine b_istore dX7_provoked_83 (by decide) ?_
          refine b_iload dX7_provoked_85 rfl ?_
          refine b_if_le (tgt := 105) dX7_provoked_87 (by decide) (fun h87 => ?_) (fun h87 => ?_)
          · exact absurd (show nI e ≤ nI 0 from h87) (nI_ge (by omega) (by omega))
          · refine b_bipush (v := 100) dX7_provoked_90 (by decide) ?_
            refine b_iload dX7_provoked_92 rfl ?_
            refine b_imul dX7_provoked_94 ?_
            refine b_topi (y := nI (100 * a)) (nI_mul 100 a) ?_
            refine b_bipush (v := 10) dX7_provoked_95 (by decide) ?_
            refine b_iload dX7_provoked_97 rfl ?_
            refine b_imul dX7_provoked_99 ?_
            refine b_topi (y := nI (10 * k)) (nI_mul 10 k) ?_
            refine b_iadd dX7_provoked_100 ?_
            refine b_topi (y := nI (100 * a + 10 * k)) (nI_add _ _) ?_
            refine b_iload dX7_provoked_101 rfl ?_
            refine b_iadd dX7_provoked_103 ?_
            refine b_topi (y := nI (100 * a + 10 * k + e)) (nI_add _ _) ?_
            exact b_iret dX7_provoked_104 rfl ⟨Or.inr ⟨a, k, e, ⟨ha, by omega, fun z => h58 (by rw [z]), he1, he9⟩, rfl, hpr, hno1⟩, hv1⟩
        · refine b_istore dX7_provoked_83 (by decide) ?_
          refine b_iload dX7_provoked_85 rfl ?_
          refine b_if_le (tgt := 105) dX7_provoked_87 (by decide) (fun h87 => ?_) (fun h87 => absurd h87 (by decide))
          refine b_iinc dX7_provoked_105 rfl (nI_inc k) (by decide) ?_
          refine b_goto (tgt := 42) dX7_provoked_108 (by decide) ?_
          refine b_sub [2, 3, 4, 5, 6, 0] rfl ?_
          refine ih (k + 1) (by omega) _ hv1 (hno1.skip (fun a' b' g' z1 z2 => ?_))
          obtain ⟨y1, y2, y3, y4, y5⟩ := z1
          omega
      · refine b_iconst (v := 0) dX7_provoked_61 (by decide) ?_
        refine b_goto (tgt := 83) dX7_provoked_62 (by decide) ?_
        refine b_istore dX7_provoked_83 (by decide) ?_
        refine b_iload dX7_provoked_85 rfl ?_
        refine b_if_le (tgt := 105) dX7_provoked_87 (by decide) (fun h87 => ?_) (fun h87 => absurd h87 (by decide))
        refine b_iinc dX7_provoked_105 rfl (nI_inc k) (by decide) ?_
        refine b_goto (tgt := 42) dX7_provoked_108 (by decide) ?_
        refine b_sub [2, 3, 4, 5, 6, 0] rfl ?_
        refine ih (k + 1) (by omega) _ hv (hno.skip (fun a' b' g' z1 z2 => ?_))
        obtain ⟨y1, y2, y3, y4, y5⟩ := z1
        have e : a = k := nI_inj (by omega) (by omega) h58
        subst e
        omega

set_option maxRecDepth 100000 in
set_option maxHeartbeats 1000000 in
theorem s_X7_provoked_l1 {w g : kW} {n c qq : Nat} (hh : Rel n c qq w g) {d p o : Nat} (hd : d < 30) (hp : p < n) (ho : o < n) (hpo : p ≠ o) : ∀ q k, k + q = n → ∀ v : kW, cKt c w v → noneBelow n c g (nI p) (nI o) d (100 * k) → BS shC RX7 cX7_provoked 7 (some .int) 6 154 (fun r w' => PProv n c g (nI p) (nI o) d r ∧ cKt c w w') 27 [(0, .ref 0), (1, .int (nI p)), (2, .int (nI o)), (3, .int (nI d)), (4, .int (nI k))] [] v := by
  intro q
  obtain ⟨hM, hRP, hRI, hRA, hRR, hRS, hRN⟩ := id hh
  obtain ⟨hP, hI, hc8, hRd, hu, hS⟩ := id hM
  have hn := hP.le
  induction q with
  | zero =>
    intro k hk v hv hno
    refine b_iload dX7_provoked_27 rfl ?_
    refine b_aload_n dX7_provoked_29 rfl ?_
    refine b_getr dX7_provoked_30 gf_X7_14 rfl rfl ?_
    refine b_geti dX7_provoked_33 gf_X7_84 rfl rfl ?_
    refine b_topi (y := nI n) (hh.kt hv).2.1.2.1 ?_
    refine b_icmp_ge (tgt := 117) dX7_provoked_36 (by decide) (fun h36 => ?_) (fun h36 => ?_)
    · refine b_bipush (v := (-9)) dX7_provoked_117 (by decide) ?_
      have e : k = n := by omega
      subst e
      exact b_iret dX7_provoked_119 rfl ⟨Or.inl ⟨rfl, hno.skip (fun a' b' g' z1 z2 => by obtain ⟨y1, y2, y3, y4, y5⟩ := z1; omega)⟩, hv⟩
    · exact absurd (nI_le (by omega) (by omega)) h36
  | succ q ih =>
    intro k hk v hv hno
    refine b_iload dX7_provoked_27 rfl ?_
    refine b_aload_n dX7_provoked_29 rfl ?_
    refine b_getr dX7_provoked_30 gf_X7_14 rfl rfl ?_
    refine b_geti dX7_provoked_33 gf_X7_84 rfl rfl ?_
    refine b_topi (y := nI n) (hh.kt hv).2.1.2.1 ?_
    refine b_icmp_ge (tgt := 117) dX7_provoked_36 (by decide) (fun h36 => ?_) (fun h36 => ?_)
    · exact absurd h36 (nI_ge (by omega) (by omega))
    · refine b_iconst (v := 0) dX7_provoked_39 (by decide) ?_
      refine b_istore dX7_provoked_40 (by decide) ?_
      refine b_sub [1, 2, 3, 4, 5, 0] rfl ?_
      refine s_X7_provoked_l2 hh hd hp ho hpo (a := k) (by omega) (fun v2 hv2 hno2 => ?_) n 0 (by omega) _ hv hno
      refine b_iinc dX7_provoked_111 rfl (nI_inc k) (by decide) ?_
      refine b_goto (tgt := 27) dX7_provoked_114 (by decide) ?_
      refine b_sub [1, 2, 3, 4, 0] rfl ?_
      exact ih (k + 1) (by omega) _ hv2 (hno2.skip (fun a' b' g' z1 z2 => by obtain ⟨y1, y2, y3, y4, y5⟩ := z1; omega))

set_option maxRecDepth 100000 in
set_option maxHeartbeats 1000000 in
theorem s_X7_provoked {w g : kW} {n c qq : Nat} (hh : Rel n c qq w g) {p o d : Int32} : Spec shC yX7_provoked cX7_provoked 7 (some .int) 6 154 [.ref 0, .int p, .int o, .int d] w (fun r w' => PA_prov n c g p o d r ∧ cKt c w w') := by
  obtain ⟨hM, hRP, hRI, hRA, hRR, hRS, hRN⟩ := id hh
  obtain ⟨hP, hI, hc8, hRd, hu, hS⟩ := id hM
  have hn := hP.le
  refine k_enter pn_X7 (Nat.le_of_ble_eq_true rfl) ?_
  refine b_aload_n dX7_provoked_0 rfl ?_
  refine b_getr dX7_provoked_1 gf_X7_14 rfl rfl ?_
  refine b_iload_n dX7_provoked_4 rfl ?_
  refine b_iload_n dX7_provoked_5 rfl ?_
  refine b_callV2 dX7_provoked_6 lk_X7_111 rfl rfl rfl ⟨Nat.le_of_ble_eq_true rfl, Nat.le_of_ble_eq_true rfl⟩ (Nat.le_of_ble_eq_true rfl) (s_hasTwo hh) (fun r w6 h6 => ?_)
  obtain ⟨rfl, h6⟩ := h6
  rcases h6 with ⟨rfl, h6⟩ | ⟨rfl, h6⟩
  · refine b_if_ne (tgt := 14) dX7_provoked_9 (by decide) (fun h9 => ?_) (fun h9 => absurd h9 (by decide))
    have hq2 := h6
    obtain ⟨hpp, hpo, hne⟩ := h6
    obtain ⟨pp, hp, rfl⟩ := pers_of hP hpp
    obtain ⟨oo, ho, rfl⟩ := pers_of hP hpo
    refine b_iload_n dX7_provoked_14 rfl ?_
    refine b_callS1 dX7_provoked_15 lk_X7_114 ⟨Nat.le_of_ble_eq_true rfl, Nat.le_of_ble_eq_true rfl⟩ (Nat.le_of_ble_eq_true rfl) (s_X7_isDay) (fun r w15 h15 => ?_)
    obtain ⟨rfl, h15⟩ := h15
    rcases h15 with ⟨rfl, h15⟩ | ⟨rfl, h15⟩
    · refine b_if_ne (tgt := 24) dX7_provoked_18 (by decide) (fun h18 => ?_) (fun h18 => absurd h18 (by decide))
      obtain ⟨D, hD, rfl⟩ := day_of h15
      refine b_iconst (v := 0) dX7_provoked_24 (by decide) ?_
      refine b_istore dX7_provoked_25 (by decide) ?_
      refine b_sub [1, 2, 3, 4, 0] rfl ?_
      refine (s_X7_provoked_l1 (w := w) hh hD hp ho (fun z => hne (by rw [z])) n 0 (by omega) _ cKt.rf (fun a b g' z1 z2 => by omega)).mono (fun r w1 h => ⟨?_, h.2⟩)
      unfold PA_prov
      rw [if_pos hq2, if_pos h15, dn_nI (by omega)]
      exact h.1
    · refine b_if_ne (tgt := 24) dX7_provoked_18 (by decide) (fun h18 => absurd h18 (by decide)) (fun h18 => ?_)
      refine b_bipush (v := (-2)) dX7_provoked_21 (by decide) ?_
      exact b_iret dX7_provoked_23 rfl ⟨by unfold PA_prov; rw [if_pos hq2, if_neg h15], cKt.rf⟩
  · refine b_if_ne (tgt := 14) dX7_provoked_9 (by decide) (fun h9 => absurd h9 (by decide)) (fun h9 => ?_)
    refine b_iconst (v := (-1)) dX7_provoked_12 (by decide) ?_
    exact b_iret dX7_provoked_13 rfl ⟨by unfold PA_prov; rw [if_neg h6], cKt.rf⟩
