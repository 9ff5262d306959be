theorem kset_rowcg {w v : kW} {c k j : Nat} {x : Int32} (h : v.1 j = w.1 j) : (kset v c k x).1 j = (kset w c k x).1 j := by
  funext i
  exact kset_cg (congrFun h i)
theorem mKp.ks {c a b : Nat} {w v : kW} {x : Int32} (h : mKp c w v) : mKp c (kset w a b x) (kset v a b x) :=
  ⟨fun j p q => kset_rowcg (h.1 j p q), fun j k p q hk => kset_cg (h.2.1 j k p q hk), fun j p q r => kset_cg (h.2.2 j p q r)⟩
theorem Pn.ar {n k : Nat} {w : kW} {x : Int32} (h : Pn n w) (hx : x = 0 ∨ x = 1) : Pn n (kset w 7 k x) := by
  obtain ⟨h1, h2, h3, h4, h5, h6⟩ := h
  refine ⟨h1, h2, h3, h4, fun p hp => ?_, h6⟩
  rw [kset_1, if_pos rfl]
  split
  · exact hx
  · exact h5 p hp
theorem Ins.ar {n c k : Nat} {w : kW} {x : Int32} (h : Ins n c w) : Ins n c (kset w 7 k x) := h
theorem Rd.ar {n q k : Nat} {w : kW} {x : Int32} (h : Rd n q w) : Rd n q (kset w 7 k x) := h
theorem Rd.un {n q : Nat} {w : kW} {x : Int32} (h : Rd n q w) : Rd n q (kset w 0 20 x) := h
theorem mKp.rd {c n q : Nat} {w v : kW} (h : mKp c w v) (hR : Rd n q w) : Rd n q v := by
  unfold Rd at *
  rw [h.2.2 35 (by decide) (by decide) (by decide), h.1 26 (by decide) (by decide), h.1 27 (by decide) (by decide), h.1 28 (by decide) (by decide)]
  exact hR
def PA_never (n c : Nat) (w : kW) (r : Option Value) : Prop := (w.1 0 5 = 0 ∧ r = some (.int (-3))) ∨ (¬ w.1 0 5 = 0 ∧ ∃ s, r = some (.int s) ∧ ∀ i, i < 32 → (bt s i = true ↔ i < c ∧ soW n c (kset w 0 20 (1 <<< (nI i &&& 31)))))
def PA_caught (n c : Nat) (w : kW) (r : Option Value) : Prop := (w.1 0 5 = 0 ∧ r = some (.int (-3))) ∨ (¬ w.1 0 5 = 0 ∧ ∃ s, r = some (.int s) ∧ ∀ i, i < 32 → (bt s i = true ↔ i < n ∧ soW n c (kset w 7 i 1)))
theorem acc_yes {s : Int32} {k : Nat} {P : Nat → Prop} (hk : k < 32) (hs : ∀ i, i < 32 → (bt s i = true ↔ i < k ∧ P i)) (h : P k) : ∀ i, i < 32 → (bt (s ||| 1 <<< (nI k &&& 31)) i = true ↔ i < k + 1 ∧ P i) := by
  intro i hi
  rw [b_or, bit_one hk hi, Bool.or_eq_true, hs i hi, decide_eq_true_eq]
  constructor
  · rintro (⟨a, b⟩ | rfl)
    · exact ⟨by omega, b⟩
    · exact ⟨by omega, h⟩
  · rintro ⟨a, b⟩
    by_cases e : i = k
    · exact Or.inr e
    · exact Or.inl ⟨by omega, b⟩
theorem acc_no {s : Int32} {k : Nat} {P : Nat → Prop} (hs : ∀ i, i < 32 → (bt s i = true ↔ i < k ∧ P i)) (h : ¬ P k) : ∀ i, i < 32 → (bt (s ||| 0) i = true ↔ i < k + 1 ∧ P i) := by
  intro i hi
  rw [b_or, b_0, Bool.or_false, hs i hi]
  constructor
  · rintro ⟨a, b⟩; exact ⟨by omega, b⟩
  · rintro ⟨a, b⟩
    by_cases e : i = k
    · subst e; exact absurd b h
    · exact ⟨by omega, b⟩

set_option maxRecDepth 100000 in
set_option maxHeartbeats 4000000 in
theorem s_X8_never_lp {w : kW} {n c qq : Nat} (hM : MInv n c qq w) (hne : ¬ w.1 0 5 = 0) : ∀ q k, k + q = c → ∀ v : kW, ∀ y : Int32, mKp c (kset w 0 20 y) v → ∀ s : Int32, (∀ i, i < 32 → (bt s i = true ↔ i < k ∧ soW n c (kset w 0 20 (1 <<< (nI i &&& 31))))) → BS shM RX8 cX8_never 3 (some .int) 7 167 (fun r w' => PA_never n c w r ∧ mKp c w w') 14 [(0, .ref 0), (1, .int s), (2, .int (nI k))] [] v := by
  intro q
  obtain ⟨hP, hI, hc8, hR, hu, hS⟩ := id hM
  have hn := hP.le
  induction q with
  | zero =>
    intro k hk v y hv s hs
    refine b_iload_n dX8_never_14 rfl ?_
    refine b_aload_n dX8_never_15 rfl ?_
    refine b_geti dX8_never_16 gf_X8_132 rfl rfl ?_
    refine b_topi (y := nI c) ((hv.2.2 15 (by decide) (by decide) (by decide)).trans hI.1) ?_
    refine b_icmp_ge (tgt := 52) dX8_never_19 (by decide) (fun h19 => ?_) (fun h19 => ?_)
    · refine b_aload_n dX8_never_52 rfl ?_
      refine b_iconst (v := 0) dX8_never_53 (by decide) ?_
      refine b_puti dX8_never_54 gf_X8_181 gs_X8_20 rfl rfl ?_
      refine b_iload_n dX8_never_57 rfl ?_
      have e : k = c := by omega
      subst e
      refine b_iret dX8_never_58 rfl ⟨Or.inr ⟨hne, s, rfl, hs⟩, hv.un1 hu⟩
    · exact absurd (nI_le (by omega) (by omega)) h19
  | succ q ih =>
    intro k hk v y hv s hs
    have hk2 : mKp c (kset w 0 20 (1 <<< (nI k &&& 31))) (kset v 0 20 (1 <<< (nI k &&& 31))) := hv.un0
    refine b_iload_n dX8_never_14 rfl ?_
    refine b_aload_n dX8_never_15 rfl ?_
    refine b_geti dX8_never_16 gf_X8_132 rfl rfl ?_
    refine b_topi (y := nI c) ((hv.2.2 15 (by decide) (by decide) (by decide)).trans hI.1) ?_
    refine b_icmp_ge (tgt := 52) dX8_never_19 (by decide) (fun h19 => ?_) (fun h19 => ?_)
    · exact absurd h19 (nI_ge (by omega) (by omega))
    · refine b_aload_n dX8_never_22 rfl ?_
      refine b_iconst (v := 1) dX8_never_23 (by decide) ?_
      refine b_iload_n dX8_never_24 rfl ?_
      refine b_ishl dX8_never_25 ?_
      refine b_puti dX8_never_26 gf_X8_181 gs_X8_20 rfl rfl ?_
      refine b_iload_n dX8_never_29 rfl ?_
      refine b_aload_n dX8_never_30 rfl ?_
      refine b_callV0 dX8_never_31 lk_X8_225 rfl rfl rfl ⟨Nat.le_of_ble_eq_true rfl, Nat.le_of_ble_eq_true rfl⟩ (Nat.le_of_ble_eq_true rfl) (s_X8_areSo (w := kset v 0 20 (1 <<< (nI k &&& 31))) (hk2.pn hP.un) (hk2.ins hI.un) (hk2.rd hR.un)) (fun r w31 h31 => ?_)
      obtain ⟨rfl, h31⟩ := h31
      rcases h31 with ⟨rfl, h31⟩ | ⟨rfl, h31⟩
      · refine b_if_eq (tgt := 43) dX8_never_34 (by decide) (fun h34 => absurd h34 (by decide)) (fun h34 => ?_)
        refine b_iconst (v := 1) dX8_never_37 (by decide) ?_
        refine b_iload_n dX8_never_38 rfl ?_
        refine b_ishl dX8_never_39 ?_
        refine b_goto (tgt := 44) dX8_never_40 (by decide) ?_
        refine b_ior dX8_never_44 ?_
        refine b_istore_n dX8_never_45 (by decide) ?_
        refine b_iinc dX8_never_46 rfl (nI_inc k) (by decide) ?_
        refine b_goto (tgt := 14) dX8_never_49 (by decide) ?_
        refine b_sub [2, 1, 0] rfl ?_
        refine ih (k + 1) (by omega) _ (1 <<< (nI k &&& 31)) (hk2.tr (mKp.of (mGo_keep (hk2.pn hP.un) (hk2.ins hI.un) (Nat.le_refl 60)))) _ ?_
        exact acc_yes (by omega) hs ((soW_eq hP.un hI.un hk2.peq hk2.req).mp h31)
      · refine b_if_eq (tgt := 43) dX8_never_34 (by decide) (fun h34 => ?_) (fun h34 => absurd h34 (by decide))
        refine b_iconst (v := 0) dX8_never_43 (by decide) ?_
        refine b_ior dX8_never_44 ?_
        refine b_istore_n dX8_never_45 (by decide) ?_
        refine b_iinc dX8_never_46 rfl (nI_inc k) (by decide) ?_
        refine b_goto (tgt := 14) dX8_never_49 (by decide) ?_
        refine b_sub [2, 1, 0] rfl ?_
        refine ih (k + 1) (by omega) _ (1 <<< (nI k &&& 31)) (hk2.tr (mKp.of (mGo_keep (hk2.pn hP.un) (hk2.ins hI.un) (Nat.le_refl 60)))) _ ?_
        exact acc_no hs (fun z => h31 ((soW_eq hP.un hI.un hk2.peq hk2.req).mpr z))

set_option maxRecDepth 100000 in
set_option maxHeartbeats 4000000 in
theorem s_X8_never {w : kW} {n c qq : Nat} (hM : MInv n c qq w) : Spec shM yX8_never cX8_never 3 (some .int) 7 167 [.ref 0] w (fun r w' => PA_never n c w r ∧ mKp c w w') := by
  obtain ⟨hP, hI, hc8, hR, hu, hS⟩ := id hM
  have hn := hP.le
  refine k_enter pn_X8 (Nat.le_of_ble_eq_true rfl) ?_
  refine b_aload_n dX8_never_0 rfl ?_
  refine b_geti dX8_never_1 gf_X8_105 rfl rfl ?_
  refine b_if_ne (tgt := 10) dX8_never_4 (by decide) (fun h4 => ?_) (fun h4 => ?_)
  · refine b_iconst (v := 0) dX8_never_10 (by decide) ?_
    refine b_istore_n dX8_never_11 (by decide) ?_
    refine b_iconst (v := 0) dX8_never_12 (by decide) ?_
    refine b_istore_n dX8_never_13 (by decide) ?_
    refine b_sub [2, 1, 0] rfl ?_
    exact s_X8_never_lp hM h4 c 0 (by omega) w (w.1 0 20) (by rw [kset_self rfl]; exact mKp.rf) 0 (fun i hi => by rw [b_0]; simp)
  · refine b_bipush (v := (-3)) dX8_never_7 (by decide) ?_
    exact b_iret dX8_never_9 rfl ⟨Or.inl ⟨h4, rfl⟩, mKp.rf⟩

set_option maxRecDepth 100000 in
set_option maxHeartbeats 4000000 in
theorem s_X8_caught_lp {w : kW} {n c qq : Nat} (hM : MInv n c qq w) (hne : ¬ w.1 0 5 = 0) : ∀ q k, k + q = n → ∀ v : kW, mKp c w v → ∀ s : Int32, (∀ i, i < 32 → (bt s i = true ↔ i < k ∧ soW n c (kset w 7 i 1))) → BS shM RX8 cX8_caught 4 (some .int) 7 167 (fun r w' => PA_caught n c w r ∧ mKp c w w') 14 [(0, .ref 0), (1, .int s), (2, .int (nI k))] [] v := by
  intro q
  obtain ⟨hP, hI, hc8, hR, hu, hS⟩ := id hM
  have hn := hP.le
  induction q with
  | zero =>
    intro k hk v hv s hs
    refine b_iload_n dX8_caught_14 rfl ?_
    refine b_aload_n dX8_caught_15 rfl ?_
    refine b_geti dX8_caught_16 gf_X8_105 rfl rfl ?_
    refine b_topi (y := nI n) ((hv.2.2 5 (by decide) (by decide) (by decide)).trans hP.1) ?_
    refine b_icmp_ge (tgt := 66) dX8_caught_19 (by decide) (fun h19 => ?_) (fun h19 => ?_)
    · refine b_iload_n dX8_caught_66 rfl ?_
      have e : k = n := by omega
      subst e
      refine b_iret dX8_caught_67 rfl ⟨Or.inr ⟨hne, s, rfl, hs⟩, hv⟩
    · exact absurd (nI_le (by omega) (by omega)) h19
  | succ q ih =>
    intro k hk v hv s hs
    have hPa : Pn n (kset w 7 k 1) := Pn.ar hP (Or.inr rfl)
    have hk2 : mKp c (kset w 7 k 1) (kset v 7 k 1) := hv.ks
    have hk3 : mKp c w (kset (mGo n c (kset v 7 k 1) 60) 7 k (w.1 7 k)) := by
      have h1 : mKp c (kset v 7 k 1) (mGo n c (kset v 7 k 1) 60) := mKp.of (mGo_keep (Pn.ar (hv.pn hP) (Or.inr rfl)) (Ins.ar (hv.ins hI)) (Nat.le_refl 60))
      have h2 := h1.ks (a := 7) (b := k) (x := w.1 7 k)
      rw [kset_kset, kset_self (congrFun (hv.1 7 (by decide) (by decide)) k)] at h2
      exact hv.tr h2
    refine b_iload_n dX8_caught_14 rfl ?_
    refine b_aload_n dX8_caught_15 rfl ?_
    refine b_geti dX8_caught_16 gf_X8_105 rfl rfl ?_
    refine b_topi (y := nI n) ((hv.2.2 5 (by decide) (by decide) (by decide)).trans hP.1) ?_
    refine b_icmp_ge (tgt := 66) dX8_caught_19 (by decide) (fun h19 => ?_) (fun h19 => ?_)
    · exact absurd h19 (nI_ge (by omega) (by omega))
    · refine b_aload_n dX8_caught_22 rfl ?_
      refine b_getr dX8_caught_23 gf_X8_28 rfl rfl ?_
      refine b_iload_n dX8_caught_26 rfl ?_
      refine b_zaldN dX8_caught_27 rfl ⟨by omega, by decide⟩ ?_
      refine b_topi (y := w.1 7 k) (congrFun (hv.1 7 (by decide) (by decide)) k) ?_
      refine b_istore_n dX8_caught_28 (by decide) ?_
      refine b_aload_n dX8_caught_29 rfl ?_
      refine b_getr dX8_caught_30 gf_X8_28 rfl rfl ?_
      refine b_iload_n dX8_caught_33 rfl ?_
      refine b_iconst (v := 1) dX8_caught_34 (by decide) ?_
      refine b_zastN dX8_caught_35 rfl ⟨by omega, by decide⟩ (Or.inr rfl) ?_
      refine b_iload_n dX8_caught_36 rfl ?_
      refine b_aload_n dX8_caught_37 rfl ?_
      refine b_callV0 dX8_caught_38 lk_X8_225 rfl rfl rfl ⟨Nat.le_of_ble_eq_true rfl, Nat.le_of_ble_eq_true rfl⟩ (Nat.le_of_ble_eq_true rfl) (s_X8_areSo (w := kset v 7 k 1) (Pn.ar (hv.pn hP) (Or.inr rfl)) (Ins.ar (hv.ins hI)) (Rd.ar (hv.rd hR))) (fun r w38 h38 => ?_)
      obtain ⟨rfl, h38⟩ := h38
      rcases h38 with ⟨rfl, h38⟩ | ⟨rfl, h38⟩
      · refine b_if_eq (tgt := 50) dX8_caught_41 (by decide) (fun h41 => absurd h41 (by decide)) (fun h41 => ?_)
        refine b_iconst (v := 1) dX8_caught_44 (by decide) ?_
        refine b_iload_n dX8_caught_45 rfl ?_
        refine b_ishl dX8_caught_46 ?_
        refine b_goto (tgt := 51) dX8_caught_47 (by decide) ?_
        refine b_ior dX8_caught_51 ?_
        refine b_istore_n dX8_caught_52 (by decide) ?_
        refine b_aload_n dX8_caught_53 rfl ?_
        refine b_getr dX8_caught_54 gf_X8_28 rfl rfl ?_
        refine b_iload_n dX8_caught_57 rfl ?_
        refine b_iload_n dX8_caught_58 rfl ?_
        refine b_zastN dX8_caught_59 rfl ⟨by omega, by decide⟩ (hP.2.2.2.2.1 k (by omega)) ?_
        refine b_iinc dX8_caught_60 rfl (nI_inc k) (by decide) ?_
        refine b_goto (tgt := 14) dX8_caught_63 (by decide) ?_
        refine b_sub [3, 1, 0] rfl ?_
        refine ih (k + 1) (by omega) _ hk3 _ ?_
        exact acc_yes (P := fun i => soW n c (kset w 7 i 1)) (by omega) hs ((soW_eq hPa (Ins.ar hI) (hk2.peq) hk2.req).mp h38)
      · refine b_if_eq (tgt := 50) dX8_caught_41 (by decide) (fun h41 => ?_) (fun h41 => absurd h41 (by decide))
        refine b_iconst (v := 0) dX8_caught_50 (by decide) ?_
        refine b_ior dX8_caught_51 ?_
        refine b_istore_n dX8_caught_52 (by decide) ?_
        refine b_aload_n dX8_caught_53 rfl ?_
        refine b_getr dX8_caught_54 gf_X8_28 rfl rfl ?_
        refine b_iload_n dX8_caught_57 rfl ?_
        refine b_iload_n dX8_caught_58 rfl ?_
        refine b_zastN dX8_caught_59 rfl ⟨by omega, by decide⟩ (hP.2.2.2.2.1 k (by omega)) ?_
        refine b_iinc dX8_caught_60 rfl (nI_inc k) (by decide) ?_
        refine b_goto (tgt := 14) dX8_caught_63 (by decide) ?_
        refine b_sub [3, 1, 0] rfl ?_
        refine ih (k + 1) (by omega) _ hk3 _ ?_
        exact acc_no (P := fun i => soW n c (kset w 7 i 1)) hs (fun z => h38 ((soW_eq hPa (Ins.ar hI) hk2.peq hk2.req).mpr z))

set_option maxRecDepth 100000 in
set_option maxHeartbeats 4000000 in
theorem s_X8_caught {w : kW} {n c qq : Nat} (hM : MInv n c qq w) : Spec shM yX8_caught cX8_caught 4 (some .int) 7 167 [.ref 0] w (fun r w' => PA_caught n c w r ∧ mKp c w w') := by
  obtain ⟨hP, hI, hc8, hR, hu, hS⟩ := id hM
  have hn := hP.le
  refine k_enter pn_X8 (Nat.le_of_ble_eq_true rfl) ?_
  refine b_aload_n dX8_caught_0 rfl ?_
  refine b_geti dX8_caught_1 gf_X8_105 rfl rfl ?_
  refine b_if_ne (tgt := 10) dX8_caught_4 (by decide) (fun h4 => ?_) (fun h4 => ?_)
  · refine b_iconst (v := 0) dX8_caught_10 (by decide) ?_
    refine b_istore_n dX8_caught_11 (by decide) ?_
    refine b_iconst (v := 0) dX8_caught_12 (by decide) ?_
    refine b_istore_n dX8_caught_13 (by decide) ?_
    refine b_sub [2, 1, 0] rfl ?_
    exact s_X8_caught_lp hM h4 n 0 (by omega) w mKp.rf 0 (fun i hi => by rw [b_0]; simp)
  · refine b_bipush (v := (-3)) dX8_caught_7 (by decide) ?_
    exact b_iret dX8_caught_9 rfl ⟨Or.inl ⟨h4, rfl⟩, mKp.rf⟩

def ltN (u d : Nat) (which : Int32) : Nat := if which = 0 then u / Nat.gcd u d else d / Nat.gcd u d
theorem lN_rem {a b : Nat} (ha : a < 2 ^ 31) (h0 : 0 < b) (hb : b < 2 ^ 31) : lN a - lN a / lN b * lN b = lN (a % b) := by
  have h1 : a / b * b ≤ a := Nat.div_mul_le_self a b
  rw [pk_lDiv (by omega) h0 (by omega), lN_mul, lN_sub h1]
  congr 1
  have := Nat.mod_add_div a b
  rw [Nat.mul_comm] at this
  omega
theorem lN_0 {b : Nat} (hb : b < 2 ^ 31) : lN b = 0 ↔ b = 0 := by
  have h : lN b = lN 0 ↔ b = 0 := lN_eq hb (by omega)
  exact h

set_option maxRecDepth 100000 in
set_option maxHeartbeats 4000000 in
theorem s_X8_inLeastTerms_lp {w : kW} {u d : Nat} {which : Int32} (hu : u ≤ 512) (hd : d ≤ 512) (hd0 : 0 < d) : ∀ N a b, b < N → a ≤ 512 → b ≤ 512 → Nat.gcd a b = Nat.gcd u d → BS shM RX8 cX8_inLeastTerms 11 (some .long) 0 0 (fun r w' => r = some (.long (lN (ltN u d which))) ∧ w = w') 6 [(0, .long (lN u)), (2, .long (lN d)), (4, .int which), (5, .long (lN a)), (7, .long (lN b))] [] w := by
  intro N
  induction N with
  | zero => intro a b h; exact absurd h (Nat.not_lt_zero _)
  | succ N ih =>
    intro a b hbN ha hb hg
    refine b_lload dX8_inLeastTerms_6 rfl ?_
    refine b_lconst (v := 0) dX8_inLeastTerms_8 (by decide) ?_
    refine b_lcmp dX8_inLeastTerms_9 ?_
    refine b_if_eq (tgt := 31) dX8_inLeastTerms_10 (by decide) (fun h10 => ?_) (fun h10 => ?_)
    · have hb0 : b = 0 := (lN_0 (by omega)).mp (lg_cmp0.mp h10)
      subst hb0
      rw [Nat.gcd_zero_right] at hg
      have hg0 : ¬ a = 0 := by
        intro e
        subst e
        have := (Nat.gcd_eq_zero_iff.mp hg.symm).2
        omega
      refine b_iload dX8_inLeastTerms_31 rfl ?_
      refine b_if_ne (tgt := 43) dX8_inLeastTerms_33 (by decide) (fun h33 => ?_) (fun h33 => ?_)
      · refine b_lload_n dX8_inLeastTerms_43 rfl ?_
        refine b_lload dX8_inLeastTerms_44 rfl ?_
        refine b_ldiv dX8_inLeastTerms_46 (fun e => hg0 ((lN_0 (by omega)).mp e)) ?_
        refine b_topl (y := lN (d / a)) (pk_lDiv (by omega) (by omega) (by omega)) ?_
        exact b_lret dX8_inLeastTerms_47 rfl ⟨by simp only [ltN, if_neg h33, ← hg], rfl⟩
      · refine b_lload_n dX8_inLeastTerms_36 rfl ?_
        refine b_lload dX8_inLeastTerms_37 rfl ?_
        refine b_ldiv dX8_inLeastTerms_39 (fun e => hg0 ((lN_0 (by omega)).mp e)) ?_
        refine b_topl (y := lN (u / a)) (pk_lDiv (by omega) (by omega) (by omega)) ?_
        refine b_goto (tgt := 47) dX8_inLeastTerms_40 (by decide) ?_
        exact b_lret dX8_inLeastTerms_47 rfl ⟨by simp only [ltN, if_pos h33, ← hg], rfl⟩
    · have hb0 : 0 < b := by
        rcases Nat.eq_zero_or_pos b with e | e
        · subst e; exact absurd (lg_cmp0.mpr rfl) h10
        · exact e
      refine b_lload dX8_inLeastTerms_13 rfl ?_
      refine b_lload dX8_inLeastTerms_15 rfl ?_
      refine b_lrem dX8_inLeastTerms_17 (fun e => h10 (lg_cmp0.mpr e)) ?_
      refine b_topl (y := lN (a % b)) (lN_rem (by omega) hb0 (by omega)) ?_
      refine b_lstore dX8_inLeastTerms_18 (by decide) ?_
      refine b_lload dX8_inLeastTerms_20 rfl ?_
      refine b_lstore dX8_inLeastTerms_22 (by decide) ?_
      refine b_lload dX8_inLeastTerms_24 rfl ?_
      refine b_lstore dX8_inLeastTerms_26 (by decide) ?_
      refine b_goto (tgt := 6) dX8_inLeastTerms_28 (by decide) ?_
      refine b_sub [3, 4, 5, 1, 0] rfl ?_
      have hm := Nat.mod_lt a hb0
      exact ih b (a % b) (by omega) (by omega) (by omega) (by rw [← hg, Nat.gcd_comm a b, Nat.gcd_rec b a, Nat.gcd_comm])

set_option maxRecDepth 100000 in
set_option maxHeartbeats 4000000 in
theorem s_X8_inLeastTerms {w : kW} {u d : Nat} {which : Int32} (hu : u ≤ 512) (hd : d ≤ 512) (hd0 : 0 < d) : Spec shM yX8_inLeastTerms cX8_inLeastTerms 11 (some .long) 0 0 [.long (lN u), .long (lN d), .int which] w (fun r w' => r = some (.long (lN (ltN u d which))) ∧ w = w') := by
  refine k_enter pn_X8 (Nat.le_of_ble_eq_true rfl) ?_
  refine b_lload_n dX8_inLeastTerms_0 rfl ?_
  refine b_lstore dX8_inLeastTerms_1 (by decide) ?_
  refine b_lload_n dX8_inLeastTerms_3 rfl ?_
  refine b_lstore dX8_inLeastTerms_4 (by decide) ?_
  refine b_sub [2, 3, 4, 1, 0] rfl ?_
  exact s_X8_inLeastTerms_lp hu hd hd0 513 u d (by omega) hu hd rfl
