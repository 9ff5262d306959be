theorem OKT.tp {f : Nat → Int32} {n nn p : Nat} (h : OKT f n nn) (hp : p < nn) : ∃ k h a b, TP f nn p k h a b := by
  obtain ⟨hc, hn, hg⟩ := h
  have g3 := (gz_3 hp).mp ((goes_2 hc (by omega)).mp (hg (5 * p + 3) (by omega)))
  have g4 := (gz_4 hp).mp ((goes_2 hc (by omega)).mp (hg (5 * p + 4) (by omega)))
  have g5 := (gz_5 hp (i := 0) (by omega)).mp ((goes_2 hc (by omega)).mp (hg (5 * p + 5 + 0) (by omega)))
  have g6 := (gz_5 hp (i := 1) (by omega)).mp ((goes_2 hc (by omega)).mp (hg (5 * p + 5 + 1) (by omega)))
  obtain ⟨hh, a1, a2, a3⟩ := g4
  obtain ⟨x, b1, b2, b3⟩ := g5
  obtain ⟨y, c1, c2, c3⟩ := g6
  rcases g3 with z | z | z
  · exact ⟨0, hh, x, y, Or.inl ⟨z, rfl⟩, ⟨a1, a2, a3⟩, ⟨b1, b2, b3⟩, ⟨c1, c2, c3⟩⟩
  · exact ⟨1, hh, x, y, Or.inr (Or.inl ⟨z, rfl⟩), ⟨a1, a2, a3⟩, ⟨b1, b2, b3⟩, ⟨c1, c2, c3⟩⟩
  · exact ⟨2, hh, x, y, Or.inr (Or.inr ⟨z, rfl⟩), ⟨a1, a2, a3⟩, ⟨b1, b2, b3⟩, ⟨c1, c2, c3⟩⟩
def PFF (f : Nat → Int32) (n : Nat) (r : Option Value) : Prop := (∃ t, FF f n t ∧ r = some (.int (nI t))) ∨ (∃ nn, OKT f n nn ∧ r = some (.int (-9)))
set_option maxRecDepth 100000 in
set_option maxHeartbeats 1000000 in
theorem s_X6_firstFault_lp {w : kW} {kk ii l n : Nat} (hkk : kk < 4) (hl : w.1 (31 + kk) 2 = nI l) (hl5 : l ≤ 50) (hin : ii + n ≤ l) {f : Nat → Int32} (hf : ∀ s, s < n → w.1 (35 + kk) (ii + s) = f s) : ∀ q k, k + q = n → (∀ s, s < k → goes f s) → BS shC RX6 cX6_firstFault 4 (some .int) 2 46 (fun r w' => PFF f n r ∧ w = w') 2 [(0, .ref (31 + kk)), (1, .int (nI ii)), (2, .int (nI n)), (3, .int (nI k))] [] w := by
  intro q
  induction q with
  | zero =>
    intro k hk hgo
    refine b_iload_n dX6_firstFault_2 rfl ?_
    refine b_iload_n dX6_firstFault_3 rfl ?_
    refine b_icmp_ge (tgt := 24) dX6_firstFault_4 (by decide) (fun h4 => ?_) (fun h4 => ?_)
    · have e : k = n := by omega
      subst e
      refine b_iload_n dX6_firstFault_24 rfl ?_
      refine b_iconst (v := 2) dX6_firstFault_25 (by decide) ?_
      refine b_icmp_lt (tgt := 51) dX6_firstFault_26 (by decide) (fun h26 => ?_) (fun h26 => ?_)
      · refine b_iconst (v := 0) dX6_firstFault_51 (by decide) ?_
        refine b_istore_n dX6_firstFault_52 (by decide) ?_
        refine b_iload_n dX6_firstFault_53 rfl ?_
        refine b_if_eq (tgt := 62) dX6_firstFault_54 (by decide) (fun h54 => ?_) (fun h54 => absurd h54 (by decide))
        refine b_iload_n dX6_firstFault_62 rfl ?_
        exact b_iret dX6_firstFault_63 rfl ⟨Or.inl ⟨k, ⟨Nat.le_refl _, hgo, fun z => absurd z (Nat.lt_irrefl _), fun _ m hm z => absurd h26 (Int32.not_lt.mpr (nI_le (a := 2) (by have := hm.1; omega) (by omega)))⟩, rfl⟩, rfl⟩
      · have h2 : 2 ≤ k := Nat.not_lt.mp (fun z => h26 (nI_lt (b := 2) z (by decide)))
        obtain ⟨nn, hcn⟩ := goes_1.mp (hgo 1 (by omega))
        refine b_iload_n dX6_firstFault_29 rfl ?_
        refine b_iconst (v := 2) dX6_firstFault_30 (by decide) ?_
        refine b_iconst (v := 5) dX6_firstFault_31 (by decide) ?_
        refine b_aload_n dX6_firstFault_32 rfl ?_
        refine b_iload_n dX6_firstFault_33 rfl ?_
        refine b_iconst (v := 1) dX6_firstFault_34 (by decide) ?_
        refine b_iadd dX6_firstFault_35 ?_
        refine b_topi (y := nI (ii + 1)) (nI_add _ 1) ?_
        refine b_callV1 dX6_firstFault_36 lk_X6_15 (shK hkk) rfl rfl ⟨Nat.le_of_ble_eq_true rfl, Nat.le_of_ble_eq_true rfl⟩ (Nat.le_of_ble_eq_true rfl) (s_X5_at (l := l) hkk hl hl5 (by omega)) (fun r w36 h36 => ?_)
        obtain ⟨rfl, rfl⟩ := h36
        refine b_callS1 dX6_firstFault_39 lk_X6_21 ⟨Nat.le_of_ble_eq_true rfl, Nat.le_of_ble_eq_true rfl⟩ (Nat.le_of_ble_eq_true rfl) (s_X6_digit) (fun r w39 h39 => ?_)
        obtain ⟨rfl, rfl⟩ := h39
        refine b_topi (y := nI nn) (by rw [hf 1 (by omega)]; exact dig_ge (by have := hcn.2.1; omega) hcn.2.2) ?_
        refine b_imul dX6_firstFault_42 ?_
        refine b_topi (y := nI (5 * nn)) (nI_mul 5 nn) ?_
        refine b_iadd dX6_firstFault_43 ?_
        refine b_topi (y := nI (2 + 5 * nn)) (nI_add 2 _) ?_
        refine b_icmp_ne (tgt := 51) dX6_firstFault_44 (by decide) (fun h44 => ?_) (fun h44 => ?_)
        · refine b_iconst (v := 0) dX6_firstFault_51 (by decide) ?_
          refine b_istore_n dX6_firstFault_52 (by decide) ?_
          refine b_iload_n dX6_firstFault_53 rfl ?_
          refine b_if_eq (tgt := 62) dX6_firstFault_54 (by decide) (fun h54 => ?_) (fun h54 => absurd h54 (by decide))
          refine b_iload_n dX6_firstFault_62 rfl ?_
          exact b_iret dX6_firstFault_63 rfl ⟨Or.inl ⟨k, ⟨Nat.le_refl _, hgo, fun z => absurd z (Nat.lt_irrefl _), fun _ m hm z => h44 (by rw [cnt_inj hcn hm, ← z])⟩, rfl⟩, rfl⟩
        · refine b_iconst (v := 1) dX6_firstFault_47 (by decide) ?_
          refine b_goto (tgt := 52) dX6_firstFault_48 (by decide) ?_
          refine b_istore_n dX6_firstFault_52 (by decide) ?_
          refine b_iload_n dX6_firstFault_53 rfl ?_
          refine b_if_eq (tgt := 62) dX6_firstFault_54 (by decide) (fun h54 => absurd h54 (by decide)) (fun h54 => ?_)
          refine b_bipush (v := (-9)) dX6_firstFault_57 (by decide) ?_
          refine b_goto (tgt := 63) dX6_firstFault_59 (by decide) ?_
          exact b_iret dX6_firstFault_63 rfl ⟨Or.inr ⟨nn, ⟨hcn, nI_inj (by omega) (by have := hcn.2.1; omega) h44, hgo⟩, rfl⟩, rfl⟩
    · exact absurd (nI_le (by omega) (by omega)) h4
  | succ q ih =>
    intro k hk hgo
    refine b_iload_n dX6_firstFault_2 rfl ?_
    refine b_iload_n dX6_firstFault_3 rfl ?_
    refine b_icmp_ge (tgt := 24) dX6_firstFault_4 (by decide) (fun h4 => ?_) (fun h4 => ?_)
    · exact absurd h4 (nI_ge (by omega) (by omega))
    · refine b_aload_n dX6_firstFault_7 rfl ?_
      refine b_iload_n dX6_firstFault_8 rfl ?_
      refine b_iload_n dX6_firstFault_9 rfl ?_
      refine b_callS3 dX6_firstFault_10 lk_X6_9 ⟨Nat.le_of_ble_eq_true rfl, Nat.le_of_ble_eq_true rfl⟩ (Nat.le_of_ble_eq_true rfl) (s_X6_goesOn hkk hl hl5 hin hf (by omega) (fun z => goes_1.mp (hgo 1 (by omega)))) (fun r w10 h10 => ?_)
      obtain ⟨rfl, h10⟩ := h10
      rcases h10 with ⟨rfl, h10⟩ | ⟨rfl, h10⟩
      · refine b_if_ne (tgt := 18) dX6_firstFault_13 (by decide) (fun h13 => ?_) (fun h13 => absurd h13 (by decide))
        refine b_iinc dX6_firstFault_18 rfl (nI_inc k) (by decide) ?_
        refine b_goto (tgt := 2) dX6_firstFault_21 (by decide) ?_
        refine b_sub [1, 2, 3, 0] rfl ?_
        refine ih (k + 1) (by omega) (fun s hs => ?_)
        by_cases e : s = k
        · subst e; exact h10
        · exact hgo s (by omega)
      · refine b_if_ne (tgt := 18) dX6_firstFault_13 (by decide) (fun h13 => absurd h13 (by decide)) (fun h13 => ?_)
        refine b_iload_n dX6_firstFault_16 rfl ?_
        exact b_iret dX6_firstFault_17 rfl ⟨Or.inl ⟨k, ⟨by omega, hgo, fun _ => h10, fun z => absurd z (by omega)⟩, rfl⟩, rfl⟩
set_option maxRecDepth 100000 in
set_option maxHeartbeats 1000000 in
theorem s_X6_firstFault {w : kW} {kk ii l n : Nat} (hkk : kk < 4) (hl : w.1 (31 + kk) 2 = nI l) (hl5 : l ≤ 50) (hin : ii + n ≤ l) {f : Nat → Int32} (hf : ∀ s, s < n → w.1 (35 + kk) (ii + s) = f s) : Spec shC yX6_firstFault cX6_firstFault 4 (some .int) 2 46 [.ref (31 + kk), .int (nI ii), .int (nI n)] w (fun r w' => PFF f n r ∧ w = w') := by
  refine k_enter pn_X6 (Nat.le_of_ble_eq_true rfl) ?_
  refine b_iconst (v := 0) dX6_firstFault_0 (by decide) ?_
  refine b_istore_n dX6_firstFault_1 (by decide) ?_
  refine b_sub [1, 2, 3, 0] rfl ?_
  exact s_X6_firstFault_lp hkk hl hl5 hin hf n 0 (by omega) (fun s hs => absurd hs (Nat.not_lt_zero _))
def CoR (f : Nat → Int32) (nn k : Nat) (w v : kW) : Prop := v.1 1 0 = nI nn ∧ v.1 1 1 = 0 ∧ (∀ j, j < 1 ∨ 5 < j → v.1 j = w.1 j) ∧ ∀ p, p < k → ∃ kd h a b, TP f nn p kd h a b ∧ v.1 2 p = nI kd ∧ v.1 3 p = nI h ∧ v.1 4 p = nI a ∧ v.1 5 p = nI b
theorem minmax6 : ∀ m, m < 7 → (if (nI m : Int32) < 6 then nI m else 6) = nI m ∧ (if (0 : Int32) < nI m then nI m else 0) = nI m := by decide +kernel
theorem CoR.step {f : Nat → Int32} {nn k kd h a b : Nat} {w v : kW} (hv : CoR f nn k w v) (ht : TP f nn k kd h a b) : CoR f nn (k + 1) w (kset (kset (kset (kset v 2 k (nI kd)) 3 k (nI h)) 4 k (nI a)) 5 k (nI b)) := by
  obtain ⟨h1, h2, h3, h4⟩ := hv
  refine ⟨h1, h2, fun j hj => ?_, fun p hp => ?_⟩
  · rw [kset_row _ _ _ _ (by omega), kset_row _ _ _ _ (by omega), kset_row _ _ _ _ (by omega), kset_row _ _ _ _ (by omega)]; exact h3 j hj
  · by_cases e : p = k
    · subst e
      exact ⟨kd, h, a, b, ht, by simp [kset_1], by simp [kset_1], by simp [kset_1], by simp [kset_1]⟩
    · obtain ⟨kd', h', a', b', z1, z2, z3, z4, z5⟩ := h4 p (by omega)
      exact ⟨kd', h', a', b', z1, by simp [kset_1, e, z2], by simp [kset_1, e, z3], by simp [kset_1, e, z4], by simp [kset_1, e, z5]⟩
set_option maxRecDepth 100000 in
set_option maxHeartbeats 1000000 in
theorem s_X6_read_lp {w : kW} {kk ii l n : Nat} (hkk : kk < 4) (hl : w.1 (31 + kk) 2 = nI l) (hl5 : l ≤ 50) (hin : ii + n ≤ l) {f : Nat → Int32} (hf : ∀ s, s < n → w.1 (35 + kk) (ii + s) = f s) {nn : Nat} (hok : OKT f n nn) : ∀ q k, k + q = nn → ∀ v : kW, CoR f nn k w v → BS shC RX6 cX6_read 5 none 1 21 (fun r w' => r = none ∧ CoR f nn nn w w') 30 [(0, .ref (31 + kk)), (1, .int (nI ii)), (2, .ref 1), (3, .int (nI k))] [] v := by
  intro q
  have hn6 : nn ≤ 6 := hok.1.2.1
  have hnn := hok.2.1
  induction q with
  | zero =>
    intro k hk v hv
    refine b_iload_n dX6_read_30 rfl ?_
    refine b_aload_n dX6_read_31 rfl ?_
    refine b_geti dX6_read_32 gf_X6_36 rfl rfl ?_
    refine b_topi (y := nI nn) hv.1 ?_
    refine b_icmp_ge (tgt := 121) dX6_read_35 (by decide) (fun h35 => ?_) (fun h35 => ?_)
    · have e : k = nn := by omega
      subst e
      exact b_vret dX6_read_121 rfl ⟨rfl, hv⟩
    · exact absurd (nI_le (by omega) (by omega)) h35
  | succ q ih =>
    intro k hk v hv
    refine b_iload_n dX6_read_30 rfl ?_
    refine b_aload_n dX6_read_31 rfl ?_
    refine b_geti dX6_read_32 gf_X6_36 rfl rfl ?_
    refine b_topi (y := nI nn) hv.1 ?_
    refine b_icmp_ge (tgt := 121) dX6_read_35 (by decide) (fun h35 => ?_) (fun h35 => ?_)
    · exact absurd h35 (nI_ge (by omega) (by omega))
    · obtain ⟨kd, h, a, b, ht⟩ := hok.tp (p := k) (by omega)
      have ha6 : a < nn := ht.2.2.1.1
      have hb6 : b < nn := ht.2.2.2.1
      have hu : ∀ j, 30 < j → v.1 j = w.1 j := fun j hj => hv.2.2.1 j (by omega)
      refine b_iload_n dX6_read_38 rfl ?_
      refine b_iconst (v := 2) dX6_read_39 (by decide) ?_
      refine b_iadd dX6_read_40 ?_
      refine b_topi (y := nI (ii + 2)) (nI_add _ 2) ?_
      refine b_iconst (v := 5) dX6_read_41 (by decide) ?_
      refine b_iload_n dX6_read_42 rfl ?_
      refine b_imul dX6_read_43 ?_
      refine b_topi (y := nI (5 * k)) (nI_mul 5 k) ?_
      refine b_iadd dX6_read_44 ?_
      refine b_topi (y := nI (ii + 2 + 5 * k)) (nI_add _ _) ?_
      refine b_istore dX6_read_45 (by decide) ?_
      refine b_aload_n dX6_read_47 rfl ?_
      refine b_getr dX6_read_48 gf_X6_45 rfl rfl ?_
      refine b_iload_n dX6_read_51 rfl ?_
      refine b_aload_n dX6_read_52 rfl ?_
      refine b_iload dX6_read_53 rfl ?_
      refine b_iconst (v := 1) dX6_read_55 (by decide) ?_
      refine b_iadd dX6_read_56 ?_
      refine b_topi (y := nI (ii + (5 * k + 3))) (by rw [show ii + (5 * k + 3) = ii + 2 + 5 * k + 1 by omega]; exact nI_add _ 1) ?_
      refine b_callV1 dX6_read_57 lk_X6_15 (shK hkk) rfl rfl ⟨Nat.le_of_ble_eq_true rfl, Nat.le_of_ble_eq_true rfl⟩ (Nat.le_of_ble_eq_true rfl) (s_X5_at (l := l) hkk (i := ii + (5 * k + 3)) ((congrFun (hu (31 + kk) (by omega)) 2).trans hl) hl5 (by omega)) (fun r w57 h57 => ?_)
      obtain ⟨rfl, rfl⟩ := h57
      refine b_topi (y := f (5 * k + 3)) ((congrFun (hu (35 + kk) (by omega)) _).trans (hf (5 * k + 3) (by omega))) ?_
      refine b_callS1 dX6_read_60 lk_X6_24 ⟨Nat.le_of_ble_eq_true rfl, Nat.le_of_ble_eq_true rfl⟩ (Nat.le_of_ble_eq_true rfl) (s_X6_kindOf) (fun r w60 h60 => ?_)
      obtain ⟨rfl, rfl⟩ := h60
      refine b_topi (y := nI kd) (kofI_k ht.1) ?_
      refine b_iastN dX6_read_63 rfl ⟨by omega, by decide⟩ ?_
      refine b_wd (w' := kset v 2 k (nI kd)) rfl ?_
      have hu : ∀ j, 30 < j → (kset v 2 k (nI kd)).1 j = w.1 j := fun j hj => (kset_row _ _ _ _ (by omega)).trans (hu j hj)
      refine b_aload_n dX6_read_64 rfl ?_
      refine b_getr dX6_read_65 gf_X6_49 rfl rfl ?_
      refine b_iload_n dX6_read_68 rfl ?_
      refine b_aload_n dX6_read_69 rfl ?_
      refine b_iload dX6_read_70 rfl ?_
      refine b_iconst (v := 2) dX6_read_72 (by decide) ?_
      refine b_iadd dX6_read_73 ?_
      refine b_topi (y := nI (ii + (5 * k + 4))) (by rw [show ii + (5 * k + 4) = ii + 2 + 5 * k + 2 by omega]; exact nI_add _ 2) ?_
      refine b_callV1 dX6_read_74 lk_X6_15 (shK hkk) rfl rfl ⟨Nat.le_of_ble_eq_true rfl, Nat.le_of_ble_eq_true rfl⟩ (Nat.le_of_ble_eq_true rfl) (s_X5_at (l := l) hkk (i := ii + (5 * k + 4)) ((congrFun (hu (31 + kk) (by omega)) 2).trans hl) hl5 (by omega)) (fun r w74 h74 => ?_)
      obtain ⟨rfl, rfl⟩ := h74
      refine b_topi (y := f (5 * k + 4)) ((congrFun (hu (35 + kk) (by omega)) _).trans (hf (5 * k + 4) (by omega))) ?_
      refine b_callS1 dX6_read_77 lk_X6_21 ⟨Nat.le_of_ble_eq_true rfl, Nat.le_of_ble_eq_true rfl⟩ (Nat.le_of_ble_eq_true rfl) (s_X6_digit) (fun r w77 h77 => ?_)
      obtain ⟨rfl, rfl⟩ := h77
      refine b_topi (y := nI h) (dig_ge (by have := ht.2.1.2.1; omega) ht.2.1.2.2) ?_
      refine b_iastN dX6_read_80 rfl ⟨by omega, by decide⟩ ?_
      refine b_wd (w' := kset (kset v 2 k (nI kd)) 3 k (nI h)) rfl ?_
      have hu : ∀ j, 30 < j → (kset (kset v 2 k (nI kd)) 3 k (nI h)).1 j = w.1 j := fun j hj => (kset_row _ _ _ _ (by omega)).trans (hu j hj)
      refine b_aload_n dX6_read_81 rfl ?_
      refine b_getr dX6_read_82 gf_X6_52 rfl rfl ?_
      refine b_iload_n dX6_read_85 rfl ?_
      refine b_aload_n dX6_read_86 rfl ?_
      refine b_iload dX6_read_87 rfl ?_
      refine b_iconst (v := 3) dX6_read_89 (by decide) ?_
      refine b_iadd dX6_read_90 ?_
      refine b_topi (y := nI (ii + (5 * k + 5))) (by rw [show ii + (5 * k + 5) = ii + 2 + 5 * k + 3 by omega]; exact nI_add _ 3) ?_
      refine b_callV1 dX6_read_91 lk_X6_15 (shK hkk) rfl rfl ⟨Nat.le_of_ble_eq_true rfl, Nat.le_of_ble_eq_true rfl⟩ (Nat.le_of_ble_eq_true rfl) (s_X5_at (l := l) hkk (i := ii + (5 * k + 5)) ((congrFun (hu (31 + kk) (by omega)) 2).trans hl) hl5 (by omega)) (fun r w91 h91 => ?_)
      obtain ⟨rfl, rfl⟩ := h91
      refine b_topi (y := f (5 * k + 5)) ((congrFun (hu (35 + kk) (by omega)) _).trans (hf (5 * k + 5) (by omega))) ?_
      refine b_callS1 dX6_read_94 lk_X6_21 ⟨Nat.le_of_ble_eq_true rfl, Nat.le_of_ble_eq_true rfl⟩ (Nat.le_of_ble_eq_true rfl) (s_X6_digit) (fun r w94 h94 => ?_)
      obtain ⟨rfl, rfl⟩ := h94
      refine b_topi (y := nI a) (dig_ge (by omega) ht.2.2.1.2.2) ?_
      refine b_iastN dX6_read_97 rfl ⟨by omega, by decide⟩ ?_
      refine b_wd (w' := kset (kset (kset v 2 k (nI kd)) 3 k (nI h)) 4 k (nI a)) rfl ?_
      have hu : ∀ j, 30 < j → (kset (kset (kset v 2 k (nI kd)) 3 k (nI h)) 4 k (nI a)).1 j = w.1 j := fun j hj => (kset_row _ _ _ _ (by omega)).trans (hu j hj)
      refine b_aload_n dX6_read_98 rfl ?_
      refine b_getr dX6_read_99 gf_X6_55 rfl rfl ?_
      refine b_iload_n dX6_read_102 rfl ?_
      refine b_aload_n dX6_read_103 rfl ?_
      refine b_iload dX6_read_104 rfl ?_
      refine b_iconst (v := 4) dX6_read_106 (by decide) ?_
      refine b_iadd dX6_read_107 ?_
      refine b_topi (y := nI (ii + (5 * k + 6))) (by rw [show ii + (5 * k + 6) = ii + 2 + 5 * k + 4 by omega]; exact nI_add _ 4) ?_
      refine b_callV1 dX6_read_108 lk_X6_15 (shK hkk) rfl rfl ⟨Nat.le_of_ble_eq_true rfl, Nat.le_of_ble_eq_true rfl⟩ (Nat.le_of_ble_eq_true rfl) (s_X5_at (l := l) hkk (i := ii + (5 * k + 6)) ((congrFun (hu (31 + kk) (by omega)) 2).trans hl) hl5 (by omega)) (fun r w108 h108 => ?_)
      obtain ⟨rfl, rfl⟩ := h108
      refine b_topi (y := f (5 * k + 6)) ((congrFun (hu (35 + kk) (by omega)) _).trans (hf (5 * k + 6) (by omega))) ?_
      refine b_callS1 dX6_read_111 lk_X6_21 ⟨Nat.le_of_ble_eq_true rfl, Nat.le_of_ble_eq_true rfl⟩ (Nat.le_of_ble_eq_true rfl) (s_X6_digit) (fun r w111 h111 => ?_)
      obtain ⟨rfl, rfl⟩ := h111
      refine b_topi (y := nI b) (dig_ge (by omega) ht.2.2.2.2.2) ?_
      refine b_iastN dX6_read_114 rfl ⟨by omega, by decide⟩ ?_
      refine b_iinc dX6_read_115 rfl (nI_inc k) (by decide) ?_
      refine b_goto (tgt := 30) dX6_read_118 (by decide) ?_
      refine b_sub [2, 3, 4, 0] rfl ?_
      exact ih (k + 1) (by omega) _ (hv.step ht)
set_option maxRecDepth 100000 in
set_option maxHeartbeats 1000000 in
theorem s_X6_read {w : kW} {kk ii l n : Nat} (hkk : kk < 4) (hl : w.1 (31 + kk) 2 = nI l) (hl5 : l ≤ 50) (hin : ii + n ≤ l) {f : Nat → Int32} (hf : ∀ s, s < n → w.1 (35 + kk) (ii + s) = f s) {nn : Nat} (hok : OKT f n nn) : Spec shC yX6_read cX6_read 5 none 1 21 [.ref (31 + kk), .int (nI ii), .ref 1] w (fun r w' => r = none ∧ CoR f nn nn w w') := by
  have hn6 : nn ≤ 6 := hok.1.2.1
  have hnn := hok.2.1
  refine k_enter pn_X6 (Nat.le_of_ble_eq_true rfl) ?_
  refine b_aload_n dX6_read_0 rfl ?_
  refine b_iconst (v := 0) dX6_read_1 (by decide) ?_
  refine b_bipush (v := 6) dX6_read_2 (by decide) ?_
  refine b_aload_n dX6_read_4 rfl ?_
  refine b_iload_n dX6_read_5 rfl ?_
  refine b_iconst (v := 1) dX6_read_6 (by decide) ?_
  refine b_iadd dX6_read_7 ?_
  refine b_topi (y := nI (ii + 1)) (nI_add _ 1) ?_
  refine b_callV1 dX6_read_8 lk_X6_15 (shK hkk) rfl rfl ⟨Nat.le_of_ble_eq_true rfl, Nat.le_of_ble_eq_true rfl⟩ (Nat.le_of_ble_eq_true rfl) (s_X5_at (l := l) hkk (i := ii + 1) hl hl5 (by omega)) (fun r w8 h8 => ?_)
  obtain ⟨rfl, rfl⟩ := h8
  refine b_callS1 dX6_read_11 lk_X6_21 ⟨Nat.le_of_ble_eq_true rfl, Nat.le_of_ble_eq_true rfl⟩ (Nat.le_of_ble_eq_true rfl) (s_X6_digit) (fun r w11 h11 => ?_)
  obtain ⟨rfl, rfl⟩ := h11
  refine b_topi (y := nI nn) (by rw [hf 1 (by omega)]; exact dig_ge (by omega) hok.1.2.2) ?_
  refine b_min dX6_read_14 lk_X6_27 (Nat.le_of_ble_eq_true rfl) (Nat.le_of_ble_eq_true rfl) ?_
  refine b_topi (y := nI nn) (minmax6 nn (by omega)).1 ?_
  refine b_max dX6_read_17 lk_X6_33 (Nat.le_of_ble_eq_true rfl) (Nat.le_of_ble_eq_true rfl) ?_
  refine b_topi (y := nI nn) (minmax6 nn (by omega)).2 ?_
  refine b_puti dX6_read_20 gf_X6_36 gs_X2_0 rfl rfl ?_
  refine b_aload_n dX6_read_23 rfl ?_
  refine b_iconst (v := 0) dX6_read_24 (by decide) ?_
  refine b_puti dX6_read_25 gf_X6_42 gs_X2_1 rfl rfl ?_
  refine b_iconst (v := 0) dX6_read_28 (by decide) ?_
  refine b_istore_n dX6_read_29 (by decide) ?_
  refine b_sub [1, 2, 3, 0] rfl ?_
  refine s_X6_read_lp hkk hl hl5 hin hf hok nn 0 (by omega) _ ⟨rfl, rfl, fun j hj => ?_, fun p hp => absurd hp (Nat.not_lt_zero _)⟩
  show (kset (kset w 1 0 (nI nn)) 1 1 0).1 j = w.1 j
  rw [kset_row _ _ _ _ (by omega), kset_row _ _ _ _ (by omega)]
