def allTP (f : Nat → Int32) (nn p : Nat) (v : kW) : Prop := ∀ q, q < p → ∃ k h a b, TP f nn q k h a b ∧ RDP v q k h a b
def RCo (f : Nat → Int32) (S n : Nat) (w : kW) (r : Option Value) (w' : kW) : Prop := (r = some (.int 1) ∧ ∃ nn, OKT f n nn ∧ w'.1 0 11 = nI nn ∧ allTP f nn nn w' ∧ mKc w w') ∨ (r = some (.int 0) ∧ ∃ t, FF f n t ∧ w'.1 0 10 = nI (S + t) ∧ mKc w w')
theorem FF_mk {f : Nat → Int32} {n t nn : Nat} (hc : cnt f nn) (h1 : t ≤ n) (h2 : ∀ pl, pl < t → goes f pl) (h3 : t < n → ¬ goes f t) (h4 : t ≠ 2 + 5 * nn) : FF f n t := ⟨h1, h2, h3, fun e m hm z => h4 (by rw [cnt_inj hm hc] at z; omega)⟩

set_option maxRecDepth 100000 in
set_option maxHeartbeats 1000000 in
theorem s_X8_readCoast_lp {w : kW} {S n nn : Nat} (hS : S + n ≤ 200) (hc : cnt (fun x => w.1 3 (S + x)) nn) : ∀ q k, k + q = nn → ∀ v : kW, v.1 0 10 = nI (S + (5 * k + 2)) → v.1 0 11 = nI nn → 5 * k + 2 ≤ n → mKc w v → goesR (fun x => w.1 3 (S + x)) 0 (5 * k + 2) → allTP (fun x => w.1 3 (S + x)) nn k v → BS shM RX8 cX8_readCoast 3 (some .boolean) 3 70 (fun r w' => RCo (fun x => w.1 3 (S + x)) S n w r w') 59 [(0, .ref 0), (1, .int (nI (S + n))), (2, .int (nI k))] [] v := by
  intro q
  have hnn := hc.2.1
  induction q with
  | zero =>
    intro k hk v h1 h2 h3 h4 h5 h6
    refine b_iload_n dX8_readCoast_59 rfl ?_
    refine b_aload_n dX8_readCoast_60 rfl ?_
    refine b_geti dX8_readCoast_61 gf_X8_129 rfl rfl ?_
    refine b_topi (y := nI nn) h2 ?_
    refine b_icmp_ge (tgt := 118) dX8_readCoast_64 (by decide) (fun h64 => ?_) (fun h64 => ?_)
    · refine b_aload_n dX8_readCoast_118 rfl ?_
      refine b_geti dX8_readCoast_119 gf_X8_108 rfl rfl ?_
      refine b_topi (y := nI (S + (5 * k + 2))) h1 ?_
      refine b_iload_n dX8_readCoast_122 rfl ?_
      refine b_icmp_ne (tgt := 130) dX8_readCoast_123 (by decide) (fun h123 => ?_) (fun h123 => ?_)
      · refine b_iconst (v := 0) dX8_readCoast_130 (by decide) ?_
        have e : k = nn := by omega
        subst e
        have e9 : ¬ S + (5 * k + 2) = S + n := fun z => h123 (by rw [z])
        refine b_zret (Or.inl rfl) dX8_readCoast_131 rfl (Or.inr ⟨rfl, 5 * k + 2, ⟨h3, fun pl hpl => h5 pl (Nat.zero_le _) hpl, fun hlt hg => ?_, fun z => by omega⟩, h1, h4⟩)
        have := ((goes_2 hc (by omega)).mp hg).1
        omega
      · refine b_iconst (v := 1) dX8_readCoast_126 (by decide) ?_
        refine b_goto (tgt := 131) dX8_readCoast_127 (by decide) ?_
        have e : k = nn := by omega
        subst e
        have e9 := nI_inj (by omega) (by omega) h123
        exact b_zret (Or.inr rfl) dX8_readCoast_131 rfl (Or.inl ⟨rfl, k, ⟨hc, by omega, fun pl hpl => h5 pl (Nat.zero_le _) (by omega)⟩, h2, h6, h4⟩)
    · exact absurd (nI_le (by omega) (by omega)) h64
  | succ q ih =>
    intro k hk v h1 h2 h3 h4 h5 h6
    have hp : k < nn := by omega
    have e3 : ∀ x, v.1 3 x = w.1 3 x := fun x => congrFun (h4.1 3 (by decide) (by decide) (by decide) (by decide)) x
    refine b_iload_n dX8_readCoast_59 rfl ?_
    refine b_aload_n dX8_readCoast_60 rfl ?_
    refine b_geti dX8_readCoast_61 gf_X8_129 rfl rfl ?_
    refine b_topi (y := nI nn) h2 ?_
    refine b_icmp_ge (tgt := 118) dX8_readCoast_64 (by decide) (fun h64 => ?_) (fun h64 => ?_)
    · exact absurd h64 (nI_ge (by omega) (by omega))
    · refine b_aload_n dX8_readCoast_67 rfl ?_
      refine b_geti dX8_readCoast_68 gf_X8_108 rfl rfl ?_
      refine b_topi (y := nI (S + (5 * k + 2))) h1 ?_
      refine b_iload_n dX8_readCoast_71 rfl ?_
      refine b_icmp_ge (tgt := 89) dX8_readCoast_72 (by decide) (fun h72 => ?_) (fun h72 => ?_)
      · refine b_iconst (v := 0) dX8_readCoast_89 (by decide) ?_
        exact b_zret (Or.inl rfl) dX8_readCoast_90 rfl (Or.inr ⟨rfl, 5 * k + 2, FF_mk hc h3 (fun pl hpl => h5 pl (Nat.zero_le _) hpl) (fun hlt => absurd ((nI_leI (by omega) (by omega)).mp h72) (by omega)) (by omega), h1, h4⟩)
      · have hlt2 : 5 * k + 2 < n := Nat.not_le.mp (fun z => h72 (nI_le (by omega) (by omega)))
        refine b_aload_n dX8_readCoast_75 rfl ?_
        refine b_getr dX8_readCoast_76 gf_X8_16 rfl rfl ?_
        refine b_aload_n dX8_readCoast_79 rfl ?_
        refine b_geti dX8_readCoast_80 gf_X8_108 rfl rfl ?_
        refine b_topi (y := nI (S + (5 * k + 2))) h1 ?_
        refine b_ialdN dX8_readCoast_83 rfl ⟨by omega, by decide⟩ ?_
        refine b_bipush (v := 59) dX8_readCoast_84 (by decide) ?_
        refine b_icmp_eq (tgt := 91) dX8_readCoast_86 (by decide) (fun h86 => ?_) (fun h86 => ?_)
        · have hg2 : goesR (fun x => w.1 3 (S + x)) 0 (5 * k + 3) := h5.up ((goes_2 hc (by omega)).mpr ((gz_2 hp).mpr (by rw [← e3]; exact h86)))
          have eqF : (fun x => (kset v 0 10 (nI (S + (5 * k + 3)))).1 3 (S + x)) = (fun x => w.1 3 (S + x)) := funext fun x => e3 (S + x)
          refine b_aload_n dX8_readCoast_91 rfl ?_
          refine b_dup dX8_readCoast_92 rfl ?_
          refine b_geti dX8_readCoast_93 gf_X8_108 rfl rfl ?_
          refine b_topi (y := nI (S + (5 * k + 2))) h1 ?_
          refine b_iconst (v := 1) dX8_readCoast_96 (by decide) ?_
          refine b_iadd dX8_readCoast_97 ?_
          refine b_topi (y := nI (S + (5 * k + 3))) (nI_1 _) ?_
          refine b_puti dX8_readCoast_98 gf_X8_108 gs_X8_10 rfl rfl ?_
          refine b_aload_n dX8_readCoast_101 rfl ?_
          refine b_iload_n dX8_readCoast_102 rfl ?_
          refine b_iload_n dX8_readCoast_103 rfl ?_
          refine b_callV2 dX8_readCoast_104 lk_X8_142 rfl rfl rfl ⟨Nat.le_of_ble_eq_true rfl, Nat.le_of_ble_eq_true rfl⟩ (Nat.le_of_ble_eq_true rfl) (s_X8_readPerson (w := (kset v 0 10 (nI (S + (5 * k + 3))))) (n := n) (nn := nn) hS (by rw [eqF]; exact hc) hp rfl (by omega) h2) (fun r w104 h104 => ?_)
          rw [eqF] at h104
          rcases h104 with ⟨rfl, h104⟩ | ⟨rfl, h104⟩
          · refine b_if_ne (tgt := 112) dX8_readCoast_107 (by decide) (fun h107 => ?_) (fun h107 => absurd h107 (by decide))
            refine b_iinc dX8_readCoast_112 rfl (nI_inc k) (by decide) ?_
            refine b_goto (tgt := 59) dX8_readCoast_115 (by decide) ?_
            refine b_sub [1, 2, 0] rfl ?_
            obtain ⟨o1, o2, o3, o4, o5, o6, o7⟩ := h104
            refine ih (k + 1) (by omega) _ o3 o4 (by omega) ((h4.num (by decide)).tr o7) (fun j a b => if z : j < 5 * k + 3 then hg2 j a z else o2 j (by omega) (by omega)) (fun q9 hq => ?_)
            by_cases e : q9 = k
            · subst e; exact o5
            · obtain ⟨kk, hh, aa, bb, z1, z2, z3, z4, z5⟩ := h6 q9 (by omega)
              obtain ⟨y1, y2, y3, y4⟩ := o6 q9 (by omega)
              exact ⟨kk, hh, aa, bb, z1, y1.trans z2, y2.trans z3, y3.trans z4, y4.trans z5⟩
          · refine b_if_ne (tgt := 112) dX8_readCoast_107 (by decide) (fun h107 => absurd h107 (by decide)) (fun h107 => ?_)
            refine b_iconst (v := 0) dX8_readCoast_110 (by decide) ?_
            obtain ⟨t, t1, t2, t3, t4, t5, t6, t7⟩ := h104
            exact b_zret (Or.inl rfl) dX8_readCoast_111 rfl (Or.inr ⟨rfl, t, FF_mk hc t3 (fun pl hpl => if z : pl < 5 * k + 3 then hg2 pl (Nat.zero_le _) (by omega) else t4 pl (by omega) hpl) t5 (by omega), t6, (h4.num (by decide)).tr t7⟩)
        · refine b_iconst (v := 0) dX8_readCoast_89 (by decide) ?_
          exact b_zret (Or.inl rfl) dX8_readCoast_90 rfl (Or.inr ⟨rfl, 5 * k + 2, FF_mk hc h3 (fun pl hpl => h5 pl (Nat.zero_le _) hpl) (fun hlt hg => h86 (by rw [e3]; exact (gz_2 hp).mp ((goes_2 hc (by omega)).mp hg))) (by omega), h1, h4⟩)

set_option maxRecDepth 100000 in
set_option maxHeartbeats 1000000 in
theorem s_X8_readCoast {w : kW} {S n : Nat} (hS : S + n ≤ 200) (ha : w.1 0 10 = nI S) : Spec shM yX8_readCoast cX8_readCoast 3 (some .boolean) 3 70 [.ref 0, .int (nI (S + n))] w (fun r w' => RCo (fun x => w.1 3 (S + x)) S n w r w') := by
  refine k_enter pn_X8 (Nat.le_of_ble_eq_true rfl) ?_
  refine b_aload_n dX8_readCoast_0 rfl ?_
  refine b_geti dX8_readCoast_1 gf_X8_108 rfl rfl ?_
  refine b_topi (y := nI S) ha ?_
  refine b_iload_n dX8_readCoast_4 rfl ?_
  refine b_icmp_ge (tgt := 22) dX8_readCoast_5 (by decide) (fun h5 => ?_) (fun h5 => ?_)
  · refine b_iconst (v := 0) dX8_readCoast_22 (by decide) ?_
    have e := (nI_leI (by omega) (by omega)).mp h5
    exact b_zret (Or.inl rfl) dX8_readCoast_23 rfl (Or.inr ⟨rfl, 0, ⟨by omega, fun pl hpl => absurd hpl (by omega), fun hlt => by omega, fun _ m hm z => by omega⟩, ha, mKc.rf⟩)
  · have hlt : 0 < n := by
      rcases Nat.eq_zero_or_pos n with e | e
      · subst e; exact absurd (nI_le (Nat.le_refl S) (by omega)) h5
      · exact e
    refine b_aload_n dX8_readCoast_8 rfl ?_
    refine b_getr dX8_readCoast_9 gf_X8_16 rfl rfl ?_
    refine b_aload_n dX8_readCoast_12 rfl ?_
    refine b_geti dX8_readCoast_13 gf_X8_108 rfl rfl ?_
    refine b_topi (y := nI S) ha ?_
    refine b_ialdN dX8_readCoast_16 rfl ⟨by omega, by decide⟩ ?_
    refine b_bipush (v := 100) dX8_readCoast_17 (by decide) ?_
    refine b_icmp_eq (tgt := 24) dX8_readCoast_19 (by decide) (fun h19 => ?_) (fun h19 => ?_)
    · have hg0 : goes (fun x => w.1 3 (S + x)) 0 := goes_0.mpr h19
      refine b_aload_n dX8_readCoast_24 rfl ?_
      refine b_dup dX8_readCoast_25 rfl ?_
      refine b_geti dX8_readCoast_26 gf_X8_108 rfl rfl ?_
      refine b_topi (y := nI S) ha ?_
      refine b_iconst (v := 1) dX8_readCoast_29 (by decide) ?_
      refine b_iadd dX8_readCoast_30 ?_
      refine b_topi (y := nI (S + 1)) (nI_1 _) ?_
      refine b_puti dX8_readCoast_31 gf_X8_108 gs_X8_10 rfl rfl ?_
      refine b_aload_n dX8_readCoast_34 rfl ?_
      refine b_aload_n dX8_readCoast_35 rfl ?_
      refine b_iload_n dX8_readCoast_36 rfl ?_
      refine b_iconst (v := 2) dX8_readCoast_37 (by decide) ?_
      refine b_bipush (v := 6) dX8_readCoast_38 (by decide) ?_
      refine b_callV3 dX8_readCoast_40 lk_X8_138 rfl rfl rfl ⟨Nat.le_of_ble_eq_true rfl, Nat.le_of_ble_eq_true rfl⟩ (Nat.le_of_ble_eq_true rfl) (s_X8_digit (lo := 2) (hi := 6) rfl (show S + 1 ≤ S + n by omega) hS ⟨by omega, by omega⟩) (fun r w40 h40 => ?_)
      rcases h40 with ⟨d, d1, d2, d3, d4, rfl, rfl⟩ | ⟨hno, rfl, rfl⟩
      all_goals try change w.1 3 (S + 1) = _ at d4
      · refine b_puti dX8_readCoast_43 gf_X8_129 gs_X8_11 rfl rfl ?_
        refine b_aload_n dX8_readCoast_46 rfl ?_
        refine b_geti dX8_readCoast_47 gf_X8_129 rfl rfl ?_
        refine b_topi (y := nI d) rfl ?_
        refine b_bipush (v := (-9)) dX8_readCoast_50 (by decide) ?_
        refine b_icmp_ne (tgt := 57) dX8_readCoast_52 (by decide) (fun h52 => ?_) (fun h52 => ?_)
        · refine b_iconst (v := 0) dX8_readCoast_57 (by decide) ?_
          refine b_istore_n dX8_readCoast_58 (by decide) ?_
          refine b_sub [1, 2, 0] rfl ?_
          have hcn : cnt (fun x => w.1 3 (S + x)) d := ⟨d1, d2, d4⟩
          exact s_X8_readCoast_lp hS hcn d 0 (by omega) _ rfl rfl (by omega) (((mKc.rf.num (by decide)).num (by decide)).num (by decide)) (fun j a b => if z : j = 0 then by subst z; exact hg0 else by (have e : j = 1 := by omega); subst e; exact goes_1.mpr ⟨d, hcn⟩) (fun q hq => absurd hq (Nat.not_lt_zero _))
        · exact absurd h52 (nI_ne9 (by omega))
      · refine b_puti dX8_readCoast_43 gf_X8_129 gs_X8_11 rfl rfl ?_
        refine b_aload_n dX8_readCoast_46 rfl ?_
        refine b_geti dX8_readCoast_47 gf_X8_129 rfl rfl ?_
        refine b_topi (y := (-9)) rfl ?_
        refine b_bipush (v := (-9)) dX8_readCoast_50 (by decide) ?_
        refine b_icmp_ne (tgt := 57) dX8_readCoast_52 (by decide) (fun h52 => absurd h52 (by decide)) (fun h52 => ?_)
        refine b_iconst (v := 0) dX8_readCoast_55 (by decide) ?_
        refine b_zret (Or.inl rfl) dX8_readCoast_56 rfl (Or.inr ⟨rfl, 1, ⟨by omega, fun pl hpl => by (have e : pl = 0 := by omega); subst e; exact hg0, fun hlt hg => ?_, fun _ m hm z => by omega⟩, rfl, (mKc.rf.num (by decide)).num (by decide)⟩)
        obtain ⟨nn, z1, z2, z3⟩ := goes_1.mp hg
        exact hno (by omega) ⟨nn, z1, z2, z3⟩
    · refine b_iconst (v := 0) dX8_readCoast_22 (by decide) ?_
      exact b_zret (Or.inl rfl) dX8_readCoast_23 rfl (Or.inr ⟨rfl, 0, ⟨by omega, fun pl hpl => absurd hpl (by omega), fun hlt hg => h19 (goes_0.mp hg), fun _ m hm z => by omega⟩, ha, mKc.rf⟩)
