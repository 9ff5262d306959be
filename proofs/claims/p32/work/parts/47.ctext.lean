/-! ===== the text of a coast ===== -/
def kofI (x : Int32) : Int32 := if x = 103 then 0 else if x = 104 then 1 else if x = 111 then 2 else -9
theorem div5 : ∀ a, a < 60 → nI a / 5 = nI (a / 5) ∧ nI a - nI a / 5 * 5 = nI (a % 5) := by decide +kernel
theorem gzr0 {f : Nat → Int32} {nn pl : Nat} (h : (pl - 2) % 5 = 0) (hp : (pl - 2) / 5 < nn) : gz f nn pl ↔ f pl = 59 := by
  constructor
  · rintro ⟨_, ⟨_, z⟩ | ⟨y, _⟩ | ⟨y, _⟩ | ⟨y, _⟩⟩
    · exact z
    all_goals omega
  · exact fun z => ⟨hp, Or.inl ⟨h, z⟩⟩
theorem gzr1 {f : Nat → Int32} {nn pl : Nat} (h : (pl - 2) % 5 = 1) (hp : (pl - 2) / 5 < nn) : gz f nn pl ↔ (f pl = 103 ∨ f pl = 104 ∨ f pl = 111) := by
  constructor
  · rintro ⟨_, ⟨y, _⟩ | ⟨_, z⟩ | ⟨y, _⟩ | ⟨y, _⟩⟩
    · omega
    · exact z
    all_goals omega
  · exact fun z => ⟨hp, Or.inr (Or.inl ⟨h, z⟩)⟩
theorem gzr2 {f : Nat → Int32} {nn pl : Nat} (h : (pl - 2) % 5 = 2) (hp : (pl - 2) / 5 < nn) : gz f nn pl ↔ ∃ d, 1 ≤ d ∧ d ≤ 9 ∧ f pl = nI (48 + d) := by
  constructor
  · rintro ⟨_, ⟨y, _⟩ | ⟨y, _⟩ | ⟨_, z⟩ | ⟨y, _⟩⟩
    · omega
    · omega
    · exact z
    · omega
  · exact fun z => ⟨hp, Or.inr (Or.inr (Or.inl ⟨h, z⟩))⟩
theorem gzr3 {f : Nat → Int32} {nn pl : Nat} (h : 3 ≤ (pl - 2) % 5) (hp : (pl - 2) / 5 < nn) : gz f nn pl ↔ ∃ d, d < nn ∧ d ≠ (pl - 2) / 5 ∧ f pl = nI (48 + d) := by
  constructor
  · rintro ⟨_, ⟨y, _⟩ | ⟨y, _⟩ | ⟨y, _⟩ | ⟨_, z⟩⟩
    · omega
    · omega
    · omega
    · exact z
  · exact fun z => ⟨hp, Or.inr (Or.inr (Or.inr ⟨h, z⟩))⟩
theorem kofI_ne {x : Int32} : ¬ kofI x = -9 ↔ (x = 103 ∨ x = 104 ∨ x = 111) := by
  unfold kofI
  by_cases h1 : x = 103
  · rw [if_pos h1]; exact ⟨fun _ => Or.inl h1, fun _ => by decide⟩
  · rw [if_neg h1]
    by_cases h2 : x = 104
    · rw [if_pos h2]; exact ⟨fun _ => Or.inr (Or.inl h2), fun _ => by decide⟩
    · rw [if_neg h2]
      by_cases h3 : x = 111
      · rw [if_pos h3]; exact ⟨fun _ => Or.inr (Or.inr h3), fun _ => by decide⟩
      · rw [if_neg h3]; exact ⟨fun z => absurd rfl z, fun z => z.elim (fun y => absurd y h1) (fun y => y.elim (fun y => absurd y h2) (fun y => absurd y h3))⟩
theorem kofI_k {x : Int32} {k : Nat} (h : kcode x k) : kofI x = nI k := by
  rcases h with ⟨rfl, rfl⟩ | ⟨rfl, rfl⟩ | ⟨rfl, rfl⟩ <;> rfl
theorem dig_ge {x : Int32} {lo : Nat} (hl : lo ≤ 100) (h : x = nI (48 + lo)) : x - 48 = nI lo := by
  rw [h, show nI (48 + lo) - 48 = nI (48 + lo - 48) from nI_sub (b := 48) (by omega)]
  congr 1; omega
theorem dig3 {x : Int32} {nn : Nat} (hn : nn ≤ 6) (h1 : ¬ x < 48) (h2 : x - 48 < nI nn) : ∃ d, d < nn ∧ x = nI (48 + d) := by
  have h0 : ¬ x < 0 := fun z => h1 (Int32.lt_trans z (by decide))
  have hx : x ≤ 2147483647 := by
    rw [Int32.le_iff_toInt_le]
    have := Int32.toInt_lt x
    have e : (2147483647 : Int32).toInt = 2147483647 := by decide
    omega
  obtain ⟨j, hj, rfl⟩ := nI_of2 (n := 2147483647) (M := 2147483647) (by decide) h0 hx
  have h48 : 48 ≤ j := Nat.not_lt.mp (fun z => h1 (nI_lt (b := 48) z (by decide)))
  rw [show nI j - 48 = nI (j - 48) from nI_sub (b := 48) h48] at h2
  have : j - 48 < nn := Nat.not_le.mp (fun z => absurd (nI_le z (by omega)) (Int32.not_le.mpr h2))
  exact ⟨j - 48, this, by congr 1; omega⟩
set_option maxRecDepth 100000 in
set_option maxHeartbeats 1000000 in
theorem s_X6_digit {w : kW} {x : Int32} : Spec shC yX6_digit cX6_digit 1 (some .int) 0 0 [.int x] w (fun r w' => r = some (.int (x - 48)) ∧ w = w') := by
  refine k_enter pn_X6 (Nat.le_of_ble_eq_true rfl) ?_
  refine b_iload_n dX6_digit_0 rfl ?_
  refine b_bipush (v := 48) dX6_digit_1 (by decide) ?_
  refine b_isub dX6_digit_3 ?_
  refine b_iret dX6_digit_4 rfl ⟨?_, ?_⟩
  · rfl
  · rfl
set_option maxRecDepth 100000 in
set_option maxHeartbeats 1000000 in
theorem s_X6_kindOf {w : kW} {x : Int32} : Spec shC yX6_kindOf cX6_kindOf 1 (some .int) 0 0 [.int x] w (fun r w' => r = some (.int (kofI x)) ∧ w = w') := by
  refine k_enter pn_X6 (Nat.le_of_ble_eq_true rfl) ?_
  refine b_iload_n dX6_kindOf_0 rfl ?_
  by_cases e1 : x = 103
  · subst e1
    refine b_lsw (off := 35) (tgt := 36) dX6_kindOf_1 (by decide) (by decide) (by decide) ?_
    refine b_iconst (v := 0) dX6_kindOf_36 (by decide) ?_
    exact b_iret dX6_kindOf_37 rfl ⟨rfl, rfl⟩
  · by_cases e2 : x = 104
    · subst e2
      refine b_lsw (off := 37) (tgt := 38) dX6_kindOf_1 (by decide) (by decide) (by decide) ?_
      refine b_iconst (v := 1) dX6_kindOf_38 (by decide) ?_
      exact b_iret dX6_kindOf_39 rfl ⟨rfl, rfl⟩
    · by_cases e3 : x = 111
      · subst e3
        refine b_lsw (off := 39) (tgt := 40) dX6_kindOf_1 (by decide) (by decide) (by decide) ?_
        refine b_iconst (v := 2) dX6_kindOf_40 (by decide) ?_
        exact b_iret dX6_kindOf_41 rfl ⟨rfl, rfl⟩
      · have n1 : ¬ (103 : Int) = x.toInt := fun z => e1 (Int32.toInt_inj.mp z.symm)
        have n2 : ¬ (104 : Int) = x.toInt := fun z => e2 (Int32.toInt_inj.mp z.symm)
        have n3 : ¬ (111 : Int) = x.toInt := fun z => e3 (Int32.toInt_inj.mp z.symm)
        refine b_lsw (off := 41) (tgt := 42) dX6_kindOf_1 (by decide) (show (if (103 : Int) = x.toInt then (35 : Int) else if (104 : Int) = x.toInt then 37 else if (111 : Int) = x.toInt then 39 else 41) = 41 by rw [if_neg n1, if_neg n2, if_neg n3]) (by decide) ?_
        refine b_bipush (v := (-9)) dX6_kindOf_42 (by decide) ?_
        exact b_iret dX6_kindOf_44 rfl ⟨by unfold kofI; rw [if_neg e1, if_neg e2, if_neg e3], rfl⟩
set_option maxRecDepth 100000 in
set_option maxHeartbeats 1000000 in
theorem s_X6_goesOn {w : kW} {kk ii l n pl : Nat} (hkk : kk < 4) (hl : w.1 (31 + kk) 2 = nI l) (hl5 : l ≤ 50) (hin : ii + n ≤ l) {f : Nat → Int32} (hf : ∀ s, s < n → w.1 (35 + kk) (ii + s) = f s) (hpl : pl < n) (hcn : 2 ≤ pl → ∃ nn, cnt f nn) : Spec shC yX6_goesOn cX6_goesOn 6 (some .boolean) 1 21 [.ref (31 + kk), .int (nI ii), .int (nI pl)] w (fun r w' => w = w' ∧ ((r = some (.int 1) ∧ (goes f pl)) ∨ (r = some (.int 0) ∧ ¬ (goes f pl)))) := by
  refine k_enter pn_X6 (Nat.le_of_ble_eq_true rfl) ?_
  refine b_aload_n dX6_goesOn_0 rfl ?_
  refine b_iload_n dX6_goesOn_1 rfl ?_
  refine b_iload_n dX6_goesOn_2 rfl ?_
  refine b_iadd dX6_goesOn_3 ?_
  refine b_topi (y := nI (ii + pl)) (nI_add _ _) ?_
  refine b_callV1 dX6_goesOn_4 lk_X6_15 (shK hkk) rfl rfl ⟨Nat.le_of_ble_eq_true rfl, Nat.le_of_ble_eq_true rfl⟩ (Nat.le_of_ble_eq_true rfl) (s_X5_at (l := l) hkk hl hl5 (by omega)) (fun r w4 h4 => ?_)
  obtain ⟨rfl, rfl⟩ := h4
  refine b_topi (y := f pl) (hf pl hpl) ?_
  refine b_istore_n dX6_goesOn_7 (by decide) ?_
  refine b_iload_n dX6_goesOn_8 rfl ?_
  refine b_if_ne (tgt := 24) dX6_goesOn_9 (by decide) (fun h9 => ?_) (fun h9 => ?_)
  · refine b_iload_n dX6_goesOn_24 rfl ?_
    refine b_iconst (v := 1) dX6_goesOn_25 (by decide) ?_
    refine b_icmp_ne (tgt := 47) dX6_goesOn_26 (by decide) (fun h26 => ?_) (fun h26 => ?_)
    · have h2 : 2 ≤ pl := by
        rcases (show pl = 0 ∨ pl = 1 ∨ 2 ≤ pl by omega) with z | z | z
        · exact absurd (by rw [z]; rfl) h9
        · exact absurd (by rw [z]; rfl) h26
        · exact z
      obtain ⟨nn, hcn⟩ := hcn h2
      refine b_aload_n dX6_goesOn_47 rfl ?_
      refine b_iload_n dX6_goesOn_48 rfl ?_
      refine b_iconst (v := 1) dX6_goesOn_49 (by decide) ?_
      refine b_iadd dX6_goesOn_50 ?_
      refine b_topi (y := nI (ii + 1)) (nI_add _ 1) ?_
      refine b_callV1 dX6_goesOn_51 lk_X6_15 (shK hkk) rfl rfl ⟨Nat.le_of_ble_eq_true rfl, Nat.le_of_ble_eq_true rfl⟩ (Nat.le_of_ble_eq_true rfl) (s_X5_at (l := l) hkk hl hl5 (by omega)) (fun r w51 h51 => ?_)
      obtain ⟨rfl, rfl⟩ := h51
      refine b_callS1 dX6_goesOn_54 lk_X6_21 ⟨Nat.le_of_ble_eq_true rfl, Nat.le_of_ble_eq_true rfl⟩ (Nat.le_of_ble_eq_true rfl) (s_X6_digit) (fun r w54 h54 => ?_)
      obtain ⟨rfl, rfl⟩ := h54
      refine b_topi (y := nI nn) (by rw [hf 1 (by omega)]; exact dig_ge (by have := hcn.2.1; omega) hcn.2.2) ?_
      refine b_istore dX6_goesOn_57 (by decide) ?_
      refine b_iload_n dX6_goesOn_59 rfl ?_
      refine b_iconst (v := 2) dX6_goesOn_60 (by decide) ?_
      refine b_isub dX6_goesOn_61 ?_
      refine b_topi (y := nI (pl - 2)) (nI_sub (b := 2) h2) ?_
      refine b_iconst (v := 5) dX6_goesOn_62 (by decide) ?_
      refine b_idiv dX6_goesOn_63 (by decide) ?_
      refine b_topi (y := nI ((pl - 2) / 5)) (div5 _ (by omega)).1 ?_
      refine b_istore dX6_goesOn_64 (by decide) ?_
      refine b_iload dX6_goesOn_66 rfl ?_
      refine b_iload dX6_goesOn_68 rfl ?_
      refine b_icmp_lt (tgt := 75) dX6_goesOn_70 (by decide) (fun h70 => ?_) (fun h70 => ?_)
      · have hpn : (pl - 2) / 5 < nn := Nat.not_le.mp (fun z => absurd h70 (Int32.not_lt.mpr (nI_le z (by omega))))
        refine b_iload_n dX6_goesOn_75 rfl ?_
        refine b_iconst (v := 2) dX6_goesOn_76 (by decide) ?_
        refine b_isub dX6_goesOn_77 ?_
        refine b_topi (y := nI (pl - 2)) (nI_sub (b := 2) h2) ?_
        refine b_iconst (v := 5) dX6_goesOn_78 (by decide) ?_
        refine b_irem dX6_goesOn_79 (by decide) ?_
        refine b_topi (y := nI ((pl - 2) % 5)) (div5 _ (by omega)).2 ?_
        rcases (show (pl - 2) % 5 = 0 ∨ (pl - 2) % 5 = 1 ∨ (pl - 2) % 5 = 2 ∨ (pl - 2) % 5 = 3 ∨ (pl - 2) % 5 = 4 by omega) with hr | hr | hr | hr | hr
        · rw [hr]
          refine b_tsIn (off := 28) (tgt := 108) dX6_goesOn_80 (by decide) (by decide) (by decide) (by decide) ?_
          refine b_iload_n dX6_goesOn_108 rfl ?_
          refine b_bipush (v := 59) dX6_goesOn_109 (by decide) ?_
          refine b_icmp_ne (tgt := 118) dX6_goesOn_111 (by decide) (fun h111 => ?_) (fun h111 => ?_)
          · refine b_iconst (v := 0) dX6_goesOn_118 (by decide) ?_
            refine b_zret (Or.inl rfl) dX6_goesOn_119 rfl ⟨rfl, Or.inr ⟨rfl, ?_⟩⟩
            rw [goes_2 hcn (by omega)]
            rw [gzr0 hr hpn]
            exact h111
          · refine b_iconst (v := 1) dX6_goesOn_114 (by decide) ?_
            refine b_goto (tgt := 119) dX6_goesOn_115 (by decide) ?_
            refine b_zret (Or.inr rfl) dX6_goesOn_119 rfl ⟨rfl, Or.inl ⟨rfl, ?_⟩⟩
            rw [goes_2 hcn (by omega)]
            rw [gzr0 hr hpn]
            exact h111
        · rw [hr]
          refine b_tsIn (off := 40) (tgt := 120) dX6_goesOn_80 (by decide) (by decide) (by decide) (by decide) ?_
          refine b_iload_n dX6_goesOn_120 rfl ?_
          refine b_callS1 dX6_goesOn_121 lk_X6_24 ⟨Nat.le_of_ble_eq_true rfl, Nat.le_of_ble_eq_true rfl⟩ (Nat.le_of_ble_eq_true rfl) (s_X6_kindOf) (fun r w121 h121 => ?_)
          obtain ⟨rfl, rfl⟩ := h121
          refine b_bipush (v := (-9)) dX6_goesOn_124 (by decide) ?_
          refine b_icmp_eq (tgt := 133) dX6_goesOn_126 (by decide) (fun h126 => ?_) (fun h126 => ?_)
          · refine b_iconst (v := 0) dX6_goesOn_133 (by decide) ?_
            refine b_zret (Or.inl rfl) dX6_goesOn_134 rfl ⟨rfl, Or.inr ⟨rfl, ?_⟩⟩
            rw [goes_2 hcn (by omega)]
            rw [gzr1 hr hpn]
            exact fun z => absurd h126 (kofI_ne.mpr z)
          · refine b_iconst (v := 1) dX6_goesOn_129 (by decide) ?_
            refine b_goto (tgt := 134) dX6_goesOn_130 (by decide) ?_
            refine b_zret (Or.inr rfl) dX6_goesOn_134 rfl ⟨rfl, Or.inl ⟨rfl, ?_⟩⟩
            rw [goes_2 hcn (by omega)]
            rw [gzr1 hr hpn]
            exact kofI_ne.mp h126
        · rw [hr]
          refine b_tsIn (off := 55) (tgt := 135) dX6_goesOn_80 (by decide) (by decide) (by decide) (by decide) ?_
          refine b_iload_n dX6_goesOn_135 rfl ?_
          refine b_bipush (v := 49) dX6_goesOn_136 (by decide) ?_
          refine b_icmp_lt (tgt := 151) dX6_goesOn_138 (by decide) (fun h138 => ?_) (fun h138 => ?_)
          · refine b_iconst (v := 0) dX6_goesOn_151 (by decide) ?_
            refine b_zret (Or.inl rfl) dX6_goesOn_152 rfl ⟨rfl, Or.inr ⟨rfl, ?_⟩⟩
            rw [goes_2 hcn (by omega)]
            rw [gzr2 hr hpn]
            rintro ⟨d, d1, d2, d3⟩
            rw [d3] at h138
            exact absurd h138 (Int32.not_lt.mpr (nI_le (a := 49) (by omega) (by omega)))
          · refine b_iload_n dX6_goesOn_141 rfl ?_
            refine b_bipush (v := 57) dX6_goesOn_142 (by decide) ?_
            refine b_icmp_gt (tgt := 151) dX6_goesOn_144 (by decide) (fun h144 => ?_) (fun h144 => ?_)
            · refine b_iconst (v := 0) dX6_goesOn_151 (by decide) ?_
              refine b_zret (Or.inl rfl) dX6_goesOn_152 rfl ⟨rfl, Or.inr ⟨rfl, ?_⟩⟩
              rw [goes_2 hcn (by omega)]
              rw [gzr2 hr hpn]
              rintro ⟨d, d1, d2, d3⟩
              rw [d3] at h144
              exact absurd h144 (Int32.not_lt.mpr (nI_le (b := 57) (by omega) (by omega)))
            · refine b_iconst (v := 1) dX6_goesOn_147 (by decide) ?_
              refine b_goto (tgt := 152) dX6_goesOn_148 (by decide) ?_
              refine b_zret (Or.inr rfl) dX6_goesOn_152 rfl ⟨rfl, Or.inl ⟨rfl, ?_⟩⟩
              rw [goes_2 hcn (by omega)]
              rw [gzr2 hr hpn]
              obtain ⟨d, d1, d2, d3⟩ := dig_of (lo := 1) (hi := 9) (by decide) (Int32.not_lt.mp h138) (Int32.not_lt.mp h144)
              exact ⟨d, d1, d2, d3⟩
        · rw [hr]
          refine b_tsOut (tgt := 153) dX6_goesOn_80 (by decide) (by decide) ?_
          have hr : 3 ≤ (pl - 2) % 5 := by omega
          refine b_iload_n dX6_goesOn_153 rfl ?_
          refine b_bipush (v := 48) dX6_goesOn_154 (by decide) ?_
          refine b_icmp_lt (tgt := 181) dX6_goesOn_156 (by decide) (fun h156 => ?_) (fun h156 => ?_)
          · refine b_iconst (v := 0) dX6_goesOn_181 (by decide) ?_
            refine b_zret (Or.inl rfl) dX6_goesOn_182 rfl ⟨rfl, Or.inr ⟨rfl, ?_⟩⟩
            rw [goes_2 hcn (by omega)]
            rw [gzr3 hr hpn]
            rintro ⟨d, d1, d2, d3⟩
            rw [d3] at h156
            exact absurd h156 (Int32.not_lt.mpr (nI_le (a := 48) (by omega) (by have := hcn.2.1; omega)))
          · refine b_iload_n dX6_goesOn_159 rfl ?_
            refine b_callS1 dX6_goesOn_160 lk_X6_21 ⟨Nat.le_of_ble_eq_true rfl, Nat.le_of_ble_eq_true rfl⟩ (Nat.le_of_ble_eq_true rfl) (s_X6_digit) (fun r w160 h160 => ?_)
            obtain ⟨rfl, rfl⟩ := h160
            refine b_iload dX6_goesOn_163 rfl ?_
            refine b_icmp_ge (tgt := 181) dX6_goesOn_165 (by decide) (fun h165 => ?_) (fun h165 => ?_)
            · refine b_iconst (v := 0) dX6_goesOn_181 (by decide) ?_
              refine b_zret (Or.inl rfl) dX6_goesOn_182 rfl ⟨rfl, Or.inr ⟨rfl, ?_⟩⟩
              rw [goes_2 hcn (by omega)]
              rw [gzr3 hr hpn]
              rintro ⟨d, d1, d2, d3⟩
              rw [dig_ge (lo := d) (by have := hcn.2.1; omega) d3] at h165
              exact absurd h165 (nI_ge d1 (by have := hcn.2.1; omega))
            · refine b_iload_n dX6_goesOn_168 rfl ?_
              refine b_callS1 dX6_goesOn_169 lk_X6_21 ⟨Nat.le_of_ble_eq_true rfl, Nat.le_of_ble_eq_true rfl⟩ (Nat.le_of_ble_eq_true rfl) (s_X6_digit) (fun r w169 h169 => ?_)
              obtain ⟨rfl, rfl⟩ := h169
              refine b_iload dX6_goesOn_172 rfl ?_
              refine b_icmp_eq (tgt := 181) dX6_goesOn_174 (by decide) (fun h174 => ?_) (fun h174 => ?_)
              · refine b_iconst (v := 0) dX6_goesOn_181 (by decide) ?_
                refine b_zret (Or.inl rfl) dX6_goesOn_182 rfl ⟨rfl, Or.inr ⟨rfl, ?_⟩⟩
                rw [goes_2 hcn (by omega)]
                rw [gzr3 hr hpn]
                rintro ⟨d, d1, d2, d3⟩
                rw [dig_ge (lo := d) (by have := hcn.2.1; omega) d3] at h174
                exact d2 (nI_inj (by have := hcn.2.1; omega) (by omega) h174)
              · refine b_iconst (v := 1) dX6_goesOn_177 (by decide) ?_
                refine b_goto (tgt := 182) dX6_goesOn_178 (by decide) ?_
                refine b_zret (Or.inr rfl) dX6_goesOn_182 rfl ⟨rfl, Or.inl ⟨rfl, ?_⟩⟩
                rw [goes_2 hcn (by omega)]
                rw [gzr3 hr hpn]
                obtain ⟨d, d1, d2⟩ := dig3 hcn.2.1 h156 (Int32.not_le.mp h165)
                refine ⟨d, d1, fun z => h174 ?_, d2⟩
                rw [dig_ge (lo := d) (by have := hcn.2.1; omega) d2, z]
        · rw [hr]
          refine b_tsOut (tgt := 153) dX6_goesOn_80 (by decide) (by decide) ?_
          have hr : 3 ≤ (pl - 2) % 5 := by omega
          refine b_iload_n dX6_goesOn_153 rfl ?_
          refine b_bipush (v := 48) dX6_goesOn_154 (by decide) ?_
          refine b_icmp_lt (tgt := 181) dX6_goesOn_156 (by decide) (fun h156 => ?_) (fun h156 => ?_)
          · refine b_iconst (v := 0) dX6_goesOn_181 (by decide) ?_
            refine b_zret (Or.inl rfl) dX6_goesOn_182 rfl ⟨rfl, Or.inr ⟨rfl, ?_⟩⟩
            rw [goes_2 hcn (by omega)]
            rw [gzr3 hr hpn]
            rintro ⟨d, d1, d2, d3⟩
            rw [d3] at h156
            exact absurd h156 (Int32.not_lt.mpr (nI_le (a := 48) (by omega) (by have := hcn.2.1; omega)))
          · refine b_iload_n dX6_goesOn_159 rfl ?_
            refine b_callS1 dX6_goesOn_160 lk_X6_21 ⟨Nat.le_of_ble_eq_true rfl, Nat.le_of_ble_eq_true rfl⟩ (Nat.le_of_ble_eq_true rfl) (s_X6_digit) (fun r w160 h160 => ?_)
            obtain ⟨rfl, rfl⟩ := h160
            refine b_iload dX6_goesOn_163 rfl ?_
            refine b_icmp_ge (tgt := 181) dX6_goesOn_165 (by decide) (fun h165 => ?_) (fun h165 => ?_)
            · refine b_iconst (v := 0) dX6_goesOn_181 (by decide) ?_
              refine b_zret (Or.inl rfl) dX6_goesOn_182 rfl ⟨rfl, Or.inr ⟨rfl, ?_⟩⟩
              rw [goes_2 hcn (by omega)]
              rw [gzr3 hr hpn]
              rintro ⟨d, d1, d2, d3⟩
              rw [dig_ge (lo := d) (by have := hcn.2.1; omega) d3] at h165
              exact absurd h165 (nI_ge d1 (by have := hcn.2.1; omega))
            · refine b_iload_n dX6_goesOn_168 rfl ?_
              refine b_callS1 dX6_goesOn_169 lk_X6_21 ⟨Nat.le_of_ble_eq_true rfl, Nat.le_of_ble_eq_true rfl⟩ (Nat.le_of_ble_eq_true rfl) (s_X6_digit) (fun r w169 h169 => ?_)
              obtain ⟨rfl, rfl⟩ := h169
              refine b_iload dX6_goesOn_172 rfl ?_
              refine b_icmp_eq (tgt := 181) dX6_goesOn_174 (by decide) (fun h174 => ?_) (fun h174 => ?_)
              · refine b_iconst (v := 0) dX6_goesOn_181 (by decide) ?_
                refine b_zret (Or.inl rfl) dX6_goesOn_182 rfl ⟨rfl, Or.inr ⟨rfl, ?_⟩⟩
                rw [goes_2 hcn (by omega)]
                rw [gzr3 hr hpn]
                rintro ⟨d, d1, d2, d3⟩
                rw [dig_ge (lo := d) (by have := hcn.2.1; omega) d3] at h174
                exact d2 (nI_inj (by have := hcn.2.1; omega) (by omega) h174)
              · refine b_iconst (v := 1) dX6_goesOn_177 (by decide) ?_
                refine b_goto (tgt := 182) dX6_goesOn_178 (by decide) ?_
                refine b_zret (Or.inr rfl) dX6_goesOn_182 rfl ⟨rfl, Or.inl ⟨rfl, ?_⟩⟩
                rw [goes_2 hcn (by omega)]
                rw [gzr3 hr hpn]
                obtain ⟨d, d1, d2⟩ := dig3 hcn.2.1 h156 (Int32.not_le.mp h165)
                refine ⟨d, d1, fun z => h174 ?_, d2⟩
                rw [dig_ge (lo := d) (by have := hcn.2.1; omega) d2, z]
      · refine b_iconst (v := 0) dX6_goesOn_73 (by decide) ?_
        refine b_zret (Or.inl rfl) dX6_goesOn_74 rfl ⟨rfl, Or.inr ⟨rfl, ?_⟩⟩
        rw [goes_2 hcn (by omega)]
        exact fun z => absurd (nI_lt z.1 (by have := hcn.2.1; omega)) h70
    · refine b_iload_n dX6_goesOn_29 rfl ?_
      refine b_bipush (v := 50) dX6_goesOn_30 (by decide) ?_
      refine b_icmp_lt (tgt := 45) dX6_goesOn_32 (by decide) (fun h32 => ?_) (fun h32 => ?_)
      · refine b_iconst (v := 0) dX6_goesOn_45 (by decide) ?_
        refine b_zret (Or.inl rfl) dX6_goesOn_46 rfl ⟨rfl, Or.inr ⟨rfl, ?_⟩⟩
        have e1 : pl = 1 := nI_inj (by omega) (by decide) h26
        subst e1
        rw [goes_1]
        rintro ⟨d, d1, d2, d3⟩
        rw [d3] at h32
        exact absurd h32 (Int32.not_lt.mpr (nI_le (a := 50) (by omega) (by omega)))
      · refine b_iload_n dX6_goesOn_35 rfl ?_
        refine b_bipush (v := 54) dX6_goesOn_36 (by decide) ?_
        refine b_icmp_gt (tgt := 45) dX6_goesOn_38 (by decide) (fun h38 => ?_) (fun h38 => ?_)
        · refine b_iconst (v := 0) dX6_goesOn_45 (by decide) ?_
          refine b_zret (Or.inl rfl) dX6_goesOn_46 rfl ⟨rfl, Or.inr ⟨rfl, ?_⟩⟩
          have e1 : pl = 1 := nI_inj (by omega) (by decide) h26
          subst e1
          rw [goes_1]
          rintro ⟨d, d1, d2, d3⟩
          rw [d3] at h38
          exact absurd h38 (Int32.not_lt.mpr (nI_le (b := 54) (by omega) (by omega)))
        · refine b_iconst (v := 1) dX6_goesOn_41 (by decide) ?_
          refine b_goto (tgt := 46) dX6_goesOn_42 (by decide) ?_
          refine b_zret (Or.inr rfl) dX6_goesOn_46 rfl ⟨rfl, Or.inl ⟨rfl, ?_⟩⟩
          have e1 : pl = 1 := nI_inj (by omega) (by decide) h26
          subst e1
          rw [goes_1]
          obtain ⟨d, d1, d2, d3⟩ := dig_of (lo := 2) (hi := 6) (by decide) (Int32.not_lt.mp h32) (Int32.not_lt.mp h38)
          exact ⟨d, d1, d2, d3⟩
  · refine b_iload_n dX6_goesOn_12 rfl ?_
    refine b_bipush (v := 100) dX6_goesOn_13 (by decide) ?_
    refine b_icmp_ne (tgt := 22) dX6_goesOn_15 (by decide) (fun h15 => ?_) (fun h15 => ?_)
    · refine b_iconst (v := 0) dX6_goesOn_22 (by decide) ?_
      refine b_zret (Or.inl rfl) dX6_goesOn_23 rfl ⟨rfl, Or.inr ⟨rfl, ?_⟩⟩
      have e0 : pl = 0 := nI_inj (by omega) (by decide) h9
      subst e0
      rw [goes_0]
      exact h15
    · refine b_iconst (v := 1) dX6_goesOn_18 (by decide) ?_
      refine b_goto (tgt := 23) dX6_goesOn_19 (by decide) ?_
      refine b_zret (Or.inr rfl) dX6_goesOn_23 rfl ⟨rfl, Or.inl ⟨rfl, ?_⟩⟩
      have e0 : pl = 0 := nI_inj (by omega) (by decide) h9
      subst e0
      rw [goes_0]
      exact h15
