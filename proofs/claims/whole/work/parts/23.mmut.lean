abbrev isDayDeg (d g : Int32) : Prop := (0 ≤ d ∧ d ≤ 29) ∧ (1 ≤ g ∧ g ≤ 9)
def R_insult (w : kW) (a b d g : Int32) : Int32 × kW := if isPr w a ∧ isPr w b ∧ ¬ a = b then (if isDayDeg d g then (if w.1 0 15 = 8 then (-4, w) else (w.1 0 15, kset (kset (kset (kset (kset w 11 (dn (w.1 0 15)) a) 12 (dn (w.1 0 15)) b) 13 (dn (w.1 0 15)) d) 14 (dn (w.1 0 15)) g) 0 15 (w.1 0 15 + 1))) else (-2, w)) else (-1, w)
def R_sorry (w : kW) (k : Int32) : Int32 × kW := if 0 ≤ k ∧ k ≤ w.1 0 15 then (w.1 0 15 - k, kset w 0 15 (w.1 0 15 - k)) else (-2, w)
def R_arrest (w : kW) (p is : Int32) : Int32 × kW := if isPr w p then (if w.1 7 (dn p) = is then 0 else 1, kset w 7 (dn p) is) else (-1, w)
def R_ofPerson (w : kW) (p what : Int32) : Int32 × kW := if isPr w p then (if 0 ≤ what ∧ what ≤ 5 then (if what = 0 then w.1 4 (dn p) else if what = 1 then w.1 5 (dn p) else if what = 2 then w.1 6 (2 * dn p) else if what = 3 then w.1 6 (2 * dn p + 1) else if what = 4 then mTouch w (dn p) else if w.1 7 (dn p) = 0 then 0 else 1) else -2, w) else (-1, w)
def R_reading (w : kW) (p d was : Int32) : Int32 × kW := if isPr w p then (if isDw d then (if w.1 0 35 = 8 then (-4, w) else (w.1 0 35, kset (kset (kset (kset w 26 (dn (w.1 0 35)) p) 27 (dn (w.1 0 35)) d) 28 (dn (w.1 0 35)) was) 0 35 (w.1 0 35 + 1))) else (-2, w)) else (-1, w)
def R_back (w : kW) (k : Int32) : Int32 × kW := if 0 ≤ k ∧ k ≤ w.1 0 35 then (w.1 0 35 - k, kset w 0 35 (w.1 0 35 - k)) else (-2, w)
def tr1 (w : kW) (b : Int32) : kW := kset w 0 1 (31 * w.1 0 1 + b)
def R_tell (w : kW) (p : Int32) : Int32 × kW := if isPr w p then (if w.1 4 (dn p) = 1 then (w.1 5 (dn p) + 100, tr1 (tr1 w 2) 1) else if w.1 4 (dn p) = 2 then (2 * w.1 5 (dn p) + 100, tr1 (tr1 (tr1 (tr1 w 3) 2) 1) 1) else (w.1 5 (dn p), tr1 w 1)) else (-1, w)
def R_salute (w : kW) (p : Int32) : Int32 × kW := if isPr w p then (if w.1 4 (dn p) = 2 then (80, tr1 w 5) else (p, tr1 w 4)) else (-1, w)
def R_as (w : kW) (p k : Int32) : Int32 × kW := if isPr w p then (if 0 ≤ k ∧ k ≤ 2 then (if w.1 4 (dn p) < k then (-12, kset w 0 0 2) else (1, kset w 0 0 0)) else (-2, kset w 0 0 0)) else (-1, kset w 0 0 0)
theorem kset_kset (w : kW) (c k : Nat) (a b : Int32) : kset (kset w c k a) c k b = kset w c k b := by
  show (k_up (k_up w.1 c k a) c k b, w.2) = _
  rw [k_up_up]
  rfl
def A_many (n c : Nat) (w : kW) (what : Int32) : Int32 := if what = 3 then (if w.1 0 5 = 0 then 0 else (mGo n c w 60).1 0 28) else if what = 0 then w.1 0 5 else if what = 1 then w.1 0 15 else if what = 2 then w.1 0 35 else -2

set_option maxRecDepth 100000 in
set_option maxHeartbeats 4000000 in
theorem s_X8_lay {w : kW} {k : Nat} {a b d g : Int32} (hk : k < 9) : Spec shM yX8_lay cX8_lay 6 none 0 0 [.ref 0, .int (nI k), .int a, .int b, .int d, .int g] w (fun r w' => r = none ∧ kset (kset (kset (kset w 11 k a) 12 k b) 13 k d) 14 k g = w') := by
  refine k_enter pn_X8 (Nat.le_of_ble_eq_true rfl) ?_
  refine b_aload_n dX8_lay_0 rfl ?_
  refine b_getr dX8_lay_1 gf_X8_41 rfl rfl ?_
  refine b_iload_n dX8_lay_4 rfl ?_
  refine b_iload_n dX8_lay_5 rfl ?_
  refine b_iastN dX8_lay_6 rfl ⟨by omega, by decide⟩ ?_
  refine b_aload_n dX8_lay_7 rfl ?_
  refine b_getr dX8_lay_8 gf_X8_44 rfl rfl ?_
  refine b_iload_n dX8_lay_11 rfl ?_
  refine b_iload_n dX8_lay_12 rfl ?_
  refine b_iastN dX8_lay_13 rfl ⟨by omega, by decide⟩ ?_
  refine b_aload_n dX8_lay_14 rfl ?_
  refine b_getr dX8_lay_15 gf_X8_47 rfl rfl ?_
  refine b_iload_n dX8_lay_18 rfl ?_
  refine b_iload dX8_lay_19 rfl ?_
  refine b_iastN dX8_lay_21 rfl ⟨by omega, by decide⟩ ?_
  refine b_aload_n dX8_lay_22 rfl ?_
  refine b_getr dX8_lay_23 gf_X8_50 rfl rfl ?_
  refine b_iload_n dX8_lay_26 rfl ?_
  refine b_iload dX8_lay_27 rfl ?_
  refine b_iastN dX8_lay_29 rfl ⟨by omega, by decide⟩ ?_
  refine b_vret dX8_lay_30 rfl ⟨rfl, ?_⟩
  rfl

set_option maxRecDepth 100000 in
set_option maxHeartbeats 4000000 in
theorem s_X8_begins {w : kW} {b : Int32} : Spec shM yX8_begins cX8_begins 2 none 0 0 [.ref 0, .int b] w (fun r w' => r = none ∧ tr1 w b = w') := by
  refine k_enter pn_X8 (Nat.le_of_ble_eq_true rfl) ?_
  refine b_aload_n dX8_begins_0 rfl ?_
  refine b_bipush (v := 31) dX8_begins_1 (by decide) ?_
  refine b_aload_n dX8_begins_3 rfl ?_
  refine b_geti dX8_begins_4 gf_X8_233 rfl rfl ?_
  refine b_imul dX8_begins_7 ?_
  refine b_iload_n dX8_begins_8 rfl ?_
  refine b_iadd dX8_begins_9 ?_
  refine b_puti dX8_begins_10 gf_X8_233 gs_X8_1 rfl rfl ?_
  refine b_vret dX8_begins_13 rfl ⟨rfl, ?_⟩
  rfl

set_option maxRecDepth 100000 in
set_option maxHeartbeats 4000000 in
theorem s_X8_insult {w : kW} {n c q : Nat} (hM : MInv n c q w) {a b d g : Int32} : Spec shM yX8_insult cX8_insult 5 (some .int) 1 25 [.ref 0, .int a, .int b, .int d, .int g] w (fun r w' => r = some (.int ((R_insult w a b d g).1)) ∧ (R_insult w a b d g).2 = w') := by
  obtain ⟨hP, hI, hc8, hR, hu, hS⟩ := id hM
  have hn := hP.le
  have ec := hI.1
  have dnc : dn (w.1 0 15) = c := by rw [ec]; exact dn_nI (by omega)
  refine k_enter pn_X8 (Nat.le_of_ble_eq_true rfl) ?_
  refine b_aload_n dX8_insult_0 rfl ?_
  refine b_iload_n dX8_insult_1 rfl ?_
  refine b_callV1 dX8_insult_2 lk_X8_145 rfl rfl rfl ⟨Nat.le_of_ble_eq_true rfl, Nat.le_of_ble_eq_true rfl⟩ (Nat.le_of_ble_eq_true rfl) (s_X8_isPerson) (fun r w2 h2 => ?_)
  obtain ⟨rfl, h2⟩ := h2
  rcases h2 with ⟨rfl, h2⟩ | ⟨rfl, h2⟩
  · refine b_if_eq (tgt := 21) dX8_insult_5 (by decide) (fun h5 => absurd h5 (by decide)) (fun h5 => ?_)
    refine b_aload_n dX8_insult_8 rfl ?_
    refine b_iload_n dX8_insult_9 rfl ?_
    refine b_callV1 dX8_insult_10 lk_X8_145 rfl rfl rfl ⟨Nat.le_of_ble_eq_true rfl, Nat.le_of_ble_eq_true rfl⟩ (Nat.le_of_ble_eq_true rfl) (s_X8_isPerson) (fun r w10 h10 => ?_)
    obtain ⟨rfl, h10⟩ := h10
    rcases h10 with ⟨rfl, h10⟩ | ⟨rfl, h10⟩
    · refine b_if_eq (tgt := 21) dX8_insult_13 (by decide) (fun h13 => absurd h13 (by decide)) (fun h13 => ?_)
      refine b_iload_n dX8_insult_16 rfl ?_
      refine b_iload_n dX8_insult_17 rfl ?_
      refine b_icmp_ne (tgt := 23) dX8_insult_18 (by decide) (fun h18 => ?_) (fun h18 => ?_)
      · refine b_iload_n dX8_insult_23 rfl ?_
        refine b_iconst (v := 0) dX8_insult_24 (by decide) ?_
        refine b_bipush (v := 29) dX8_insult_25 (by decide) ?_
        refine b_callS3 dX8_insult_27 lk_X8_101 ⟨Nat.le_of_ble_eq_true rfl, Nat.le_of_ble_eq_true rfl⟩ (Nat.le_of_ble_eq_true rfl) (s_X8_within) (fun r w27 h27 => ?_)
        obtain ⟨rfl, h27⟩ := h27
        rcases h27 with ⟨rfl, h27⟩ | ⟨rfl, h27⟩
        · refine b_if_eq (tgt := 44) dX8_insult_30 (by decide) (fun h30 => absurd h30 (by decide)) (fun h30 => ?_)
          refine b_iload dX8_insult_33 rfl ?_
          refine b_iconst (v := 1) dX8_insult_35 (by decide) ?_
          refine b_bipush (v := 9) dX8_insult_36 (by decide) ?_
          refine b_callS3 dX8_insult_38 lk_X8_101 ⟨Nat.le_of_ble_eq_true rfl, Nat.le_of_ble_eq_true rfl⟩ (Nat.le_of_ble_eq_true rfl) (s_X8_within) (fun r w38 h38 => ?_)
          obtain ⟨rfl, h38⟩ := h38
          rcases h38 with ⟨rfl, h38⟩ | ⟨rfl, h38⟩
          · refine b_if_ne (tgt := 47) dX8_insult_41 (by decide) (fun h41 => ?_) (fun h41 => absurd h41 (by decide))
            refine b_aload_n dX8_insult_47 rfl ?_
            refine b_geti dX8_insult_48 gf_X8_132 rfl rfl ?_
            refine b_bipush (v := 8) dX8_insult_51 (by decide) ?_
            refine b_icmp_ne (tgt := 59) dX8_insult_53 (by decide) (fun h53 => ?_) (fun h53 => ?_)
            · have hc7 : c < 9 := by omega
              refine b_aload_n dX8_insult_59 rfl ?_
              refine b_aload_n dX8_insult_60 rfl ?_
              refine b_geti dX8_insult_61 gf_X8_132 rfl rfl ?_
              refine b_topi (y := nI c) ec ?_
              refine b_iload_n dX8_insult_64 rfl ?_
              refine b_iload_n dX8_insult_65 rfl ?_
              refine b_iload_n dX8_insult_66 rfl ?_
              refine b_iload dX8_insult_67 rfl ?_
              refine b_callV5 dX8_insult_69 lk_X8_151 rfl rfl rfl ⟨Nat.le_of_ble_eq_true rfl, Nat.le_of_ble_eq_true rfl⟩ (Nat.le_of_ble_eq_true rfl) (s_X8_lay (k := c) hc7) (fun r w69 h69 => ?_)
              obtain ⟨rfl, rfl⟩ := h69
              refine b_aload_n dX8_insult_72 rfl ?_
              refine b_dup dX8_insult_73 rfl ?_
              refine b_geti dX8_insult_74 gf_X8_132 rfl rfl ?_
              refine b_iconst (v := 1) dX8_insult_77 (by decide) ?_
              refine b_iadd dX8_insult_78 ?_
              refine b_puti dX8_insult_79 gf_X8_132 gs_X8_15 rfl rfl ?_
              refine b_aload_n dX8_insult_82 rfl ?_
              refine b_geti dX8_insult_83 gf_X8_132 rfl rfl ?_
              refine b_iconst (v := 1) dX8_insult_86 (by decide) ?_
              refine b_isub dX8_insult_87 ?_
              refine b_topi (y := w.1 0 15) (Int32.add_sub_cancel _ _) ?_
              refine b_iret dX8_insult_88 rfl ⟨?_, ?_⟩
              · simp only [R_insult, if_pos (show isPr w a ∧ isPr w b ∧ ¬ a = b from ⟨h2, h10, h18⟩), if_pos (show isDayDeg d g from ⟨h27, h38⟩), if_neg h53, dnc] <;> first | rfl | (simp; done)
              · simp only [R_insult, if_pos (show isPr w a ∧ isPr w b ∧ ¬ a = b from ⟨h2, h10, h18⟩), if_pos (show isDayDeg d g from ⟨h27, h38⟩), if_neg h53, dnc] <;> rfl
            · refine b_bipush (v := (-4)) dX8_insult_56 (by decide) ?_
              refine b_iret dX8_insult_58 rfl ⟨?_, ?_⟩
              · simp only [R_insult, if_pos (show isPr w a ∧ isPr w b ∧ ¬ a = b from ⟨h2, h10, h18⟩), if_pos (show isDayDeg d g from ⟨h27, h38⟩), if_pos h53] <;> first | rfl | (simp; done)
              · simp only [R_insult, if_pos (show isPr w a ∧ isPr w b ∧ ¬ a = b from ⟨h2, h10, h18⟩), if_pos (show isDayDeg d g from ⟨h27, h38⟩), if_pos h53] <;> rfl
          · refine b_if_ne (tgt := 47) dX8_insult_41 (by decide) (fun h41 => absurd h41 (by decide)) (fun h41 => ?_)
            refine b_bipush (v := (-2)) dX8_insult_44 (by decide) ?_
            refine b_iret dX8_insult_46 rfl ⟨?_, ?_⟩
            · simp only [R_insult, if_pos (show isPr w a ∧ isPr w b ∧ ¬ a = b from ⟨h2, h10, h18⟩), if_neg (show ¬ isDayDeg d g from fun z => h38 z.2)] <;> first | rfl | (simp; done)
            · simp only [R_insult, if_pos (show isPr w a ∧ isPr w b ∧ ¬ a = b from ⟨h2, h10, h18⟩), if_neg (show ¬ isDayDeg d g from fun z => h38 z.2)] <;> rfl
        · refine b_if_eq (tgt := 44) dX8_insult_30 (by decide) (fun h30 => ?_) (fun h30 => absurd h30 (by decide))
          refine b_bipush (v := (-2)) dX8_insult_44 (by decide) ?_
          refine b_iret dX8_insult_46 rfl ⟨?_, ?_⟩
          · simp only [R_insult, if_pos (show isPr w a ∧ isPr w b ∧ ¬ a = b from ⟨h2, h10, h18⟩), if_neg (show ¬ isDayDeg d g from fun z => h27 z.1)] <;> first | rfl | (simp; done)
          · simp only [R_insult, if_pos (show isPr w a ∧ isPr w b ∧ ¬ a = b from ⟨h2, h10, h18⟩), if_neg (show ¬ isDayDeg d g from fun z => h27 z.1)] <;> rfl
      · refine b_iconst (v := (-1)) dX8_insult_21 (by decide) ?_
        refine b_iret dX8_insult_22 rfl ⟨?_, ?_⟩
        · simp only [R_insult, if_neg (show ¬ (isPr w a ∧ isPr w b ∧ ¬ a = b) from fun z => z.2.2 h18)] <;> first | rfl | (simp; done)
        · simp only [R_insult, if_neg (show ¬ (isPr w a ∧ isPr w b ∧ ¬ a = b) from fun z => z.2.2 h18)] <;> rfl
    · refine b_if_eq (tgt := 21) dX8_insult_13 (by decide) (fun h13 => ?_) (fun h13 => absurd h13 (by decide))
      refine b_iconst (v := (-1)) dX8_insult_21 (by decide) ?_
      refine b_iret dX8_insult_22 rfl ⟨?_, ?_⟩
      · simp only [R_insult, if_neg (show ¬ (isPr w a ∧ isPr w b ∧ ¬ a = b) from fun z => h10 z.2.1)] <;> first | rfl | (simp; done)
      · simp only [R_insult, if_neg (show ¬ (isPr w a ∧ isPr w b ∧ ¬ a = b) from fun z => h10 z.2.1)] <;> rfl
  · refine b_if_eq (tgt := 21) dX8_insult_5 (by decide) (fun h5 => ?_) (fun h5 => absurd h5 (by decide))
    refine b_iconst (v := (-1)) dX8_insult_21 (by decide) ?_
    refine b_iret dX8_insult_22 rfl ⟨?_, ?_⟩
    · simp only [R_insult, if_neg (show ¬ (isPr w a ∧ isPr w b ∧ ¬ a = b) from fun z => h2 z.1)] <;> first | rfl | (simp; done)
    · simp only [R_insult, if_neg (show ¬ (isPr w a ∧ isPr w b ∧ ¬ a = b) from fun z => h2 z.1)] <;> rfl

set_option maxRecDepth 100000 in
set_option maxHeartbeats 4000000 in
theorem s_X8_sorry {w : kW} {k : Int32} : Spec shM yX8_sorry cX8_sorry 2 (some .int) 1 22 [.ref 0, .int k] w (fun r w' => r = some (.int ((R_sorry w k).1)) ∧ (R_sorry w k).2 = w') := by
  refine k_enter pn_X8 (Nat.le_of_ble_eq_true rfl) ?_
  refine b_iload_n dX8_sorry_0 rfl ?_
  refine b_iconst (v := 0) dX8_sorry_1 (by decide) ?_
  refine b_aload_n dX8_sorry_2 rfl ?_
  refine b_geti dX8_sorry_3 gf_X8_132 rfl rfl ?_
  refine b_callS3 dX8_sorry_6 lk_X8_101 ⟨Nat.le_of_ble_eq_true rfl, Nat.le_of_ble_eq_true rfl⟩ (Nat.le_of_ble_eq_true rfl) (s_X8_within) (fun r w6 h6 => ?_)
  obtain ⟨rfl, h6⟩ := h6
  rcases h6 with ⟨rfl, h6⟩ | ⟨rfl, h6⟩
  · refine b_if_ne (tgt := 15) dX8_sorry_9 (by decide) (fun h9 => ?_) (fun h9 => absurd h9 (by decide))
    refine b_aload_n dX8_sorry_15 rfl ?_
    refine b_dup dX8_sorry_16 rfl ?_
    refine b_geti dX8_sorry_17 gf_X8_132 rfl rfl ?_
    refine b_iload_n dX8_sorry_20 rfl ?_
    refine b_isub dX8_sorry_21 ?_
    refine b_puti dX8_sorry_22 gf_X8_132 gs_X8_15 rfl rfl ?_
    refine b_aload_n dX8_sorry_25 rfl ?_
    refine b_geti dX8_sorry_26 gf_X8_132 rfl rfl ?_
    refine b_iret dX8_sorry_29 rfl ⟨?_, ?_⟩
    · simp only [R_sorry, if_pos h6] <;> first | rfl | (simp; done)
    · simp only [R_sorry, if_pos h6] <;> rfl
  · refine b_if_ne (tgt := 15) dX8_sorry_9 (by decide) (fun h9 => absurd h9 (by decide)) (fun h9 => ?_)
    refine b_bipush (v := (-2)) dX8_sorry_12 (by decide) ?_
    refine b_iret dX8_sorry_14 rfl ⟨?_, ?_⟩
    · simp only [R_sorry, if_neg h6] <;> first | rfl | (simp; done)
    · simp only [R_sorry, if_neg h6] <;> rfl

set_option maxRecDepth 100000 in
set_option maxHeartbeats 4000000 in
theorem s_X8_back {w : kW} {k : Int32} : Spec shM yX8_back cX8_back 2 (some .int) 1 22 [.ref 0, .int k] w (fun r w' => r = some (.int ((R_back w k).1)) ∧ (R_back w k).2 = w') := by
  refine k_enter pn_X8 (Nat.le_of_ble_eq_true rfl) ?_
  refine b_iload_n dX8_back_0 rfl ?_
  refine b_iconst (v := 0) dX8_back_1 (by decide) ?_
  refine b_aload_n dX8_back_2 rfl ?_
  refine b_geti dX8_back_3 gf_X8_135 rfl rfl ?_
  refine b_callS3 dX8_back_6 lk_X8_101 ⟨Nat.le_of_ble_eq_true rfl, Nat.le_of_ble_eq_true rfl⟩ (Nat.le_of_ble_eq_true rfl) (s_X8_within) (fun r w6 h6 => ?_)
  obtain ⟨rfl, h6⟩ := h6
  rcases h6 with ⟨rfl, h6⟩ | ⟨rfl, h6⟩
  · refine b_if_ne (tgt := 15) dX8_back_9 (by decide) (fun h9 => ?_) (fun h9 => absurd h9 (by decide))
    refine b_aload_n dX8_back_15 rfl ?_
    refine b_dup dX8_back_16 rfl ?_
    refine b_geti dX8_back_17 gf_X8_135 rfl rfl ?_
    refine b_iload_n dX8_back_20 rfl ?_
    refine b_isub dX8_back_21 ?_
    refine b_puti dX8_back_22 gf_X8_135 gs_X8_35 rfl rfl ?_
    refine b_aload_n dX8_back_25 rfl ?_
    refine b_geti dX8_back_26 gf_X8_135 rfl rfl ?_
    refine b_iret dX8_back_29 rfl ⟨?_, ?_⟩
    · simp only [R_back, if_pos h6] <;> first | rfl | (simp; done)
    · simp only [R_back, if_pos h6] <;> rfl
  · refine b_if_ne (tgt := 15) dX8_back_9 (by decide) (fun h9 => absurd h9 (by decide)) (fun h9 => ?_)
    refine b_bipush (v := (-2)) dX8_back_12 (by decide) ?_
    refine b_iret dX8_back_14 rfl ⟨?_, ?_⟩
    · simp only [R_back, if_neg h6] <;> first | rfl | (simp; done)
    · simp only [R_back, if_neg h6] <;> rfl

set_option maxRecDepth 100000 in
set_option maxHeartbeats 4000000 in
theorem s_X8_arrest {w : kW} {n c q : Nat} (hM : MInv n c q w) {p is : Int32} (hb : is = 0 ∨ is = 1) : Spec shM yX8_arrest cX8_arrest 4 (some .int) 1 21 [.ref 0, .int p, .int is] w (fun r w' => r = some (.int ((R_arrest w p is).1)) ∧ (R_arrest w p is).2 = w') := by
  obtain ⟨hP, hI, hc8, hR, hu, hS⟩ := id hM
  have hn := hP.le
  refine k_enter pn_X8 (Nat.le_of_ble_eq_true rfl) ?_
  refine b_aload_n dX8_arrest_0 rfl ?_
  refine b_iload_n dX8_arrest_1 rfl ?_
  refine b_callV1 dX8_arrest_2 lk_X8_145 rfl rfl rfl ⟨Nat.le_of_ble_eq_true rfl, Nat.le_of_ble_eq_true rfl⟩ (Nat.le_of_ble_eq_true rfl) (s_X8_isPerson) (fun r w2 h2 => ?_)
  obtain ⟨rfl, h2⟩ := h2
  rcases h2 with ⟨rfl, h2⟩ | ⟨rfl, h2⟩
  · refine b_if_ne (tgt := 10) dX8_arrest_5 (by decide) (fun h5 => ?_) (fun h5 => absurd h5 (by decide))
    have hq2 : isPr w p := h2
    obtain ⟨pp, hp, rfl⟩ := pers_of hP h2
    refine b_aload_n dX8_arrest_10 rfl ?_
    refine b_getr dX8_arrest_11 gf_X8_28 rfl rfl ?_
    refine b_iload_n dX8_arrest_14 rfl ?_
    refine b_zaldN dX8_arrest_15 rfl ⟨by omega, by decide⟩ ?_
    refine b_istore_n dX8_arrest_16 (by decide) ?_
    refine b_aload_n dX8_arrest_17 rfl ?_
    refine b_getr dX8_arrest_18 gf_X8_28 rfl rfl ?_
    refine b_iload_n dX8_arrest_21 rfl ?_
    refine b_iload_n dX8_arrest_22 rfl ?_
    refine b_zastN dX8_arrest_23 rfl ⟨by omega, by decide⟩ hb ?_
    refine b_iload_n dX8_arrest_24 rfl ?_
    refine b_iload_n dX8_arrest_25 rfl ?_
    refine b_icmp_ne (tgt := 33) dX8_arrest_26 (by decide) (fun h26 => ?_) (fun h26 => ?_)
    · refine b_iconst (v := 1) dX8_arrest_33 (by decide) ?_
      refine b_iret dX8_arrest_34 rfl ⟨?_, ?_⟩
      · simp only [R_arrest, if_pos hq2, dn_nI (show pp < 2 ^ 31 by omega), if_neg h26] <;> first | rfl | (simp; done)
      · simp only [R_arrest, if_pos hq2, dn_nI (show pp < 2 ^ 31 by omega), if_neg h26] <;> rfl
    · refine b_iconst (v := 0) dX8_arrest_29 (by decide) ?_
      refine b_goto (tgt := 34) dX8_arrest_30 (by decide) ?_
      refine b_iret dX8_arrest_34 rfl ⟨?_, ?_⟩
      · simp only [R_arrest, if_pos hq2, dn_nI (show pp < 2 ^ 31 by omega), if_pos h26] <;> first | rfl | (simp; done)
      · simp only [R_arrest, if_pos hq2, dn_nI (show pp < 2 ^ 31 by omega), if_pos h26] <;> rfl
  · refine b_if_ne (tgt := 10) dX8_arrest_5 (by decide) (fun h5 => absurd h5 (by decide)) (fun h5 => ?_)
    refine b_iconst (v := (-1)) dX8_arrest_8 (by decide) ?_
    refine b_iret dX8_arrest_9 rfl ⟨?_, ?_⟩
    · simp only [R_arrest, if_neg h2] <;> first | rfl | (simp; done)
    · simp only [R_arrest, if_neg h2] <;> rfl

set_option maxRecDepth 100000 in
set_option maxHeartbeats 4000000 in
theorem s_X8_ofPerson {w : kW} {n c q : Nat} (hM : MInv n c q w) {p what : Int32} : Spec shM yX8_ofPerson cX8_ofPerson 3 (some .int) 1 22 [.ref 0, .int p, .int what] w (fun r w' => r = some (.int ((R_ofPerson w p what).1)) ∧ (R_ofPerson w p what).2 = w') := by
  obtain ⟨hP, hI, hc8, hR, hu, hS⟩ := id hM
  have hn := hP.le
  refine k_enter pn_X8 (Nat.le_of_ble_eq_true rfl) ?_
  refine b_aload_n dX8_ofPerson_0 rfl ?_
  refine b_iload_n dX8_ofPerson_1 rfl ?_
  refine b_callV1 dX8_ofPerson_2 lk_X8_145 rfl rfl rfl ⟨Nat.le_of_ble_eq_true rfl, Nat.le_of_ble_eq_true rfl⟩ (Nat.le_of_ble_eq_true rfl) (s_X8_isPerson) (fun r w2 h2 => ?_)
  obtain ⟨rfl, h2⟩ := h2
  rcases h2 with ⟨rfl, h2⟩ | ⟨rfl, h2⟩
  · refine b_if_ne (tgt := 10) dX8_ofPerson_5 (by decide) (fun h5 => ?_) (fun h5 => absurd h5 (by decide))
    have hq2 : isPr w p := h2
    obtain ⟨pp, hp, rfl⟩ := pers_of hP h2
    refine b_iload_n dX8_ofPerson_10 rfl ?_
    by_cases hw : (0 : Int32) ≤ what ∧ what ≤ 5
    obtain ⟨x, hx, rfl⟩ := nI_of2 (n := 5) (M := 5) (by decide) (Int32.not_lt.mpr hw.1) hw.2
    rcases (show x = 0 ∨ x = 1 ∨ x = 2 ∨ x = 3 ∨ x = 4 ∨ x = 5 by omega) with rfl | rfl | rfl | rfl | rfl | rfl
    · refine b_tsIn (off := 37) (tgt := 48) dX8_ofPerson_11 (by decide) (by decide) (by decide) (by decide) ?_
      refine b_aload_n dX8_ofPerson_48 rfl ?_
      refine b_getr dX8_ofPerson_49 gf_X8_19 rfl rfl ?_
      refine b_iload_n dX8_ofPerson_52 rfl ?_
      refine b_ialdN dX8_ofPerson_53 rfl ⟨by omega, by decide⟩ ?_
      refine b_iret dX8_ofPerson_54 rfl ⟨?_, ?_⟩
      · simp only [R_ofPerson, if_pos hq2, dn_nI (show pp < 2 ^ 31 by omega), if_pos (show (0 : Int32) ≤ nI 0 ∧ nI 0 ≤ 5 by decide), if_pos (show nI 0 = 0 by decide)] <;> first | rfl | (simp; done)
      · simp only [R_ofPerson, if_pos hq2, dn_nI (show pp < 2 ^ 31 by omega), if_pos (show (0 : Int32) ≤ nI 0 ∧ nI 0 ≤ 5 by decide), if_pos (show nI 0 = 0 by decide)] <;> rfl
    · refine b_tsIn (off := 44) (tgt := 55) dX8_ofPerson_11 (by decide) (by decide) (by decide) (by decide) ?_
      refine b_aload_n dX8_ofPerson_55 rfl ?_
      refine b_getr dX8_ofPerson_56 gf_X8_22 rfl rfl ?_
      refine b_iload_n dX8_ofPerson_59 rfl ?_
      refine b_ialdN dX8_ofPerson_60 rfl ⟨by omega, by decide⟩ ?_
      refine b_iret dX8_ofPerson_61 rfl ⟨?_, ?_⟩
      · simp only [R_ofPerson, if_pos hq2, dn_nI (show pp < 2 ^ 31 by omega), if_pos (show (0 : Int32) ≤ nI 1 ∧ nI 1 ≤ 5 by decide), if_neg (show ¬ nI 1 = 0 by decide), if_pos (show nI 1 = 1 by decide)] <;> first | rfl | (simp; done)
      · simp only [R_ofPerson, if_pos hq2, dn_nI (show pp < 2 ^ 31 by omega), if_pos (show (0 : Int32) ≤ nI 1 ∧ nI 1 ≤ 5 by decide), if_neg (show ¬ nI 1 = 0 by decide), if_pos (show nI 1 = 1 by decide)] <;> rfl
    · refine b_tsIn (off := 51) (tgt := 62) dX8_ofPerson_11 (by decide) (by decide) (by decide) (by decide) ?_
      refine b_aload_n dX8_ofPerson_62 rfl ?_
      refine b_getr dX8_ofPerson_63 gf_X8_25 rfl rfl ?_
      refine b_iconst (v := 2) dX8_ofPerson_66 (by decide) ?_
      refine b_iload_n dX8_ofPerson_67 rfl ?_
      refine b_imul dX8_ofPerson_68 ?_
      refine b_topi (y := nI (2 * pp)) (nI_two _) ?_
      refine b_ialdN dX8_ofPerson_69 rfl ⟨by omega, by decide⟩ ?_
      refine b_iret dX8_ofPerson_70 rfl ⟨?_, ?_⟩
      · simp only [R_ofPerson, if_pos hq2, dn_nI (show pp < 2 ^ 31 by omega), if_pos (show (0 : Int32) ≤ nI 2 ∧ nI 2 ≤ 5 by decide), if_neg (show ¬ nI 2 = 0 by decide), if_neg (show ¬ nI 2 = 1 by decide), if_pos (show nI 2 = 2 by decide)] <;> first | rfl | (simp; done)
      · simp only [R_ofPerson, if_pos hq2, dn_nI (show pp < 2 ^ 31 by omega), if_pos (show (0 : Int32) ≤ nI 2 ∧ nI 2 ≤ 5 by decide), if_neg (show ¬ nI 2 = 0 by decide), if_neg (show ¬ nI 2 = 1 by decide), if_pos (show nI 2 = 2 by decide)] <;> rfl
    · refine b_tsIn (off := 60) (tgt := 71) dX8_ofPerson_11 (by decide) (by decide) (by decide) (by decide) ?_
      refine b_aload_n dX8_ofPerson_71 rfl ?_
      refine b_getr dX8_ofPerson_72 gf_X8_25 rfl rfl ?_
      refine b_iconst (v := 2) dX8_ofPerson_75 (by decide) ?_
      refine b_iload_n dX8_ofPerson_76 rfl ?_
      refine b_imul dX8_ofPerson_77 ?_
      refine b_topi (y := nI (2 * pp)) (nI_two _) ?_
      refine b_iconst (v := 1) dX8_ofPerson_78 (by decide) ?_
      refine b_iadd dX8_ofPerson_79 ?_
      refine b_topi (y := nI (2 * pp + 1)) (nI_add _ 1) ?_
      refine b_ialdN dX8_ofPerson_80 rfl ⟨by omega, by decide⟩ ?_
      refine b_iret dX8_ofPerson_81 rfl ⟨?_, ?_⟩
      · simp only [R_ofPerson, if_pos hq2, dn_nI (show pp < 2 ^ 31 by omega), if_pos (show (0 : Int32) ≤ nI 3 ∧ nI 3 ≤ 5 by decide), if_neg (show ¬ nI 3 = 0 by decide), if_neg (show ¬ nI 3 = 1 by decide), if_neg (show ¬ nI 3 = 2 by decide), if_pos (show nI 3 = 3 by decide)] <;> first | rfl | (simp; done)
      · simp only [R_ofPerson, if_pos hq2, dn_nI (show pp < 2 ^ 31 by omega), if_pos (show (0 : Int32) ≤ nI 3 ∧ nI 3 ≤ 5 by decide), if_neg (show ¬ nI 3 = 0 by decide), if_neg (show ¬ nI 3 = 1 by decide), if_neg (show ¬ nI 3 = 2 by decide), if_pos (show nI 3 = 3 by decide)] <;> rfl
    · refine b_tsIn (off := 71) (tgt := 82) dX8_ofPerson_11 (by decide) (by decide) (by decide) (by decide) ?_
      refine b_aload_n dX8_ofPerson_82 rfl ?_
      refine b_iload_n dX8_ofPerson_83 rfl ?_
      refine b_callV1 dX8_ofPerson_84 lk_X8_148 rfl rfl rfl ⟨Nat.le_of_ble_eq_true rfl, Nat.le_of_ble_eq_true rfl⟩ (Nat.le_of_ble_eq_true rfl) (s_X8_touchy (by omega)) (fun r w84 h84 => ?_)
      obtain ⟨rfl, rfl⟩ := h84
      refine b_iret dX8_ofPerson_87 rfl ⟨?_, ?_⟩
      · simp only [R_ofPerson, if_pos hq2, dn_nI (show pp < 2 ^ 31 by omega), if_pos (show (0 : Int32) ≤ nI 4 ∧ nI 4 ≤ 5 by decide), if_neg (show ¬ nI 4 = 0 by decide), if_neg (show ¬ nI 4 = 1 by decide), if_neg (show ¬ nI 4 = 2 by decide), if_neg (show ¬ nI 4 = 3 by decide), if_pos (show nI 4 = 4 by decide)] <;> first | rfl | (simp; done)
      · simp only [R_ofPerson, if_pos hq2, dn_nI (show pp < 2 ^ 31 by omega), if_pos (show (0 : Int32) ≤ nI 4 ∧ nI 4 ≤ 5 by decide), if_neg (show ¬ nI 4 = 0 by decide), if_neg (show ¬ nI 4 = 1 by decide), if_neg (show ¬ nI 4 = 2 by decide), if_neg (show ¬ nI 4 = 3 by decide), if_pos (show nI 4 = 4 by decide)] <;> rfl
    · refine b_tsIn (off := 77) (tgt := 88) dX8_ofPerson_11 (by decide) (by decide) (by decide) (by decide) ?_
      refine b_aload_n dX8_ofPerson_88 rfl ?_
      refine b_getr dX8_ofPerson_89 gf_X8_28 rfl rfl ?_
      refine b_iload_n dX8_ofPerson_92 rfl ?_
      refine b_zaldN dX8_ofPerson_93 rfl ⟨by omega, by decide⟩ ?_
      refine b_if_eq (tgt := 101) dX8_ofPerson_94 (by decide) (fun h94 => ?_) (fun h94 => ?_)
      · refine b_iconst (v := 0) dX8_ofPerson_101 (by decide) ?_
        refine b_iret dX8_ofPerson_102 rfl ⟨?_, ?_⟩
        · simp only [R_ofPerson, if_pos hq2, dn_nI (show pp < 2 ^ 31 by omega), if_pos (show (0 : Int32) ≤ nI 5 ∧ nI 5 ≤ 5 by decide), if_neg (show ¬ nI 5 = 0 by decide), if_neg (show ¬ nI 5 = 1 by decide), if_neg (show ¬ nI 5 = 2 by decide), if_neg (show ¬ nI 5 = 3 by decide), if_neg (show ¬ nI 5 = 4 by decide), if_pos h94] <;> first | rfl | (simp; done)
        · simp only [R_ofPerson, if_pos hq2, dn_nI (show pp < 2 ^ 31 by omega), if_pos (show (0 : Int32) ≤ nI 5 ∧ nI 5 ≤ 5 by decide), if_neg (show ¬ nI 5 = 0 by decide), if_neg (show ¬ nI 5 = 1 by decide), if_neg (show ¬ nI 5 = 2 by decide), if_neg (show ¬ nI 5 = 3 by decide), if_neg (show ¬ nI 5 = 4 by decide), if_pos h94] <;> rfl
      · refine b_iconst (v := 1) dX8_ofPerson_97 (by decide) ?_
        refine b_goto (tgt := 102) dX8_ofPerson_98 (by decide) ?_
        refine b_iret dX8_ofPerson_102 rfl ⟨?_, ?_⟩
        · simp only [R_ofPerson, if_pos hq2, dn_nI (show pp < 2 ^ 31 by omega), if_pos (show (0 : Int32) ≤ nI 5 ∧ nI 5 ≤ 5 by decide), if_neg (show ¬ nI 5 = 0 by decide), if_neg (show ¬ nI 5 = 1 by decide), if_neg (show ¬ nI 5 = 2 by decide), if_neg (show ¬ nI 5 = 3 by decide), if_neg (show ¬ nI 5 = 4 by decide), if_neg h94] <;> first | rfl | (simp; done)
        · simp only [R_ofPerson, if_pos hq2, dn_nI (show pp < 2 ^ 31 by omega), if_pos (show (0 : Int32) ≤ nI 5 ∧ nI 5 ≤ 5 by decide), if_neg (show ¬ nI 5 = 0 by decide), if_neg (show ¬ nI 5 = 1 by decide), if_neg (show ¬ nI 5 = 2 by decide), if_neg (show ¬ nI 5 = 3 by decide), if_neg (show ¬ nI 5 = 4 by decide), if_neg h94] <;> rfl
    · refine b_tsOut (tgt := 103) dX8_ofPerson_11 (ts_out 5 (by decide) hw) (by decide) ?_
      refine b_bipush (v := (-2)) dX8_ofPerson_103 (by decide) ?_
      refine b_iret dX8_ofPerson_105 rfl ⟨?_, ?_⟩
      · simp only [R_ofPerson, if_pos hq2, if_neg hw] <;> first | rfl | (simp; done)
      · simp only [R_ofPerson, if_pos hq2, if_neg hw] <;> rfl
  · refine b_if_ne (tgt := 10) dX8_ofPerson_5 (by decide) (fun h5 => absurd h5 (by decide)) (fun h5 => ?_)
    refine b_iconst (v := (-1)) dX8_ofPerson_8 (by decide) ?_
    refine b_iret dX8_ofPerson_9 rfl ⟨?_, ?_⟩
    · simp only [R_ofPerson, if_neg h2] <;> first | rfl | (simp; done)
    · simp only [R_ofPerson, if_neg h2] <;> rfl

set_option maxRecDepth 100000 in
set_option maxHeartbeats 4000000 in
theorem s_X8_reading {w : kW} {n c q : Nat} (hM : MInv n c q w) {p d was : Int32} (hb : was = 0 ∨ was = 1) : Spec shM yX8_reading cX8_reading 4 (some .int) 2 42 [.ref 0, .int p, .int d, .int was] w (fun r w' => r = some (.int ((R_reading w p d was).1)) ∧ (R_reading w p d was).2 = w') := by
  obtain ⟨hP, hI, hc8, hR, hu, hS⟩ := id hM
  have hn := hP.le
  have ec := hR.1
  have hq8 := hR.2.1
  have dnc : dn (w.1 0 35) = q := by rw [ec]; exact dn_nI (by omega)
  refine k_enter pn_X8 (Nat.le_of_ble_eq_true rfl) ?_
  refine b_aload_n dX8_reading_0 rfl ?_
  refine b_iload_n dX8_reading_1 rfl ?_
  refine b_callV1 dX8_reading_2 lk_X8_145 rfl rfl rfl ⟨Nat.le_of_ble_eq_true rfl, Nat.le_of_ble_eq_true rfl⟩ (Nat.le_of_ble_eq_true rfl) (s_X8_isPerson) (fun r w2 h2 => ?_)
  obtain ⟨rfl, h2⟩ := h2
  rcases h2 with ⟨rfl, h2⟩ | ⟨rfl, h2⟩
  · refine b_if_ne (tgt := 10) dX8_reading_5 (by decide) (fun h5 => ?_) (fun h5 => absurd h5 (by decide))
    refine b_iload_n dX8_reading_10 rfl ?_
    refine b_callS1 dX8_reading_11 lk_X8_195 ⟨Nat.le_of_ble_eq_true rfl, Nat.le_of_ble_eq_true rfl⟩ (Nat.le_of_ble_eq_true rfl) (s_X8_isDawn) (fun r w11 h11 => ?_)
    obtain ⟨rfl, h11⟩ := h11
    rcases h11 with ⟨rfl, h11⟩ | ⟨rfl, h11⟩
    · refine b_if_ne (tgt := 20) dX8_reading_14 (by decide) (fun h14 => ?_) (fun h14 => absurd h14 (by decide))
      refine b_aload_n dX8_reading_20 rfl ?_
      refine b_geti dX8_reading_21 gf_X8_135 rfl rfl ?_
      refine b_bipush (v := 8) dX8_reading_24 (by decide) ?_
      refine b_icmp_ne (tgt := 32) dX8_reading_26 (by decide) (fun h26 => ?_) (fun h26 => ?_)
      · have hq7 : q < 8 := by
          rcases Nat.lt_or_ge q 8 with h | h
          · exact h
          · exact absurd (by rw [ec, show q = 8 by omega]; rfl) h26
        refine b_aload_n dX8_reading_32 rfl ?_
        refine b_getr dX8_reading_33 gf_X8_86 rfl rfl ?_
        refine b_aload_n dX8_reading_36 rfl ?_
        refine b_geti dX8_reading_37 gf_X8_135 rfl rfl ?_
        refine b_topi (y := nI q) ec ?_
        refine b_iload_n dX8_reading_40 rfl ?_
        refine b_iastN dX8_reading_41 rfl ⟨by omega, by decide⟩ ?_
        refine b_aload_n dX8_reading_42 rfl ?_
        refine b_getr dX8_reading_43 gf_X8_89 rfl rfl ?_
        refine b_aload_n dX8_reading_46 rfl ?_
        refine b_geti dX8_reading_47 gf_X8_135 rfl rfl ?_
        refine b_topi (y := nI q) ec ?_
        refine b_iload_n dX8_reading_50 rfl ?_
        refine b_iastN dX8_reading_51 rfl ⟨by omega, by decide⟩ ?_
        refine b_aload_n dX8_reading_52 rfl ?_
        refine b_getr dX8_reading_53 gf_X8_92 rfl rfl ?_
        refine b_aload_n dX8_reading_56 rfl ?_
        refine b_geti dX8_reading_57 gf_X8_135 rfl rfl ?_
        refine b_topi (y := nI q) ec ?_
        refine b_iload_n dX8_reading_60 rfl ?_
        refine b_zastN dX8_reading_61 rfl ⟨by omega, by decide⟩ hb ?_
        refine b_aload_n dX8_reading_62 rfl ?_
        refine b_dup dX8_reading_63 rfl ?_
        refine b_geti dX8_reading_64 gf_X8_135 rfl rfl ?_
        refine b_iconst (v := 1) dX8_reading_67 (by decide) ?_
        refine b_iadd dX8_reading_68 ?_
        refine b_puti dX8_reading_69 gf_X8_135 gs_X8_35 rfl rfl ?_
        refine b_aload_n dX8_reading_72 rfl ?_
        refine b_geti dX8_reading_73 gf_X8_135 rfl rfl ?_
        refine b_iconst (v := 1) dX8_reading_76 (by decide) ?_
        refine b_isub dX8_reading_77 ?_
        refine b_topi (y := w.1 0 35) (Int32.add_sub_cancel _ _) ?_
        refine b_iret dX8_reading_78 rfl ⟨?_, ?_⟩
        · simp only [R_reading, if_pos h2, if_pos h11, if_neg h26, dnc] <;> first | rfl | (simp; done)
        · simp only [R_reading, if_pos h2, if_pos h11, if_neg h26, dnc] <;> rfl
      · refine b_bipush (v := (-4)) dX8_reading_29 (by decide) ?_
        refine b_iret dX8_reading_31 rfl ⟨?_, ?_⟩
        · simp only [R_reading, if_pos h2, if_pos h11, if_pos h26] <;> first | rfl | (simp; done)
        · simp only [R_reading, if_pos h2, if_pos h11, if_pos h26] <;> rfl
    · refine b_if_ne (tgt := 20) dX8_reading_14 (by decide) (fun h14 => absurd h14 (by decide)) (fun h14 => ?_)
      refine b_bipush (v := (-2)) dX8_reading_17 (by decide) ?_
      refine b_iret dX8_reading_19 rfl ⟨?_, ?_⟩
      · simp only [R_reading, if_pos h2, if_neg h11] <;> first | rfl | (simp; done)
      · simp only [R_reading, if_pos h2, if_neg h11] <;> rfl
  · refine b_if_ne (tgt := 10) dX8_reading_5 (by decide) (fun h5 => absurd h5 (by decide)) (fun h5 => ?_)
    refine b_iconst (v := (-1)) dX8_reading_8 (by decide) ?_
    refine b_iret dX8_reading_9 rfl ⟨?_, ?_⟩
    · simp only [R_reading, if_neg h2] <;> first | rfl | (simp; done)
    · simp only [R_reading, if_neg h2] <;> rfl

set_option maxRecDepth 100000 in
set_option maxHeartbeats 4000000 in
theorem s_X8_tell {w : kW} {n c q : Nat} (hM : MInv n c q w) {p : Int32} : Spec shM yX8_tell cX8_tell 3 (some .int) 1 21 [.ref 0, .int p] w (fun r w' => r = some (.int ((R_tell w p).1)) ∧ (R_tell w p).2 = w') := by
  obtain ⟨hP, hI, hc8, hR, hu, hS⟩ := id hM
  have hn := hP.le
  refine k_enter pn_X8 (Nat.le_of_ble_eq_true rfl) ?_
  refine b_aload_n dX8_tell_0 rfl ?_
  refine b_iload_n dX8_tell_1 rfl ?_
  refine b_callV1 dX8_tell_2 lk_X8_145 rfl rfl rfl ⟨Nat.le_of_ble_eq_true rfl, Nat.le_of_ble_eq_true rfl⟩ (Nat.le_of_ble_eq_true rfl) (s_X8_isPerson) (fun r w2 h2 => ?_)
  obtain ⟨rfl, h2⟩ := h2
  rcases h2 with ⟨rfl, h2⟩ | ⟨rfl, h2⟩
  · refine b_if_ne (tgt := 10) dX8_tell_5 (by decide) (fun h5 => ?_) (fun h5 => absurd h5 (by decide))
    have hq2 : isPr w p := h2
    obtain ⟨pp, hp, rfl⟩ := pers_of hP h2
    obtain ⟨kd, hkd, ek⟩ := hP.2.2.2.2.2 pp hp
    refine b_aload_n dX8_tell_10 rfl ?_
    refine b_getr dX8_tell_11 gf_X8_22 rfl rfl ?_
    refine b_iload_n dX8_tell_14 rfl ?_
    refine b_ialdN dX8_tell_15 rfl ⟨by omega, by decide⟩ ?_
    refine b_istore_n dX8_tell_16 (by decide) ?_
    refine b_aload_n dX8_tell_17 rfl ?_
    refine b_getr dX8_tell_18 gf_X8_19 rfl rfl ?_
    refine b_iload_n dX8_tell_21 rfl ?_
    refine b_ialdN dX8_tell_22 rfl ⟨by omega, by decide⟩ ?_
    refine b_topi (y := nI kd) ek ?_
    rcases (show kd = 0 ∨ kd = 1 ∨ kd = 2 by omega) with rfl | rfl | rfl
    · refine b_lsw (off := 67) (tgt := 90) dX8_tell_23 (by decide) (by decide) (by decide) ?_
      refine b_aload_n dX8_tell_90 rfl ?_
      refine b_iconst (v := 1) dX8_tell_91 (by decide) ?_
      refine b_callV1 dX8_tell_92 lk_X8_236 rfl rfl rfl ⟨Nat.le_of_ble_eq_true rfl, Nat.le_of_ble_eq_true rfl⟩ (Nat.le_of_ble_eq_true rfl) (s_X8_begins) (fun r w92 h92 => ?_)
      obtain ⟨rfl, rfl⟩ := h92
      refine b_iload_n dX8_tell_95 rfl ?_
      refine b_iret dX8_tell_96 rfl ⟨?_, ?_⟩
      · simp only [R_tell, if_pos hq2, dn_nI (show pp < 2 ^ 31 by omega), if_neg (show ¬ w.1 4 pp = 1 by rw [ek]; decide), if_neg (show ¬ w.1 4 pp = 2 by rw [ek]; decide)] <;> first | rfl | (simp; done)
      · simp only [R_tell, if_pos hq2, dn_nI (show pp < 2 ^ 31 by omega), if_neg (show ¬ w.1 4 pp = 1 by rw [ek]; decide), if_neg (show ¬ w.1 4 pp = 2 by rw [ek]; decide)] <;> rfl
    · refine b_lsw (off := 25) (tgt := 48) dX8_tell_23 (by decide) (by decide) (by decide) ?_
      refine b_aload_n dX8_tell_48 rfl ?_
      refine b_iconst (v := 2) dX8_tell_49 (by decide) ?_
      refine b_callV1 dX8_tell_50 lk_X8_236 rfl rfl rfl ⟨Nat.le_of_ble_eq_true rfl, Nat.le_of_ble_eq_true rfl⟩ (Nat.le_of_ble_eq_true rfl) (s_X8_begins) (fun r w50 h50 => ?_)
      obtain ⟨rfl, rfl⟩ := h50
      refine b_aload_n dX8_tell_53 rfl ?_
      refine b_iconst (v := 1) dX8_tell_54 (by decide) ?_
      refine b_callV1 dX8_tell_55 lk_X8_236 rfl rfl rfl ⟨Nat.le_of_ble_eq_true rfl, Nat.le_of_ble_eq_true rfl⟩ (Nat.le_of_ble_eq_true rfl) (s_X8_begins) (fun r w55 h55 => ?_)
      obtain ⟨rfl, rfl⟩ := h55
      refine b_iload_n dX8_tell_58 rfl ?_
      refine b_bipush (v := 100) dX8_tell_59 (by decide) ?_
      refine b_iadd dX8_tell_61 ?_
      refine b_iret dX8_tell_62 rfl ⟨?_, ?_⟩
      · simp only [R_tell, if_pos hq2, dn_nI (show pp < 2 ^ 31 by omega), if_pos (show w.1 4 pp = 1 from ek)] <;> first | rfl | (simp; done)
      · simp only [R_tell, if_pos hq2, dn_nI (show pp < 2 ^ 31 by omega), if_pos (show w.1 4 pp = 1 from ek)] <;> rfl
    · refine b_lsw (off := 40) (tgt := 63) dX8_tell_23 (by decide) (by decide) (by decide) ?_
      refine b_aload_n dX8_tell_63 rfl ?_
      refine b_iconst (v := 3) dX8_tell_64 (by decide) ?_
      refine b_callV1 dX8_tell_65 lk_X8_236 rfl rfl rfl ⟨Nat.le_of_ble_eq_true rfl, Nat.le_of_ble_eq_true rfl⟩ (Nat.le_of_ble_eq_true rfl) (s_X8_begins) (fun r w65 h65 => ?_)
      obtain ⟨rfl, rfl⟩ := h65
      refine b_aload_n dX8_tell_68 rfl ?_
      refine b_iconst (v := 2) dX8_tell_69 (by decide) ?_
      refine b_callV1 dX8_tell_70 lk_X8_236 rfl rfl rfl ⟨Nat.le_of_ble_eq_true rfl, Nat.le_of_ble_eq_true rfl⟩ (Nat.le_of_ble_eq_true rfl) (s_X8_begins) (fun r w70 h70 => ?_)
      obtain ⟨rfl, rfl⟩ := h70
      refine b_aload_n dX8_tell_73 rfl ?_
      refine b_iconst (v := 1) dX8_tell_74 (by decide) ?_
      refine b_callV1 dX8_tell_75 lk_X8_236 rfl rfl rfl ⟨Nat.le_of_ble_eq_true rfl, Nat.le_of_ble_eq_true rfl⟩ (Nat.le_of_ble_eq_true rfl) (s_X8_begins) (fun r w75 h75 => ?_)
      obtain ⟨rfl, rfl⟩ := h75
      refine b_aload_n dX8_tell_78 rfl ?_
      refine b_iconst (v := 1) dX8_tell_79 (by decide) ?_
      refine b_callV1 dX8_tell_80 lk_X8_236 rfl rfl rfl ⟨Nat.le_of_ble_eq_true rfl, Nat.le_of_ble_eq_true rfl⟩ (Nat.le_of_ble_eq_true rfl) (s_X8_begins) (fun r w80 h80 => ?_)
      obtain ⟨rfl, rfl⟩ := h80
      refine b_iconst (v := 2) dX8_tell_83 (by decide) ?_
      refine b_iload_n dX8_tell_84 rfl ?_
      refine b_imul dX8_tell_85 ?_
      refine b_bipush (v := 100) dX8_tell_86 (by decide) ?_
      refine b_iadd dX8_tell_88 ?_
      refine b_iret dX8_tell_89 rfl ⟨?_, ?_⟩
      · simp only [R_tell, if_pos hq2, dn_nI (show pp < 2 ^ 31 by omega), if_neg (show ¬ w.1 4 pp = 1 by rw [ek]; decide), if_pos (show w.1 4 pp = 2 from ek)] <;> first | rfl | (simp; done)
      · simp only [R_tell, if_pos hq2, dn_nI (show pp < 2 ^ 31 by omega), if_neg (show ¬ w.1 4 pp = 1 by rw [ek]; decide), if_pos (show w.1 4 pp = 2 from ek)] <;> rfl
  · refine b_if_ne (tgt := 10) dX8_tell_5 (by decide) (fun h5 => absurd h5 (by decide)) (fun h5 => ?_)
    refine b_iconst (v := (-1)) dX8_tell_8 (by decide) ?_
    refine b_iret dX8_tell_9 rfl ⟨?_, ?_⟩
    · simp only [R_tell, if_neg h2] <;> first | rfl | (simp; done)
    · simp only [R_tell, if_neg h2] <;> rfl

set_option maxRecDepth 100000 in
set_option maxHeartbeats 4000000 in
theorem s_X8_salute {w : kW} {n c q : Nat} (hM : MInv n c q w) {p : Int32} : Spec shM yX8_salute cX8_salute 2 (some .int) 1 21 [.ref 0, .int p] w (fun r w' => r = some (.int ((R_salute w p).1)) ∧ (R_salute w p).2 = w') := by
  obtain ⟨hP, hI, hc8, hR, hu, hS⟩ := id hM
  have hn := hP.le
  refine k_enter pn_X8 (Nat.le_of_ble_eq_true rfl) ?_
  refine b_aload_n dX8_salute_0 rfl ?_
  refine b_iload_n dX8_salute_1 rfl ?_
  refine b_callV1 dX8_salute_2 lk_X8_145 rfl rfl rfl ⟨Nat.le_of_ble_eq_true rfl, Nat.le_of_ble_eq_true rfl⟩ (Nat.le_of_ble_eq_true rfl) (s_X8_isPerson) (fun r w2 h2 => ?_)
  obtain ⟨rfl, h2⟩ := h2
  rcases h2 with ⟨rfl, h2⟩ | ⟨rfl, h2⟩
  · refine b_if_ne (tgt := 10) dX8_salute_5 (by decide) (fun h5 => ?_) (fun h5 => absurd h5 (by decide))
    have hq2 : isPr w p := h2
    obtain ⟨pp, hp, rfl⟩ := pers_of hP h2
    refine b_aload_n dX8_salute_10 rfl ?_
    refine b_aload_n dX8_salute_11 rfl ?_
    refine b_getr dX8_salute_12 gf_X8_19 rfl rfl ?_
    refine b_iload_n dX8_salute_15 rfl ?_
    refine b_ialdN dX8_salute_16 rfl ⟨by omega, by decide⟩ ?_
    refine b_iconst (v := 2) dX8_salute_17 (by decide) ?_
    refine b_icmp_ne (tgt := 25) dX8_salute_18 (by decide) (fun h18 => ?_) (fun h18 => ?_)
    · refine b_iconst (v := 4) dX8_salute_25 (by decide) ?_
      refine b_callV1 dX8_salute_26 lk_X8_236 rfl rfl rfl ⟨Nat.le_of_ble_eq_true rfl, Nat.le_of_ble_eq_true rfl⟩ (Nat.le_of_ble_eq_true rfl) (s_X8_begins) (fun r w26 h26 => ?_)
      obtain ⟨rfl, rfl⟩ := h26
      refine b_aload_n dX8_salute_29 rfl ?_
      refine b_getr dX8_salute_30 gf_X8_19 rfl rfl ?_
      refine b_iload_n dX8_salute_33 rfl ?_
      refine b_ialdN dX8_salute_34 rfl ⟨by omega, by decide⟩ ?_
      refine b_topi (y := w.1 4 pp) rfl ?_
      refine b_iconst (v := 2) dX8_salute_35 (by decide) ?_
      refine b_icmp_ne (tgt := 44) dX8_salute_36 (by decide) (fun h36 => ?_) (fun h36 => ?_)
      · refine b_iload_n dX8_salute_44 rfl ?_
        refine b_iret dX8_salute_45 rfl ⟨?_, ?_⟩
        · simp only [R_salute, if_pos hq2, dn_nI (show pp < 2 ^ 31 by omega), if_neg h18] <;> first | rfl | (simp; done)
        · simp only [R_salute, if_pos hq2, dn_nI (show pp < 2 ^ 31 by omega), if_neg h18] <;> rfl
      · exact absurd h36 h18
    · refine b_iconst (v := 5) dX8_salute_21 (by decide) ?_
      refine b_goto (tgt := 26) dX8_salute_22 (by decide) ?_
      refine b_callV1 dX8_salute_26 lk_X8_236 rfl rfl rfl ⟨Nat.le_of_ble_eq_true rfl, Nat.le_of_ble_eq_true rfl⟩ (Nat.le_of_ble_eq_true rfl) (s_X8_begins) (fun r w26 h26 => ?_)
      obtain ⟨rfl, rfl⟩ := h26
      refine b_aload_n dX8_salute_29 rfl ?_
      refine b_getr dX8_salute_30 gf_X8_19 rfl rfl ?_
      refine b_iload_n dX8_salute_33 rfl ?_
      refine b_ialdN dX8_salute_34 rfl ⟨by omega, by decide⟩ ?_
      refine b_topi (y := w.1 4 pp) rfl ?_
      refine b_iconst (v := 2) dX8_salute_35 (by decide) ?_
      refine b_icmp_ne (tgt := 44) dX8_salute_36 (by decide) (fun h36 => ?_) (fun h36 => ?_)
      · exact absurd h18 h36
      · refine b_bipush (v := 80) dX8_salute_39 (by decide) ?_
        refine b_goto (tgt := 45) dX8_salute_41 (by decide) ?_
        refine b_iret dX8_salute_45 rfl ⟨?_, ?_⟩
        · simp only [R_salute, if_pos hq2, dn_nI (show pp < 2 ^ 31 by omega), if_pos h18] <;> first | rfl | (simp; done)
        · simp only [R_salute, if_pos hq2, dn_nI (show pp < 2 ^ 31 by omega), if_pos h18] <;> rfl
  · refine b_if_ne (tgt := 10) dX8_salute_5 (by decide) (fun h5 => absurd h5 (by decide)) (fun h5 => ?_)
    refine b_iconst (v := (-1)) dX8_salute_8 (by decide) ?_
    refine b_iret dX8_salute_9 rfl ⟨?_, ?_⟩
    · simp only [R_salute, if_neg h2] <;> first | rfl | (simp; done)
    · simp only [R_salute, if_neg h2] <;> rfl

set_option maxRecDepth 100000 in
set_option maxHeartbeats 4000000 in
theorem s_X8_as {w : kW} {n c q : Nat} (hM : MInv n c q w) {p k : Int32} : Spec shM yX8_as cX8_as 3 (some .int) 1 22 [.ref 0, .int p, .int k] w (fun r w' => r = some (.int ((R_as w p k).1)) ∧ (R_as w p k).2 = w') := by
  obtain ⟨hP, hI, hc8, hR, hu, hS⟩ := id hM
  have hn := hP.le
  refine k_enter pn_X8 (Nat.le_of_ble_eq_true rfl) ?_
  refine b_aload_n dX8_as_0 rfl ?_
  refine b_iconst (v := 0) dX8_as_1 (by decide) ?_
  refine b_puti dX8_as_2 gf_X8_95 gs_X8_0 rfl rfl ?_
  refine b_aload_n dX8_as_5 rfl ?_
  refine b_iload_n dX8_as_6 rfl ?_
  refine b_callV1 dX8_as_7 lk_X8_145 rfl rfl rfl ⟨Nat.le_of_ble_eq_true rfl, Nat.le_of_ble_eq_true rfl⟩ (Nat.le_of_ble_eq_true rfl) (s_X8_isPerson) (fun r w7 h7 => ?_)
  obtain ⟨rfl, h7⟩ := h7
  rcases h7 with ⟨rfl, h7⟩ | ⟨rfl, h7⟩
  · refine b_if_ne (tgt := 15) dX8_as_10 (by decide) (fun h10 => ?_) (fun h10 => absurd h10 (by decide))
    have hq2 : isPr w p := h7
    obtain ⟨pp, hp, rfl⟩ := pers_of hP hq2
    refine b_iload_n dX8_as_15 rfl ?_
    refine b_iconst (v := 0) dX8_as_16 (by decide) ?_
    refine b_iconst (v := 2) dX8_as_17 (by decide) ?_
    refine b_callS3 dX8_as_18 lk_X8_101 ⟨Nat.le_of_ble_eq_true rfl, Nat.le_of_ble_eq_true rfl⟩ (Nat.le_of_ble_eq_true rfl) (s_X8_within) (fun r w18 h18 => ?_)
    obtain ⟨rfl, h18⟩ := h18
    rcases h18 with ⟨rfl, h18⟩ | ⟨rfl, h18⟩
    · refine b_if_ne (tgt := 27) dX8_as_21 (by decide) (fun h21 => ?_) (fun h21 => absurd h21 (by decide))
      refine b_aload_n dX8_as_27 rfl ?_
      refine b_getr dX8_as_28 gf_X8_19 rfl rfl ?_
      refine b_iload_n dX8_as_31 rfl ?_
      refine b_ialdN dX8_as_32 rfl ⟨by omega, by decide⟩ ?_
      refine b_topi (y := w.1 4 pp) rfl ?_
      refine b_iload_n dX8_as_33 rfl ?_
      refine b_icmp_lt (tgt := 41) dX8_as_34 (by decide) (fun h34 => ?_) (fun h34 => ?_)
      · refine b_aload_n dX8_as_41 rfl ?_
        refine b_iconst (v := 2) dX8_as_42 (by decide) ?_
        refine b_callV1 dX8_as_43 lk_X8_122 rfl rfl rfl ⟨Nat.le_of_ble_eq_true rfl, Nat.le_of_ble_eq_true rfl⟩ (Nat.le_of_ble_eq_true rfl) (s_X8_fails) (fun r w43 h43 => ?_)
        obtain ⟨rfl, rfl⟩ := h43
        refine b_iret dX8_as_46 rfl ⟨?_, ?_⟩
        · simp only [R_as, if_pos hq2, if_pos h18, dn_nI (show pp < 2 ^ 31 by omega), if_pos h34] <;> rfl
        · simp only [R_as, if_pos hq2, if_pos h18, dn_nI (show pp < 2 ^ 31 by omega), if_pos h34] <;> first | rfl | exact (kset_kset _ _ _ _ _).symm
      · refine b_iconst (v := 1) dX8_as_37 (by decide) ?_
        refine b_goto (tgt := 46) dX8_as_38 (by decide) ?_
        refine b_iret dX8_as_46 rfl ⟨?_, ?_⟩
        · simp only [R_as, if_pos hq2, if_pos h18, dn_nI (show pp < 2 ^ 31 by omega), if_neg h34] <;> rfl
        · simp only [R_as, if_pos hq2, if_pos h18, dn_nI (show pp < 2 ^ 31 by omega), if_neg h34] <;> first | rfl | exact (kset_kset _ _ _ _ _).symm
    · refine b_if_ne (tgt := 27) dX8_as_21 (by decide) (fun h21 => absurd h21 (by decide)) (fun h21 => ?_)
      refine b_bipush (v := (-2)) dX8_as_24 (by decide) ?_
      refine b_iret dX8_as_26 rfl ⟨?_, ?_⟩
      · simp only [R_as, if_pos hq2, if_neg h18] <;> rfl
      · simp only [R_as, if_pos hq2, if_neg h18] <;> first | rfl | exact (kset_kset _ _ _ _ _).symm
  · refine b_if_ne (tgt := 15) dX8_as_10 (by decide) (fun h10 => absurd h10 (by decide)) (fun h10 => ?_)
    refine b_iconst (v := (-1)) dX8_as_13 (by decide) ?_
    refine b_iret dX8_as_14 rfl ⟨?_, ?_⟩
    · simp only [R_as, if_neg (show ¬ isPr w p from h7)] <;> rfl
    · simp only [R_as, if_neg (show ¬ isPr w p from h7)] <;> first | rfl | exact (kset_kset _ _ _ _ _).symm

set_option maxRecDepth 100000 in
set_option maxHeartbeats 4000000 in
theorem s_X8_trace {w : kW} : Spec shM yX8_trace cX8_trace 1 (some .int) 0 0 [.ref 0] w (fun r w' => r = some (.int (w.1 0 1)) ∧ w = w') := by
  refine k_enter pn_X8 (Nat.le_of_ble_eq_true rfl) ?_
  refine b_aload_n dX8_trace_0 rfl ?_
  refine b_geti dX8_trace_1 gf_X8_233 rfl rfl ?_
  refine b_iret dX8_trace_4 rfl ⟨?_, ?_⟩
  · rfl
  · rfl

set_option maxRecDepth 100000 in
set_option maxHeartbeats 4000000 in
theorem s_X8_fault {w : kW} : Spec shM yX8_fault cX8_fault 1 (some .int) 0 0 [.ref 0] w (fun r w' => r = some (.int (w.1 0 0)) ∧ w = w') := by
  refine k_enter pn_X8 (Nat.le_of_ble_eq_true rfl) ?_
  refine b_aload_n dX8_fault_0 rfl ?_
  refine b_geti dX8_fault_1 gf_X8_95 rfl rfl ?_
  refine b_iret dX8_fault_4 rfl ⟨?_, ?_⟩
  · rfl
  · rfl

set_option maxRecDepth 100000 in
set_option maxHeartbeats 4000000 in
theorem s_X8_many {w : kW} {n c q : Nat} (hM : MInv n c q w) {what : Int32} : Spec shM yX8_many cX8_many 2 (some .int) 6 146 [.ref 0, .int what] w (fun r w' => r = some (.int (A_many n c w what)) ∧ mKp c w w') := by
  obtain ⟨hP, hI, hc8, hR, hu, hS⟩ := id hM
  have hn := hP.le
  refine k_enter pn_X8 (Nat.le_of_ble_eq_true rfl) ?_
  refine b_iload_n dX8_many_0 rfl ?_
  refine b_iconst (v := 3) dX8_many_1 (by decide) ?_
  refine b_icmp_ne (tgt := 27) dX8_many_2 (by decide) (fun h2 => ?_) (fun h2 => ?_)
  · refine b_iload_n dX8_many_27 rfl ?_
    refine b_if_ne (tgt := 38) dX8_many_28 (by decide) (fun h28 => ?_) (fun h28 => ?_)
    · refine b_iload_n dX8_many_38 rfl ?_
      refine b_iconst (v := 1) dX8_many_39 (by decide) ?_
      refine b_icmp_ne (tgt := 50) dX8_many_40 (by decide) (fun h40 => ?_) (fun h40 => ?_)
      · refine b_iload_n dX8_many_50 rfl ?_
        refine b_iconst (v := 2) dX8_many_51 (by decide) ?_
        refine b_icmp_ne (tgt := 62) dX8_many_52 (by decide) (fun h52 => ?_) (fun h52 => ?_)
        · refine b_bipush (v := (-2)) dX8_many_62 (by decide) ?_
          refine b_iret dX8_many_64 rfl ⟨?_, ?_⟩
          · simp only [A_many, if_neg h2, if_neg h28, if_neg h40, if_neg h52] <;> rfl
          · exact mKp.rf
        · refine b_aload_n dX8_many_55 rfl ?_
          refine b_geti dX8_many_56 gf_X8_135 rfl rfl ?_
          refine b_goto (tgt := 64) dX8_many_59 (by decide) ?_
          refine b_iret dX8_many_64 rfl ⟨?_, ?_⟩
          · simp only [A_many, if_neg h2, if_neg h28, if_neg h40, if_pos h52] <;> rfl
          · exact mKp.rf
      · refine b_aload_n dX8_many_43 rfl ?_
        refine b_geti dX8_many_44 gf_X8_132 rfl rfl ?_
        refine b_goto (tgt := 64) dX8_many_47 (by decide) ?_
        refine b_iret dX8_many_64 rfl ⟨?_, ?_⟩
        · simp only [A_many, if_neg h2, if_neg h28, if_pos h40] <;> rfl
        · exact mKp.rf
    · refine b_aload_n dX8_many_31 rfl ?_
      refine b_geti dX8_many_32 gf_X8_105 rfl rfl ?_
      refine b_goto (tgt := 64) dX8_many_35 (by decide) ?_
      refine b_iret dX8_many_64 rfl ⟨?_, ?_⟩
      · simp only [A_many, if_neg h2, if_pos h28] <;> rfl
      · exact mKp.rf
  · refine b_aload_n dX8_many_5 rfl ?_
    refine b_bipush (v := 60) dX8_many_6 (by decide) ?_
    refine b_callV1 dX8_many_8 lk_X8_198 rfl rfl rfl ⟨Nat.le_of_ble_eq_true rfl, Nat.le_of_ble_eq_true rfl⟩ (Nat.le_of_ble_eq_true rfl) (s_X8_goAhead (D := 60) hP hI (by omega)) (fun r w8 h8 => ?_)
    obtain ⟨rfl, rfl⟩ := h8
    refine b_aload_n dX8_many_11 rfl ?_
    refine b_geti dX8_many_12 gf_X8_105 rfl rfl ?_
    refine b_topi (y := w.1 0 5) ((mGo_keep hP hI (Nat.le_refl 60)).2.1 5 (by decide) (by decide) (by decide)) ?_
    refine b_if_ne (tgt := 22) dX8_many_15 (by decide) (fun h15 => ?_) (fun h15 => ?_)
    · refine b_aload_n dX8_many_22 rfl ?_
      refine b_geti dX8_many_23 gf_X8_165 rfl rfl ?_
      refine b_iret dX8_many_26 rfl ⟨?_, ?_⟩
      · simp only [A_many, if_pos h2, if_neg h15] <;> rfl
      · exact mKp.of (mGo_keep hP hI (Nat.le_refl 60))
    · refine b_iconst (v := 0) dX8_many_18 (by decide) ?_
      refine b_goto (tgt := 26) dX8_many_19 (by decide) ?_
      refine b_iret dX8_many_26 rfl ⟨?_, ?_⟩
      · simp only [A_many, if_pos h2, if_pos h15] <;> rfl
      · exact mKp.of (mGo_keep hP hI (Nat.le_refl 60))
