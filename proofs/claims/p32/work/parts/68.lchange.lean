set_option maxRecDepth 100000 in
set_option maxHeartbeats 1000000 in
theorem s_ch_237 {n c : Nat} {x y : Int32} {W g : kW} {A1 A2 : Nat → Int32} (h : gL n c W g) (hA : g.1 1 = A1 ∧ g.1 2 = A2) : BS shL RL cL_change 11 (some .boolean) 3 67 (fun r W' => r = some (.int 1) ∧ ∃ c' g', gL n c' W' g' ∧ g'.1 1 = A1 ∧ g'.1 2 = A2) 237 [(0, .ref 0), (1, .int x), (2, .int y), (3, .ref 39), (4, .ref 40)] [] W := by
  have hl := h.le
  have hn2 := h.2.2.2.2.2
  obtain ⟨⟨qq, hq⟩, hP, hI, e0, e1, -⟩ := id h
  refine b_iload_n dL_change_237 rfl ?_
  refine b_bipush (v := 13) dL_change_238 (by decide) ?_
  refine b_ishr dL_change_240 ?_
  refine b_aload_n dL_change_241 rfl ?_
  refine b_iconst (v := 0) dL_change_242 (by decide) ?_
  refine b_ialdN dL_change_243 rfl ⟨by decide, by decide⟩ ?_
  refine b_topi (y := nI n) e0 ?_
  refine b_callS2 dL_change_244 lk_L_15 ⟨Nat.le_of_ble_eq_true rfl, Nat.le_of_ble_eq_true rfl⟩ (Nat.le_of_ble_eq_true rfl) (s_L_some (N := n) (by omega) (by omega)) (fun r w244 h244 => ?_)
  obtain ⟨rfl, p, hp, rfl⟩ := h244
  refine b_istore dL_change_247 (by decide) ?_
  refine b_iload_n dL_change_249 rfl ?_
  refine b_bipush (v := 14) dL_change_250 (by decide) ?_
  refine b_ishr dL_change_252 ?_
  refine b_iconst (v := 5) dL_change_253 (by decide) ?_
  refine b_callS2 dL_change_254 lk_L_15 ⟨Nat.le_of_ble_eq_true rfl, Nat.le_of_ble_eq_true rfl⟩ (Nat.le_of_ble_eq_true rfl) (s_L_some (N := 5) (by decide) (by omega)) (fun r w254 h254 => ?_)
  obtain ⟨rfl, j, hj, rfl⟩ := h254
  refine b_if_ne (tgt := 264) dL_change_257 (by decide) (fun h257 => ?_) (fun h257 => ?_)
  · refine b_iconst (v := 0) dL_change_264 (by decide) ?_
    refine b_istore dL_change_265 (by decide) ?_
    refine b_aload_n dL_change_267 rfl ?_
    refine b_iload dL_change_268 rfl ?_
    refine b_iload dL_change_270 rfl ?_
    refine b_callV2 dL_change_272 lk_L_36 rfl rfl rfl ⟨Nat.le_of_ble_eq_true rfl, Nat.le_of_ble_eq_true rfl⟩ (Nat.le_of_ble_eq_true rfl) (Spec.up (s_X7_arrest hq (Or.inl rfl))) (fun r w272 h272 => ?_)
    obtain ⟨rfl, ⟨n1, c1, q1, hr⟩, hk⟩ := up_Q h272
    rw [R_arrest_k h hp] at hr
    refine b_topi (y := if g.1 7 p = 0 then 0 else 1) (by rw [R_arrest_k h hp]) ?_
    have hb := hP.2.2.2 p hp
    have hb39 : w272.1 39 = W.1 39 := hk 39 (by decide)
    have g7z : bt (w272.1 39 2) p = false → g.1 7 p = 0 := fun z => hb.mp (by rw [← hb39]; exact z)
    have g7o : bt (w272.1 39 2) p = true → g.1 7 p = 1 := fun z => (hP.1.2.2.2.2.1 p hp).resolve_left (fun y => absurd (hb.mpr y) (by rw [← hb39, z]; decide))
    refine b_aload_n dL_change_275 rfl ?_
    refine b_iconst (v := 2) dL_change_276 (by decide) ?_
    refine b_ialdN dL_change_277 rfl ⟨by decide, by decide⟩ ?_
    refine b_iload dL_change_278 rfl ?_
    refine b_ishr dL_change_280 ?_
    refine b_iconst (v := 1) dL_change_281 (by decide) ?_
    refine b_iand dL_change_282 ?_
    refine b_iconst (v := 1) dL_change_283 (by decide) ?_
    refine b_icmp_ne (tgt := 291) dL_change_284 (by decide) (fun h284 => ?_) (fun h284 => ?_)
    · refine b_iconst (v := 0) dL_change_291 (by decide) ?_
      refine b_iload dL_change_292 rfl ?_
      refine b_icmp_ne (tgt := 301) dL_change_294 (by decide) (fun h294 => absurd h294 (by decide)) (fun h294 => ?_)
      refine b_iconst (v := 0) dL_change_297 (by decide) ?_
      refine b_goto (tgt := 302) dL_change_298 (by decide) ?_
      refine b_icmp_eq (tgt := 307) dL_change_302 (by decide) (fun h302 => ?_) (fun h302 => ?_)
      · refine b_aload_n dL_change_307 rfl ?_
        refine b_iconst (v := 2) dL_change_308 (by decide) ?_
        refine b_iload dL_change_309 rfl ?_
        refine b_if_eq (tgt := 325) dL_change_311 (by decide) (fun h311 => ?_) (fun h311 => absurd h311 (by decide))
        refine b_aload_n dL_change_325 rfl ?_
        refine b_iconst (v := 2) dL_change_326 (by decide) ?_
        refine b_ialdN dL_change_327 rfl ⟨by decide, by decide⟩ ?_
        refine b_iconst (v := 1) dL_change_328 (by decide) ?_
        refine b_iload dL_change_329 rfl ?_
        refine b_ishl dL_change_331 ?_
        refine b_iconst (v := (-1)) dL_change_332 (by decide) ?_
        refine b_ixor dL_change_333 ?_
        refine b_iand dL_change_334 ?_
        refine b_iastN dL_change_335 rfl ⟨by decide, by decide⟩ ?_
        refine b_iconst (v := 1) dL_change_336 (by decide) ?_
        refine b_zret (Or.inr rfl) dL_change_337 rfl ⟨rfl, c, _, h.arr hp hr hk (fun k hk9 => ?_), hA⟩
        by_cases e : k = p
        · subst e
          rw [bt_off1 _ (by omega) (by omega)]; simp
        · rw [bt_off1 _ (by omega) (by omega), if_neg e, decide_eq_false e, Bool.not_false, Bool.and_true, hk 39 (by decide)]; exact hP.2.2.2 k hk9
      · exact absurd (by rw [g7z (b_f (fun z => h284 ((bit_1 _ (by omega)).mpr z)))]; decide) h302
    · refine b_iconst (v := 1) dL_change_287 (by decide) ?_
      refine b_goto (tgt := 292) dL_change_288 (by decide) ?_
      refine b_iload dL_change_292 rfl ?_
      refine b_icmp_ne (tgt := 301) dL_change_294 (by decide) (fun h294 => ?_) (fun h294 => absurd h294 (by decide))
      refine b_iconst (v := 1) dL_change_301 (by decide) ?_
      refine b_icmp_eq (tgt := 307) dL_change_302 (by decide) (fun h302 => ?_) (fun h302 => ?_)
      · refine b_aload_n dL_change_307 rfl ?_
        refine b_iconst (v := 2) dL_change_308 (by decide) ?_
        refine b_iload dL_change_309 rfl ?_
        refine b_if_eq (tgt := 325) dL_change_311 (by decide) (fun h311 => ?_) (fun h311 => absurd h311 (by decide))
        refine b_aload_n dL_change_325 rfl ?_
        refine b_iconst (v := 2) dL_change_326 (by decide) ?_
        refine b_ialdN dL_change_327 rfl ⟨by decide, by decide⟩ ?_
        refine b_iconst (v := 1) dL_change_328 (by decide) ?_
        refine b_iload dL_change_329 rfl ?_
        refine b_ishl dL_change_331 ?_
        refine b_iconst (v := (-1)) dL_change_332 (by decide) ?_
        refine b_ixor dL_change_333 ?_
        refine b_iand dL_change_334 ?_
        refine b_iastN dL_change_335 rfl ⟨by decide, by decide⟩ ?_
        refine b_iconst (v := 1) dL_change_336 (by decide) ?_
        refine b_zret (Or.inr rfl) dL_change_337 rfl ⟨rfl, c, _, h.arr hp hr hk (fun k hk9 => ?_), hA⟩
        by_cases e : k = p
        · subst e
          rw [bt_off1 _ (by omega) (by omega)]; simp
        · rw [bt_off1 _ (by omega) (by omega), if_neg e, decide_eq_false e, Bool.not_false, Bool.and_true, hk 39 (by decide)]; exact hP.2.2.2 k hk9
      · exact absurd (by rw [g7o ((bit_1 _ (by omega)).mp h284)]; decide) h302
  · refine b_iconst (v := 1) dL_change_260 (by decide) ?_
    refine b_goto (tgt := 265) dL_change_261 (by decide) ?_
    refine b_istore dL_change_265 (by decide) ?_
    refine b_aload_n dL_change_267 rfl ?_
    refine b_iload dL_change_268 rfl ?_
    refine b_iload dL_change_270 rfl ?_
    refine b_callV2 dL_change_272 lk_L_36 rfl rfl rfl ⟨Nat.le_of_ble_eq_true rfl, Nat.le_of_ble_eq_true rfl⟩ (Nat.le_of_ble_eq_true rfl) (Spec.up (s_X7_arrest hq (Or.inr rfl))) (fun r w272 h272 => ?_)
    obtain ⟨rfl, ⟨n1, c1, q1, hr⟩, hk⟩ := up_Q h272
    rw [R_arrest_k h hp] at hr
    refine b_topi (y := if g.1 7 p = 1 then 0 else 1) (by rw [R_arrest_k h hp]) ?_
    have hb := hP.2.2.2 p hp
    have hb39 : w272.1 39 = W.1 39 := hk 39 (by decide)
    have g7z : bt (w272.1 39 2) p = false → g.1 7 p = 0 := fun z => hb.mp (by rw [← hb39]; exact z)
    have g7o : bt (w272.1 39 2) p = true → g.1 7 p = 1 := fun z => (hP.1.2.2.2.2.1 p hp).resolve_left (fun y => absurd (hb.mpr y) (by rw [← hb39, z]; decide))
    refine b_aload_n dL_change_275 rfl ?_
    refine b_iconst (v := 2) dL_change_276 (by decide) ?_
    refine b_ialdN dL_change_277 rfl ⟨by decide, by decide⟩ ?_
    refine b_iload dL_change_278 rfl ?_
    refine b_ishr dL_change_280 ?_
    refine b_iconst (v := 1) dL_change_281 (by decide) ?_
    refine b_iand dL_change_282 ?_
    refine b_iconst (v := 1) dL_change_283 (by decide) ?_
    refine b_icmp_ne (tgt := 291) dL_change_284 (by decide) (fun h284 => ?_) (fun h284 => ?_)
    · refine b_iconst (v := 0) dL_change_291 (by decide) ?_
      refine b_iload dL_change_292 rfl ?_
      refine b_icmp_ne (tgt := 301) dL_change_294 (by decide) (fun h294 => ?_) (fun h294 => absurd h294 (by decide))
      refine b_iconst (v := 1) dL_change_301 (by decide) ?_
      refine b_icmp_eq (tgt := 307) dL_change_302 (by decide) (fun h302 => ?_) (fun h302 => ?_)
      · refine b_aload_n dL_change_307 rfl ?_
        refine b_iconst (v := 2) dL_change_308 (by decide) ?_
        refine b_iload dL_change_309 rfl ?_
        refine b_if_eq (tgt := 325) dL_change_311 (by decide) (fun h311 => absurd h311 (by decide)) (fun h311 => ?_)
        refine b_aload_n dL_change_314 rfl ?_
        refine b_iconst (v := 2) dL_change_315 (by decide) ?_
        refine b_ialdN dL_change_316 rfl ⟨by decide, by decide⟩ ?_
        refine b_iconst (v := 1) dL_change_317 (by decide) ?_
        refine b_iload dL_change_318 rfl ?_
        refine b_ishl dL_change_320 ?_
        refine b_ior dL_change_321 ?_
        refine b_goto (tgt := 335) dL_change_322 (by decide) ?_
        refine b_iastN dL_change_335 rfl ⟨by decide, by decide⟩ ?_
        refine b_iconst (v := 1) dL_change_336 (by decide) ?_
        refine b_zret (Or.inr rfl) dL_change_337 rfl ⟨rfl, c, _, h.arr hp hr hk (fun k hk9 => ?_), hA⟩
        by_cases e : k = p
        · subst e
          rw [bt_or1 _ (by omega) (by omega)]; simp
        · rw [bt_or1 _ (by omega) (by omega), if_neg e, decide_eq_false e, Bool.or_false, hk 39 (by decide)]; exact hP.2.2.2 k hk9
      · exact absurd (by rw [g7z (b_f (fun z => h284 ((bit_1 _ (by omega)).mpr z)))]; decide) h302
    · refine b_iconst (v := 1) dL_change_287 (by decide) ?_
      refine b_goto (tgt := 292) dL_change_288 (by decide) ?_
      refine b_iload dL_change_292 rfl ?_
      refine b_icmp_ne (tgt := 301) dL_change_294 (by decide) (fun h294 => absurd h294 (by decide)) (fun h294 => ?_)
      refine b_iconst (v := 0) dL_change_297 (by decide) ?_
      refine b_goto (tgt := 302) dL_change_298 (by decide) ?_
      refine b_icmp_eq (tgt := 307) dL_change_302 (by decide) (fun h302 => ?_) (fun h302 => ?_)
      · refine b_aload_n dL_change_307 rfl ?_
        refine b_iconst (v := 2) dL_change_308 (by decide) ?_
        refine b_iload dL_change_309 rfl ?_
        refine b_if_eq (tgt := 325) dL_change_311 (by decide) (fun h311 => absurd h311 (by decide)) (fun h311 => ?_)
        refine b_aload_n dL_change_314 rfl ?_
        refine b_iconst (v := 2) dL_change_315 (by decide) ?_
        refine b_ialdN dL_change_316 rfl ⟨by decide, by decide⟩ ?_
        refine b_iconst (v := 1) dL_change_317 (by decide) ?_
        refine b_iload dL_change_318 rfl ?_
        refine b_ishl dL_change_320 ?_
        refine b_ior dL_change_321 ?_
        refine b_goto (tgt := 335) dL_change_322 (by decide) ?_
        refine b_iastN dL_change_335 rfl ⟨by decide, by decide⟩ ?_
        refine b_iconst (v := 1) dL_change_336 (by decide) ?_
        refine b_zret (Or.inr rfl) dL_change_337 rfl ⟨rfl, c, _, h.arr hp hr hk (fun k hk9 => ?_), hA⟩
        by_cases e : k = p
        · subst e
          rw [bt_or1 _ (by omega) (by omega)]; simp
        · rw [bt_or1 _ (by omega) (by omega), if_neg e, decide_eq_false e, Bool.or_false, hk 39 (by decide)]; exact hP.2.2.2 k hk9
      · exact absurd (by rw [g7o ((bit_1 _ (by omega)).mp h284)]; decide) h302

theorem ch_ne {n a s : Nat} (ha : a < n) (hs : s < n - 1) : a ≠ (a + 1 + s) % n := by
  intro h
  by_cases e : a + 1 + s < n
  · rw [Nat.mod_eq_of_lt e] at h; omega
  · rw [Nat.mod_eq_sub_mod (by omega), Nat.mod_eq_of_lt (by omega)] at h; omega

set_option maxRecDepth 100000 in
set_option maxHeartbeats 1000000 in
theorem s_ch_60 {n : Nat} {x y : Int32} {A1 A2 : Nat → Int32} : ∀ q k, k + q = 3 → ∀ (c : Nat) (W g : kW), gL n c W g → g.1 1 = A1 ∧ g.1 2 = A2 → BS shL RL cL_change 11 (some .boolean) 3 67 (fun r W' => r = some (.int 1) ∧ ∃ c' g', gL n c' W' g' ∧ g'.1 1 = A1 ∧ g'.1 2 = A2) 60 [(0, .ref 0), (1, .int x), (2, .int y), (3, .ref 39), (4, .ref 40), (5, .int (nI k))] [] W := by
  intro q
  induction q with
  | zero =>
    intro k hk c W g h hA
    refine b_iload dL_change_60 rfl ?_
    refine b_iconst (v := 3) dL_change_62 (by decide) ?_
    refine b_icmp_ge (tgt := 237) dL_change_63 (by decide) (fun h63 => ?_) (fun h63 => ?_)
    · refine b_sub [0, 1, 2, 3, 4] rfl ?_
      exact s_ch_237 h hA
    · exact absurd (nI_le (a := 3) (by omega) (by omega)) h63
  | succ q ih =>
    intro k hk c W g h hA
    have hl := h.le
    have hn2 := h.2.2.2.2.2
    obtain ⟨⟨qq, hq⟩, hP, hI, e0, e1, -⟩ := id h
    refine b_iload dL_change_60 rfl ?_
    refine b_iconst (v := 3) dL_change_62 (by decide) ?_
    refine b_icmp_ge (tgt := 237) dL_change_63 (by decide) (fun h63 => ?_) (fun h63 => ?_)
    · exact absurd h63 (nI_ge (b := 3) (by omega) (by omega))
    · refine b_aload_n dL_change_66 rfl ?_
      refine b_iconst (v := 1) dL_change_67 (by decide) ?_
      refine b_ialdN dL_change_68 rfl ⟨by decide, by decide⟩ ?_
      refine b_topi (y := nI c) e1 ?_
      refine b_bipush (v := 8) dL_change_69 (by decide) ?_
      refine b_icmp_ne (tgt := 77) dL_change_71 (by decide) (fun h71 => ?_) (fun h71 => ?_)
      · have hc8 : c < 8 := by
          have : ¬ c = 8 := fun z => h71 (by rw [z]; rfl)
          omega
        refine b_iload_n dL_change_77 rfl ?_
        refine b_iconst (v := 3) dL_change_78 (by decide) ?_
        refine b_iload dL_change_79 rfl ?_
        refine b_imul dL_change_81 ?_
        refine b_ishr dL_change_82 ?_
        refine b_aload_n dL_change_83 rfl ?_
        refine b_iconst (v := 0) dL_change_84 (by decide) ?_
        refine b_ialdN dL_change_85 rfl ⟨by decide, by decide⟩ ?_
        refine b_topi (y := nI n) e0 ?_
        refine b_callS2 dL_change_86 lk_L_15 ⟨Nat.le_of_ble_eq_true rfl, Nat.le_of_ble_eq_true rfl⟩ (Nat.le_of_ble_eq_true rfl) (s_L_some (N := n) (by omega) (by omega)) (fun r w86 h86 => ?_)
        obtain ⟨rfl, a, ha, rfl⟩ := h86
        refine b_istore dL_change_89 (by decide) ?_
        refine b_iload dL_change_91 rfl ?_
        refine b_iconst (v := 1) dL_change_93 (by decide) ?_
        refine b_iadd dL_change_94 ?_
        refine b_topi (y := nI (a + 1)) (nI_1 a) ?_
        refine b_iload_n dL_change_95 rfl ?_
        refine b_iconst (v := 2) dL_change_96 (by decide) ?_
        refine b_iconst (v := 3) dL_change_97 (by decide) ?_
        refine b_iload dL_change_98 rfl ?_
        refine b_imul dL_change_100 ?_
        refine b_iadd dL_change_101 ?_
        refine b_ishr dL_change_102 ?_
        refine b_aload_n dL_change_103 rfl ?_
        refine b_iconst (v := 0) dL_change_104 (by decide) ?_
        refine b_ialdN dL_change_105 rfl ⟨by decide, by decide⟩ ?_
        refine b_topi (y := nI n) e0 ?_
        refine b_iconst (v := 1) dL_change_106 (by decide) ?_
        refine b_isub dL_change_107 ?_
        refine b_topi (y := nI (n - 1)) (nI_sub (b := 1) (by omega)) ?_
        refine b_callS2 dL_change_108 lk_L_15 ⟨Nat.le_of_ble_eq_true rfl, Nat.le_of_ble_eq_true rfl⟩ (Nat.le_of_ble_eq_true rfl) (s_L_some (N := n - 1) (by omega) (by omega)) (fun r w108 h108 => ?_)
        obtain ⟨rfl, b0, hb0, rfl⟩ := h108
        refine b_iadd dL_change_111 ?_
        refine b_topi (y := nI (a + 1 + b0)) (nI_add _ _) ?_
        refine b_aload_n dL_change_112 rfl ?_
        refine b_iconst (v := 0) dL_change_113 (by decide) ?_
        refine b_ialdN dL_change_114 rfl ⟨by decide, by decide⟩ ?_
        refine b_topi (y := nI n) e0 ?_
        refine b_irem dL_change_115 (nI_ne0 (by omega) (by omega)) ?_
        refine b_topi (y := nI ((a + 1 + b0) % n)) (nI_rem (by omega) (by omega)) ?_
        refine b_istore dL_change_116 (by decide) ?_
        have hb : (a + 1 + b0) % n < n := Nat.mod_lt _ (by omega)
        have hab : a ≠ (a + 1 + b0) % n := ch_ne ha hb0
        refine b_iload_n dL_change_118 rfl ?_
        refine b_iconst (v := 3) dL_change_119 (by decide) ?_
        refine b_iload dL_change_120 rfl ?_
        refine b_imul dL_change_122 ?_
        refine b_ishr dL_change_123 ?_
        refine b_iload_n dL_change_124 rfl ?_
        refine b_bipush (v := 17) dL_change_125 (by decide) ?_
        refine b_ishr dL_change_127 ?_
        refine b_iconst (v := 2) dL_change_128 (by decide) ?_
        refine b_callS2 dL_change_129 lk_L_15 ⟨Nat.le_of_ble_eq_true rfl, Nat.le_of_ble_eq_true rfl⟩ (Nat.le_of_ble_eq_true rfl) (s_L_some (N := 2) (by decide) (by omega)) (fun r w129 h129 => ?_)
        obtain ⟨rfl, j0, hj0, rfl⟩ := h129
        refine b_if_ne (tgt := 140) dL_change_132 (by decide) (fun h132 => ?_) (fun h132 => ?_)
        · refine b_iconst (v := 4) dL_change_140 (by decide) ?_
          refine b_callS2 dL_change_141 lk_L_15 ⟨Nat.le_of_ble_eq_true rfl, Nat.le_of_ble_eq_true rfl⟩ (Nat.le_of_ble_eq_true rfl) (s_L_some (N := 4) (by decide) (by decide)) (fun r w141 h141 => ?_)
          obtain ⟨rfl, dd, hdd, rfl⟩ := h141
          refine b_istore dL_change_144 (by decide) ?_
          refine b_iconst (v := 1) dL_change_146 (by decide) ?_
          refine b_iload_n dL_change_147 rfl ?_
          refine b_iconst (v := 5) dL_change_148 (by decide) ?_
          refine b_iconst (v := 3) dL_change_149 (by decide) ?_
          refine b_iload dL_change_150 rfl ?_
          refine b_imul dL_change_152 ?_
          refine b_iadd dL_change_153 ?_
          refine b_ishr dL_change_154 ?_
          refine b_bipush (v := 9) dL_change_155 (by decide) ?_
          refine b_callS2 dL_change_157 lk_L_15 ⟨Nat.le_of_ble_eq_true rfl, Nat.le_of_ble_eq_true rfl⟩ (Nat.le_of_ble_eq_true rfl) (s_L_some (N := 9) (by decide) (by omega)) (fun r w157 h157 => ?_)
          obtain ⟨rfl, jj, hjj, rfl⟩ := h157
          refine b_iadd dL_change_160 ?_
          refine b_topi (y := nI (1 + jj)) (nI_add 1 jj) ?_
          refine b_istore dL_change_161 (by decide) ?_
          refine b_aload_n dL_change_163 rfl ?_
          refine b_iload dL_change_164 rfl ?_
          refine b_iload dL_change_166 rfl ?_
          refine b_iload dL_change_168 rfl ?_
          refine b_iload dL_change_170 rfl ?_
          refine b_callV4 dL_change_172 lk_L_32 rfl rfl rfl ⟨Nat.le_of_ble_eq_true rfl, Nat.le_of_ble_eq_true rfl⟩ (Nat.le_of_ble_eq_true rfl) (Spec.up (s_X7_insult hq)) (fun r w172 h172 => ?_)
          obtain ⟨rfl, ⟨n1, c1, q1, hr⟩, hk9⟩ := up_Q h172
          have eR := R_insult_k h hc8 ha hb hab (show dd < 30 by omega) (show 1 ≤ 1 + jj by omega) (by omega)
          rw [eR] at hr
          refine b_topi (y := nI c) (by rw [eR]) ?_
          refine b_aload_n dL_change_175 rfl ?_
          refine b_iconst (v := 1) dL_change_176 (by decide) ?_
          refine b_ialdN dL_change_177 rfl ⟨by decide, by decide⟩ ?_
          refine b_topi (y := nI c) (by rw [hk9 39 (by decide)]; exact e1) ?_
          refine b_icmp_eq (tgt := 183) dL_change_178 (by decide) (fun h178 => ?_) (fun h178 => ?_)
          · refine b_iconst (v := 4) dL_change_183 (by decide) ?_
            refine b_aload_n dL_change_184 rfl ?_
            refine b_iconst (v := 1) dL_change_185 (by decide) ?_
            refine b_ialdN dL_change_186 rfl ⟨by decide, by decide⟩ ?_
            refine b_topi (y := nI c) (by rw [hk9 39 (by decide)]; exact e1) ?_
            refine b_imul dL_change_187 ?_
            refine b_topi (y := nI (4 * c)) (nI_mul 4 c) ?_
            refine b_istore dL_change_188 (by decide) ?_
            refine b_aload dL_change_190 rfl ?_
            refine b_iload dL_change_192 rfl ?_
            refine b_iload dL_change_194 rfl ?_
            refine b_iastN dL_change_196 rfl ⟨by omega, by decide⟩ ?_
            refine b_aload dL_change_197 rfl ?_
            refine b_iload dL_change_199 rfl ?_
            refine b_iconst (v := 1) dL_change_201 (by decide) ?_
            refine b_iadd dL_change_202 ?_
            refine b_topi (y := nI (4 * c + 1)) (nI_1 _) ?_
            refine b_iload dL_change_203 rfl ?_
            refine b_iastN dL_change_205 rfl ⟨by omega, by decide⟩ ?_
            refine b_aload dL_change_206 rfl ?_
            refine b_iload dL_change_208 rfl ?_
            refine b_iconst (v := 2) dL_change_210 (by decide) ?_
            refine b_iadd dL_change_211 ?_
            refine b_topi (y := nI (4 * c + 2)) (nI_add _ 2) ?_
            refine b_iload dL_change_212 rfl ?_
            refine b_iastN dL_change_214 rfl ⟨by omega, by decide⟩ ?_
            refine b_aload dL_change_215 rfl ?_
            refine b_iload dL_change_217 rfl ?_
            refine b_iconst (v := 3) dL_change_219 (by decide) ?_
            refine b_iadd dL_change_220 ?_
            refine b_topi (y := nI (4 * c + 3)) (nI_add _ 3) ?_
            refine b_iload dL_change_221 rfl ?_
            refine b_iastN dL_change_223 rfl ⟨by omega, by decide⟩ ?_
            refine b_aload_n dL_change_224 rfl ?_
            refine b_iconst (v := 1) dL_change_225 (by decide) ?_
            refine b_dup2 dL_change_226 rfl rfl ?_
            refine b_ialdN dL_change_227 rfl ⟨by decide, by decide⟩ ?_
            refine b_topi (y := nI c) (by show w172.1 39 1 = nI c; rw [hk9 39 (by decide)]; exact e1) ?_
            refine b_iconst (v := 1) dL_change_228 (by decide) ?_
            refine b_iadd dL_change_229 ?_
            refine b_topi (y := nI (c + 1)) (nI_1 _) ?_
            refine b_iastN dL_change_230 rfl ⟨by decide, by decide⟩ ?_
            refine b_iinc dL_change_231 rfl (nI_inc k) (by decide) ?_
            refine b_goto (tgt := 60) dL_change_234 (by decide) ?_
            refine b_sub [6, 7, 8, 9, 10, 0] rfl ?_
            exact ih (k + 1) (by omega) (c + 1) _ _ (h.ins hc8 hr hk9) hA
          · exact absurd rfl h178
        · refine b_bipush (v := 30) dL_change_135 (by decide) ?_
          refine b_goto (tgt := 141) dL_change_137 (by decide) ?_
          refine b_callS2 dL_change_141 lk_L_15 ⟨Nat.le_of_ble_eq_true rfl, Nat.le_of_ble_eq_true rfl⟩ (Nat.le_of_ble_eq_true rfl) (s_L_some (N := 30) (by decide) (by decide)) (fun r w141 h141 => ?_)
          obtain ⟨rfl, dd, hdd, rfl⟩ := h141
          refine b_istore dL_change_144 (by decide) ?_
          refine b_iconst (v := 1) dL_change_146 (by decide) ?_
          refine b_iload_n dL_change_147 rfl ?_
          refine b_iconst (v := 5) dL_change_148 (by decide) ?_
          refine b_iconst (v := 3) dL_change_149 (by decide) ?_
          refine b_iload dL_change_150 rfl ?_
          refine b_imul dL_change_152 ?_
          refine b_iadd dL_change_153 ?_
          refine b_ishr dL_change_154 ?_
          refine b_bipush (v := 9) dL_change_155 (by decide) ?_
          refine b_callS2 dL_change_157 lk_L_15 ⟨Nat.le_of_ble_eq_true rfl, Nat.le_of_ble_eq_true rfl⟩ (Nat.le_of_ble_eq_true rfl) (s_L_some (N := 9) (by decide) (by omega)) (fun r w157 h157 => ?_)
          obtain ⟨rfl, jj, hjj, rfl⟩ := h157
          refine b_iadd dL_change_160 ?_
          refine b_topi (y := nI (1 + jj)) (nI_add 1 jj) ?_
          refine b_istore dL_change_161 (by decide) ?_
          refine b_aload_n dL_change_163 rfl ?_
          refine b_iload dL_change_164 rfl ?_
          refine b_iload dL_change_166 rfl ?_
          refine b_iload dL_change_168 rfl ?_
          refine b_iload dL_change_170 rfl ?_
          refine b_callV4 dL_change_172 lk_L_32 rfl rfl rfl ⟨Nat.le_of_ble_eq_true rfl, Nat.le_of_ble_eq_true rfl⟩ (Nat.le_of_ble_eq_true rfl) (Spec.up (s_X7_insult hq)) (fun r w172 h172 => ?_)
          obtain ⟨rfl, ⟨n1, c1, q1, hr⟩, hk9⟩ := up_Q h172
          have eR := R_insult_k h hc8 ha hb hab (show dd < 30 by omega) (show 1 ≤ 1 + jj by omega) (by omega)
          rw [eR] at hr
          refine b_topi (y := nI c) (by rw [eR]) ?_
          refine b_aload_n dL_change_175 rfl ?_
          refine b_iconst (v := 1) dL_change_176 (by decide) ?_
          refine b_ialdN dL_change_177 rfl ⟨by decide, by decide⟩ ?_
          refine b_topi (y := nI c) (by rw [hk9 39 (by decide)]; exact e1) ?_
          refine b_icmp_eq (tgt := 183) dL_change_178 (by decide) (fun h178 => ?_) (fun h178 => ?_)
          · refine b_iconst (v := 4) dL_change_183 (by decide) ?_
            refine b_aload_n dL_change_184 rfl ?_
            refine b_iconst (v := 1) dL_change_185 (by decide) ?_
            refine b_ialdN dL_change_186 rfl ⟨by decide, by decide⟩ ?_
            refine b_topi (y := nI c) (by rw [hk9 39 (by decide)]; exact e1) ?_
            refine b_imul dL_change_187 ?_
            refine b_topi (y := nI (4 * c)) (nI_mul 4 c) ?_
            refine b_istore dL_change_188 (by decide) ?_
            refine b_aload dL_change_190 rfl ?_
            refine b_iload dL_change_192 rfl ?_
            refine b_iload dL_change_194 rfl ?_
            refine b_iastN dL_change_196 rfl ⟨by omega, by decide⟩ ?_
            refine b_aload dL_change_197 rfl ?_
            refine b_iload dL_change_199 rfl ?_
            refine b_iconst (v := 1) dL_change_201 (by decide) ?_
            refine b_iadd dL_change_202 ?_
            refine b_topi (y := nI (4 * c + 1)) (nI_1 _) ?_
            refine b_iload dL_change_203 rfl ?_
            refine b_iastN dL_change_205 rfl ⟨by omega, by decide⟩ ?_
            refine b_aload dL_change_206 rfl ?_
            refine b_iload dL_change_208 rfl ?_
            refine b_iconst (v := 2) dL_change_210 (by decide) ?_
            refine b_iadd dL_change_211 ?_
            refine b_topi (y := nI (4 * c + 2)) (nI_add _ 2) ?_
            refine b_iload dL_change_212 rfl ?_
            refine b_iastN dL_change_214 rfl ⟨by omega, by decide⟩ ?_
            refine b_aload dL_change_215 rfl ?_
            refine b_iload dL_change_217 rfl ?_
            refine b_iconst (v := 3) dL_change_219 (by decide) ?_
            refine b_iadd dL_change_220 ?_
            refine b_topi (y := nI (4 * c + 3)) (nI_add _ 3) ?_
            refine b_iload dL_change_221 rfl ?_
            refine b_iastN dL_change_223 rfl ⟨by omega, by decide⟩ ?_
            refine b_aload_n dL_change_224 rfl ?_
            refine b_iconst (v := 1) dL_change_225 (by decide) ?_
            refine b_dup2 dL_change_226 rfl rfl ?_
            refine b_ialdN dL_change_227 rfl ⟨by decide, by decide⟩ ?_
            refine b_topi (y := nI c) (by show w172.1 39 1 = nI c; rw [hk9 39 (by decide)]; exact e1) ?_
            refine b_iconst (v := 1) dL_change_228 (by decide) ?_
            refine b_iadd dL_change_229 ?_
            refine b_topi (y := nI (c + 1)) (nI_1 _) ?_
            refine b_iastN dL_change_230 rfl ⟨by decide, by decide⟩ ?_
            refine b_iinc dL_change_231 rfl (nI_inc k) (by decide) ?_
            refine b_goto (tgt := 60) dL_change_234 (by decide) ?_
            refine b_sub [6, 7, 8, 9, 10, 0] rfl ?_
            exact ih (k + 1) (by omega) (c + 1) _ _ (h.ins hc8 hr hk9) hA
          · exact absurd rfl h178
      · refine b_goto (tgt := 231) dL_change_74 (by decide) ?_
        refine b_iinc dL_change_231 rfl (nI_inc k) (by decide) ?_
        refine b_goto (tgt := 60) dL_change_234 (by decide) ?_
        refine b_sub [1, 2, 3, 4, 5, 0] rfl ?_
        exact ih (k + 1) (by omega) c W g h hA

set_option maxRecDepth 100000 in
set_option maxHeartbeats 1000000 in
theorem s_L_change {n c : Nat} {x y : Int32} {W g : kW} {A1 A2 : Nat → Int32} (h : gL n c W g) (hA : g.1 1 = A1 ∧ g.1 2 = A2) : Spec shL yL_change cL_change 11 (some .boolean) 3 67 [.ref 0, .int x, .int y, .ref 39, .ref 40] W (fun r W' => r = some (.int 1) ∧ ∃ c' g', gL n c' W' g' ∧ g'.1 1 = A1 ∧ g'.1 2 = A2) := by
  have hl := h.le
  have hn2 := h.2.2.2.2.2
  obtain ⟨⟨qq, hq⟩, hP, hI, e0, e1, -⟩ := id h
  refine k_enter pn_L (Nat.le_of_ble_eq_true rfl) ?_
  refine b_aload_n dL_change_0 rfl ?_
  refine b_iconst (v := 1) dL_change_1 (by decide) ?_
  refine b_ialdN dL_change_2 rfl ⟨by decide, by decide⟩ ?_
  refine b_topi (y := nI c) e1 ?_
  refine b_iconst (v := 4) dL_change_3 (by decide) ?_
  refine b_icmp_gt (tgt := 18) dL_change_4 (by decide) (fun h4 => ?_) (fun h4 => ?_)
  · refine b_iload_n dL_change_18 rfl ?_
    refine b_bipush (v := 17) dL_change_19 (by decide) ?_
    refine b_ishr dL_change_21 ?_
    refine b_aload_n dL_change_22 rfl ?_
    refine b_iconst (v := 1) dL_change_23 (by decide) ?_
    refine b_ialdN dL_change_24 rfl ⟨by decide, by decide⟩ ?_
    refine b_topi (y := nI c) e1 ?_
    refine b_iconst (v := 1) dL_change_25 (by decide) ?_
    refine b_iadd dL_change_26 ?_
    refine b_topi (y := nI (c + 1)) (nI_1 c) ?_
    refine b_callS2 dL_change_27 lk_L_15 ⟨Nat.le_of_ble_eq_true rfl, Nat.le_of_ble_eq_true rfl⟩ (Nat.le_of_ble_eq_true rfl) (s_L_some (N := c + 1) (by omega) (by omega)) (fun r w27 h27 => ?_)
    obtain ⟨rfl, kk, hkk, rfl⟩ := h27
    refine b_istore dL_change_30 (by decide) ?_
    refine b_aload_n dL_change_32 rfl ?_
    refine b_iload dL_change_33 rfl ?_
    refine b_callV1 dL_change_35 lk_L_28 rfl rfl rfl ⟨Nat.le_of_ble_eq_true rfl, Nat.le_of_ble_eq_true rfl⟩ (Nat.le_of_ble_eq_true rfl) (Spec.up (s_X7_sorry hq)) (fun r w35 h35 => ?_)
    obtain ⟨rfl, ⟨n1, c1, q1, hr⟩, hk9⟩ := up_Q h35
    have eR := R_sorry_k h (show kk ≤ c by omega)
    rw [eR] at hr
    refine b_topi (y := nI (c - kk)) (by rw [eR]) ?_
    refine b_aload_n dL_change_38 rfl ?_
    refine b_iconst (v := 1) dL_change_39 (by decide) ?_
    refine b_ialdN dL_change_40 rfl ⟨by decide, by decide⟩ ?_
    refine b_topi (y := nI c) (by rw [hk9 39 (by decide)]; exact e1) ?_
    refine b_iload dL_change_41 rfl ?_
    refine b_isub dL_change_43 ?_
    refine b_topi (y := nI (c - kk)) (nI_sub (by omega)) ?_
    refine b_icmp_eq (tgt := 49) dL_change_44 (by decide) (fun h44 => ?_) (fun h44 => ?_)
    · refine b_aload_n dL_change_49 rfl ?_
      refine b_iconst (v := 1) dL_change_50 (by decide) ?_
      refine b_dup2 dL_change_51 rfl rfl ?_
      refine b_ialdN dL_change_52 rfl ⟨by decide, by decide⟩ ?_
      refine b_topi (y := nI c) (by rw [hk9 39 (by decide)]; exact e1) ?_
      refine b_iload dL_change_53 rfl ?_
      refine b_isub dL_change_55 ?_
      refine b_topi (y := nI (c - kk)) (nI_sub (by omega)) ?_
      refine b_iastN dL_change_56 rfl ⟨by decide, by decide⟩ ?_
      refine b_iconst (v := 0) dL_change_57 (by decide) ?_
      refine b_istore dL_change_58 (by decide) ?_
      refine b_sub [1, 2, 3, 4, 5, 0] rfl ?_
      exact s_ch_60 3 0 (by decide) (c - kk) _ _ (h.sor (by omega) hr hk9) hA
    · exact absurd rfl h44
  · refine b_iload_n dL_change_7 rfl ?_
    refine b_bipush (v := 19) dL_change_8 (by decide) ?_
    refine b_ishr dL_change_10 ?_
    refine b_iconst (v := 4) dL_change_11 (by decide) ?_
    refine b_callS2 dL_change_12 lk_L_15 ⟨Nat.le_of_ble_eq_true rfl, Nat.le_of_ble_eq_true rfl⟩ (Nat.le_of_ble_eq_true rfl) (s_L_some (N := 4) (by decide) (by omega)) (fun r w12 h12 => ?_)
    obtain ⟨rfl, j1, hj1, rfl⟩ := h12
    refine b_if_ne (tgt := 57) dL_change_15 (by decide) (fun h15 => ?_) (fun h15 => ?_)
    · refine b_iconst (v := 0) dL_change_57 (by decide) ?_
      refine b_istore dL_change_58 (by decide) ?_
      refine b_sub [1, 2, 3, 4, 5, 0] rfl ?_
      exact s_ch_60 3 0 (by decide) c W g h hA
    · refine b_iload_n dL_change_18 rfl ?_
      refine b_bipush (v := 17) dL_change_19 (by decide) ?_
      refine b_ishr dL_change_21 ?_
      refine b_aload_n dL_change_22 rfl ?_
      refine b_iconst (v := 1) dL_change_23 (by decide) ?_
      refine b_ialdN dL_change_24 rfl ⟨by decide, by decide⟩ ?_
      refine b_topi (y := nI c) e1 ?_
      refine b_iconst (v := 1) dL_change_25 (by decide) ?_
      refine b_iadd dL_change_26 ?_
      refine b_topi (y := nI (c + 1)) (nI_1 c) ?_
      refine b_callS2 dL_change_27 lk_L_15 ⟨Nat.le_of_ble_eq_true rfl, Nat.le_of_ble_eq_true rfl⟩ (Nat.le_of_ble_eq_true rfl) (s_L_some (N := c + 1) (by omega) (by omega)) (fun r w27 h27 => ?_)
      obtain ⟨rfl, kk, hkk, rfl⟩ := h27
      refine b_istore dL_change_30 (by decide) ?_
      refine b_aload_n dL_change_32 rfl ?_
      refine b_iload dL_change_33 rfl ?_
      refine b_callV1 dL_change_35 lk_L_28 rfl rfl rfl ⟨Nat.le_of_ble_eq_true rfl, Nat.le_of_ble_eq_true rfl⟩ (Nat.le_of_ble_eq_true rfl) (Spec.up (s_X7_sorry hq)) (fun r w35 h35 => ?_)
      obtain ⟨rfl, ⟨n1, c1, q1, hr⟩, hk9⟩ := up_Q h35
      have eR := R_sorry_k h (show kk ≤ c by omega)
      rw [eR] at hr
      refine b_topi (y := nI (c - kk)) (by rw [eR]) ?_
      refine b_aload_n dL_change_38 rfl ?_
      refine b_iconst (v := 1) dL_change_39 (by decide) ?_
      refine b_ialdN dL_change_40 rfl ⟨by decide, by decide⟩ ?_
      refine b_topi (y := nI c) (by rw [hk9 39 (by decide)]; exact e1) ?_
      refine b_iload dL_change_41 rfl ?_
      refine b_isub dL_change_43 ?_
      refine b_topi (y := nI (c - kk)) (nI_sub (by omega)) ?_
      refine b_icmp_eq (tgt := 49) dL_change_44 (by decide) (fun h44 => ?_) (fun h44 => ?_)
      · refine b_aload_n dL_change_49 rfl ?_
        refine b_iconst (v := 1) dL_change_50 (by decide) ?_
        refine b_dup2 dL_change_51 rfl rfl ?_
        refine b_ialdN dL_change_52 rfl ⟨by decide, by decide⟩ ?_
        refine b_topi (y := nI c) (by rw [hk9 39 (by decide)]; exact e1) ?_
        refine b_iload dL_change_53 rfl ?_
        refine b_isub dL_change_55 ?_
        refine b_topi (y := nI (c - kk)) (nI_sub (by omega)) ?_
        refine b_iastN dL_change_56 rfl ⟨by decide, by decide⟩ ?_
        refine b_iconst (v := 0) dL_change_57 (by decide) ?_
        refine b_istore dL_change_58 (by decide) ?_
        refine b_sub [1, 2, 3, 4, 5, 0] rfl ?_
        exact s_ch_60 3 0 (by decide) (c - kk) _ _ (h.sor (by omega) hr hk9) hA
      · exact absurd rfl h44
