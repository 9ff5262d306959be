set_option maxRecDepth 100000 in
set_option maxHeartbeats 1000000 in
theorem law_322 {n c tn m k : Nat} {g : kW} (hm : (mAhead n c g 60).1 0 28 = nI m) (hm2 : m < 200) (hk : k < m) (kk : ∀ W : kW, gL n c W g → LJ room_1 1004 10106 true lawQ shL RL code 15 (some .boolean) 355 [(0, .ref 1000), (1, .ref 0), (2, .ref 39), (4, .int (nI n)), (5, .ref 40), (6, .ref 41), (7, .ref 42), (8, .int (nI tn)), (9, .int (nI m)), (10, .int (nI k))] [] W) : ∀ q j, j + q = 6 → ∀ W : kW, gL n c W g → (∀ j, j < 6 → W.1 41 (1 + j) = (mAhead n c g 60).1 (20 + j) k) → LJ room_1 1004 10106 true lawQ shL RL code 15 (some .boolean) 322 [(0, .ref 1000), (1, .ref 0), (2, .ref 39), (4, .int (nI n)), (5, .ref 40), (6, .ref 41), (7, .ref 42), (8, .int (nI tn)), (9, .int (nI m)), (10, .int (nI k)), (11, .int (nI j))] [] W := by
  intro q
  induction q with
  | zero =>
    intro j hj W h hr
    refine l_iload dL_law_322 rfl ?_
    refine l_bipush (v := 6) dL_law_324 (by decide) ?_
    refine l_icmp_ge (tgt := 355) dL_law_326 (by decide) (fun h326 => ?_) (fun h326 => ?_)
    · refine l_sub [0, 1, 2, 3, 4, 5, 6, 7, 8, 9] rfl ?_
      exact kk W h
    · exact absurd (nI_le (a := 6) (by omega) (by omega)) h326
  | succ q ih =>
    intro j hj W h hr
    obtain ⟨qq, hq⟩ := h.1
    refine l_iload dL_law_322 rfl ?_
    refine l_bipush (v := 6) dL_law_324 (by decide) ?_
    refine l_icmp_ge (tgt := 355) dL_law_326 (by decide) (fun h326 => ?_) (fun h326 => ?_)
    · exact absurd h326 (nI_ge (b := 6) (by omega) (by omega))
    · refine l_aload_n dL_law_329 rfl ?_
      refine l_iload dL_law_330 rfl ?_
      refine l_iload dL_law_332 rfl ?_
      refine l_callV2 ⟨Nat.le_of_ble_eq_true rfl, Nat.le_of_ble_eq_true rfl⟩ dL_law_334 lk_L_68 rfl rfl rfl ⟨Nat.le_of_ble_eq_true rfl, Nat.le_of_ble_eq_true rfl⟩ (Nat.le_of_ble_eq_true rfl) (Spec.up (s_X7_met hq)) (fun r w334 h334 => ?_)
      obtain ⟨rfl, hr9, hk9⟩ := up_K hq h334
      have h := h.ask hr9 hk9
      refine l_topi (y := (mAhead n c g 60).1 (20 + j) k) (A_met_k h hm hm2 hk (by omega)) ?_
      refine l_aload dL_law_337 rfl ?_
      refine l_iconst (v := 1) dL_law_339 (by decide) ?_
      refine l_iload dL_law_340 rfl ?_
      refine l_iadd dL_law_342 ?_
      refine l_topi (y := nI (1 + j)) (nI_add 1 j) ?_
      refine l_ialdN dL_law_343 rfl ⟨by omega, by decide⟩ ?_
      refine l_topi (y := (mAhead n c g 60).1 (20 + j) k) (by rw [hk9 41 (by decide)]; exact hr j (by omega)) ?_
      refine l_icmp_eq (tgt := 349) dL_law_344 (by decide) (fun h344 => ?_) (fun h344 => ?_)
      · refine l_iinc dL_law_349 rfl (nI_inc j) (by decide) ?_
        refine l_goto (tgt := 322) dL_law_352 (by decide) ?_
        refine l_sub [1, 2, 3, 4, 5, 6, 7, 8, 9, 10, 0] rfl ?_
        exact ih (j + 1) (by omega) _ h (fun j hj => by rw [hk9 41 (by decide)]; exact hr j hj)
      · exact absurd rfl h344

set_option maxRecDepth 100000 in
set_option maxHeartbeats 1000000 in
theorem law_287 {n c tn m : Nat} {g : kW} (hm : (mAhead n c g 60).1 0 28 = nI m) (hm2 : m < 200) (kk : ∀ W : kW, gL n c W g → LJ room_1 1004 10106 true lawQ shL RL code 15 (some .boolean) 361 [(0, .ref 1000), (1, .ref 0), (2, .ref 39), (4, .int (nI n)), (5, .ref 40), (6, .ref 41), (7, .ref 42), (8, .int (nI tn)), (9, .int (nI m))] [] W) : ∀ q k, k + q = 9 → ∀ W : kW, gL n c W g → LJ room_1 1004 10106 true lawQ shL RL code 15 (some .boolean) 287 [(0, .ref 1000), (1, .ref 0), (2, .ref 39), (4, .int (nI n)), (5, .ref 40), (6, .ref 41), (7, .ref 42), (8, .int (nI tn)), (9, .int (nI m)), (10, .int (nI k))] [] W := by
  intro q
  induction q with
  | zero =>
    intro k hk W h
    refine l_iload dL_law_287 rfl ?_
    refine l_iload dL_law_289 rfl ?_
    refine l_icmp_ge (tgt := 361) dL_law_291 (by decide) (fun h291 => ?_) (fun h291 => ?_)
    · refine l_sub [0, 1, 2, 3, 4, 5, 6, 7, 8] rfl ?_
      exact kk W h
    · refine l_iload dL_law_294 rfl ?_
      refine l_bipush (v := 9) dL_law_296 (by decide) ?_
      refine l_icmp_ge (tgt := 361) dL_law_298 (by decide) (fun h298 => ?_) (fun h298 => ?_)
      · refine l_sub [0, 1, 2, 3, 4, 5, 6, 7, 8] rfl ?_
        exact kk W h
      · exact absurd (nI_le (a := 9) (by omega) (by omega)) h298
  | succ q ih =>
    intro k hk W h
    have hl := h.le
    refine l_iload dL_law_287 rfl ?_
    refine l_iload dL_law_289 rfl ?_
    refine l_icmp_ge (tgt := 361) dL_law_291 (by decide) (fun h291 => ?_) (fun h291 => ?_)
    · refine l_sub [0, 1, 2, 3, 4, 5, 6, 7, 8] rfl ?_
      exact kk W h
    · refine l_iload dL_law_294 rfl ?_
      refine l_bipush (v := 9) dL_law_296 (by decide) ?_
      refine l_icmp_ge (tgt := 361) dL_law_298 (by decide) (fun h298 => ?_) (fun h298 => ?_)
      · exact absurd h298 (nI_ge (b := 9) (by omega) (by omega))
      · refine l_aload_n dL_law_301 rfl ?_
        refine l_aload dL_law_302 rfl ?_
        refine l_aload_n dL_law_304 rfl ?_
        refine l_iconst (v := 1) dL_law_305 (by decide) ?_
        refine l_ialdN dL_law_306 rfl ⟨by decide, by decide⟩ ?_
        refine l_topi (y := nI c) h.2.2.2.2.1 ?_
        refine l_iconst (v := 0) dL_law_307 (by decide) ?_
        refine l_bipush (v := 59) dL_law_308 (by decide) ?_
        refine l_iload dL_law_310 rfl ?_
        refine l_aload dL_law_312 rfl ?_
        refine l_aload dL_law_314 rfl ?_
        refine l_callS8 ⟨Nat.le_of_ble_eq_true rfl, Nat.le_of_ble_eq_true rfl⟩ dL_law_316 lk_L_61 ⟨Nat.le_of_ble_eq_true rfl, Nat.le_of_ble_eq_true rfl⟩ (Nat.le_of_ble_eq_true rfl) (s_L_go (n := n) (D := 60) (by omega) h.2.1 h.2.2.1 h.ins0.1 (fun k _ => by rw [h.ins0.2.2]) (by decide) (by decide)) (fun r w316 h316 => ?_)
        obtain ⟨rfl, hkp, m9, hm9, hv0, hw0, -, -, hrow⟩ := h316
        have h := h.sea hkp
        have hm8 : m9 = m := nI_inj (by omega) (by omega) (hv0.symm.trans hm)
        have hkm : k < m := Nat.not_le.mp (fun z => h291 (nI_le z (by omega)))
        refine l_iconst (v := 0) dL_law_319 (by decide) ?_
        refine l_istore dL_law_320 (by decide) ?_
        refine l_sub [1, 2, 3, 4, 5, 6, 7, 8, 9, 10, 0] rfl ?_
        refine law_322 hm hm2 hkm (fun W9 h => ?_) 6 0 (by decide) _ h (hrow k (by omega) rfl)
        refine l_iinc dL_law_355 rfl (nI_inc k) (by decide) ?_
        refine l_goto (tgt := 287) dL_law_358 (by decide) ?_
        refine l_sub [1, 2, 3, 4, 5, 6, 7, 8, 9, 0] rfl ?_
        exact ih (k + 1) (by omega) W9 h

set_option maxRecDepth 100000 in
set_option maxHeartbeats 1000000 in
theorem law_228 {n c tn : Nat} {W g : kW} (h : gL n c W g) (kk : ∀ (W : kW) (m : Nat), gL n c W g → (mAhead n c g 60).1 0 28 = nI m → m < 200 → LJ room_1 1004 10106 true lawQ shL RL code 15 (some .boolean) 361 [(0, .ref 1000), (1, .ref 0), (2, .ref 39), (4, .int (nI n)), (5, .ref 40), (6, .ref 41), (7, .ref 42), (8, .int (nI tn)), (9, .int (nI m))] [] W) : LJ room_1 1004 10106 true lawQ shL RL code 15 (some .boolean) 228 [(0, .ref 1000), (1, .ref 0), (2, .ref 39), (4, .int (nI n)), (5, .ref 40), (6, .ref 41), (7, .ref 42), (8, .int (nI tn))] [] W := by
  have hl := h.le
  refine l_aload_n dL_law_228 rfl ?_
  refine l_aload dL_law_229 rfl ?_
  refine l_aload_n dL_law_231 rfl ?_
  refine l_iconst (v := 1) dL_law_232 (by decide) ?_
  refine l_ialdN dL_law_233 rfl ⟨by decide, by decide⟩ ?_
  refine l_topi (y := nI c) h.2.2.2.2.1 ?_
  refine l_iconst (v := 0) dL_law_234 (by decide) ?_
  refine l_bipush (v := 59) dL_law_235 (by decide) ?_
  refine l_iconst (v := (-1)) dL_law_237 (by decide) ?_
  refine l_aload dL_law_238 rfl ?_
  refine l_aload dL_law_240 rfl ?_
  refine l_callS8 ⟨Nat.le_of_ble_eq_true rfl, Nat.le_of_ble_eq_true rfl⟩ dL_law_242 lk_L_61 ⟨Nat.le_of_ble_eq_true rfl, Nat.le_of_ble_eq_true rfl⟩ (Nat.le_of_ble_eq_true rfl) (s_L_go (n := n) (D := 60) (by omega) h.2.1 h.2.2.1 h.ins0.1 (fun k _ => by rw [h.ins0.2.2]) (by decide) (by decide)) (fun r w242 h242 => ?_)
  obtain ⟨rfl, hkp, m, hm2, hm, hw0, -⟩ := h242
  have h := h.sea hkp
  obtain ⟨qq, hq⟩ := h.1
  refine l_aload dL_law_245 rfl ?_
  refine l_iconst (v := 0) dL_law_247 (by decide) ?_
  refine l_ialdN dL_law_248 rfl ⟨by decide, by decide⟩ ?_
  refine l_topi (y := nI m) hw0 ?_
  refine l_istore dL_law_249 (by decide) ?_
  refine l_aload_n dL_law_251 rfl ?_
  refine l_iconst (v := 3) dL_law_252 (by decide) ?_
  refine l_callV1 ⟨Nat.le_of_ble_eq_true rfl, Nat.le_of_ble_eq_true rfl⟩ dL_law_253 lk_L_65 rfl rfl rfl ⟨Nat.le_of_ble_eq_true rfl, Nat.le_of_ble_eq_true rfl⟩ (Nat.le_of_ble_eq_true rfl) (Spec.up (s_X7_many hq)) (fun r w253 h253 => ?_)
  obtain ⟨rfl, hr, hk⟩ := up_K hq h253
  have h := h.ask hr hk
  obtain ⟨qq, hq⟩ := h.1
  refine l_topi (y := nI m) (by rw [A_many_3 h, hm]) ?_
  refine l_iload dL_law_256 rfl ?_
  refine l_icmp_ne (tgt := 282) dL_law_258 (by decide) (fun h258 => ?_) (fun h258 => ?_)
  · exact absurd rfl h258
  · refine l_aload_n dL_law_261 rfl ?_
    refine l_iload dL_law_262 rfl ?_
    refine l_iconst (v := 0) dL_law_264 (by decide) ?_
    refine l_callV2 ⟨Nat.le_of_ble_eq_true rfl, Nat.le_of_ble_eq_true rfl⟩ dL_law_265 lk_L_68 rfl rfl rfl ⟨Nat.le_of_ble_eq_true rfl, Nat.le_of_ble_eq_true rfl⟩ (Nat.le_of_ble_eq_true rfl) (Spec.up (s_X7_met hq)) (fun r w265 h265 => ?_)
    obtain ⟨rfl, hr, hk⟩ := up_K hq h265
    rw [A_met_m h hm]
    have h := h.ask hr hk
    obtain ⟨qq, hq⟩ := h.1
    refine l_iconst (v := (-1)) dL_law_268 (by decide) ?_
    refine l_icmp_ne (tgt := 282) dL_law_269 (by decide) (fun h269 => absurd h269 (by decide)) (fun h269 => ?_)
    refine l_aload_n dL_law_272 rfl ?_
    refine l_iconst (v := (-1)) dL_law_273 (by decide) ?_
    refine l_iconst (v := 0) dL_law_274 (by decide) ?_
    refine l_callV2 ⟨Nat.le_of_ble_eq_true rfl, Nat.le_of_ble_eq_true rfl⟩ dL_law_275 lk_L_68 rfl rfl rfl ⟨Nat.le_of_ble_eq_true rfl, Nat.le_of_ble_eq_true rfl⟩ (Nat.le_of_ble_eq_true rfl) (Spec.up (s_X7_met hq)) (fun r w275 h275 => ?_)
    obtain ⟨rfl, hr, hk⟩ := up_K hq h275
    rw [A_met_1]
    have h := h.ask hr hk
    obtain ⟨qq, hq⟩ := h.1
    refine l_iconst (v := (-1)) dL_law_278 (by decide) ?_
    refine l_icmp_eq (tgt := 284) dL_law_279 (by decide) (fun h279 => ?_) (fun h279 => absurd h279 (by decide))
    refine l_iconst (v := 0) dL_law_284 (by decide) ?_
    refine l_istore dL_law_285 (by decide) ?_
    refine l_sub [2, 3, 4, 5, 6, 7, 8, 9, 1, 0] rfl ?_
    exact law_287 hm hm2 (fun W9 h => kk W9 m h hm hm2) 9 0 (by decide) _ h

theorem bit_v {x y : Int32} {p : Nat} (h : bt x p = false ↔ y = 0) (hp : p < 32) : (x >>> (nI p &&& 31)) &&& 1 = if y = 0 then 0 else 1 := by
  by_cases e : y = 0
  · rw [if_pos e]; exact (bit_0 x hp).mpr (h.mpr e)
  · rw [if_neg e]
    refine (bit_1 x hp).mpr ?_
    cases z : bt x p with
    | true => rfl
    | false => exact absurd (h.mp z) e

set_option maxRecDepth 100000 in
set_option maxHeartbeats 1000000 in
theorem law_108 {n c tn : Nat} {g : kW} (kk : ∀ W : kW, gL n c W g → LJ room_1 1004 10106 true lawQ shL RL code 15 (some .boolean) 228 [(0, .ref 1000), (1, .ref 0), (2, .ref 39), (4, .int (nI n)), (5, .ref 40), (6, .ref 41), (7, .ref 42), (8, .int (nI tn))] [] W) : ∀ q p, p + q = n → ∀ W : kW, gL n c W g → LJ room_1 1004 10106 true lawQ shL RL code 15 (some .boolean) 108 [(0, .ref 1000), (1, .ref 0), (2, .ref 39), (4, .int (nI n)), (5, .ref 40), (6, .ref 41), (7, .ref 42), (8, .int (nI tn)), (9, .int (nI p))] [] W := by
  intro q
  induction q with
  | zero =>
    intro p hp W h
    have hl := h.le
    refine l_iload dL_law_108 rfl ?_
    refine l_iload dL_law_110 rfl ?_
    refine l_icmp_ge (tgt := 228) dL_law_112 (by decide) (fun h112 => ?_) (fun h112 => ?_)
    · refine l_sub [0, 1, 2, 3, 4, 5, 6, 7] rfl ?_
      exact kk W h
    · exact absurd (nI_le (by omega) (by omega)) h112
  | succ q ih =>
    intro p hp W h
    have hl := h.le
    have hp9 : p < n := by omega
    obtain ⟨qq, hq⟩ := h.1
    obtain ⟨hh, hh1, hh9, ehh⟩ := h.2.1.1.2.2.1 p hp9
    obtain ⟨kd, hkd2, ekd⟩ := h.2.1.1.2.2.2.2.2 p hp9
    have et : mTouch g p = mTc (nI kd) (nI hh) := by rw [mTouch_c, ekd, ehh]
    refine l_iload dL_law_108 rfl ?_
    refine l_iload dL_law_110 rfl ?_
    refine l_icmp_ge (tgt := 228) dL_law_112 (by decide) (fun h112 => ?_) (fun h112 => ?_)
    · exact absurd h112 (nI_ge (by omega) (by omega))
    · refine l_aload_n dL_law_115 rfl ?_
      refine l_iload dL_law_116 rfl ?_
      refine l_iconst (v := 0) dL_law_118 (by decide) ?_
      refine l_callV2 ⟨Nat.le_of_ble_eq_true rfl, Nat.le_of_ble_eq_true rfl⟩ dL_law_119 lk_L_58 rfl rfl rfl ⟨Nat.le_of_ble_eq_true rfl, Nat.le_of_ble_eq_true rfl⟩ (Nat.le_of_ble_eq_true rfl) (Spec.up (s_X7_ofPerson hq)) (fun r w119 h119 => ?_)
      obtain ⟨rfl, ⟨n9, c9, q9, hr⟩, hk⟩ := up_Q h119
      have eR := o_p (x := 0) h hp9 (by decide)
      rw [eR] at hr ⊢
      have h := h.aux gAx.rf hr hk
      obtain ⟨qq, hq⟩ := h.1
      refine l_topi (y := g.1 4 p) rfl ?_
      refine l_aload_n dL_law_122 rfl ?_
      refine l_iconst (v := 3) dL_law_123 (by decide) ?_
      refine l_iload dL_law_124 rfl ?_
      refine l_iadd dL_law_126 ?_
      refine l_topi (y := nI (3 + p)) (nI_add 3 p) ?_
      refine l_ialdN dL_law_127 rfl ⟨by omega, by decide⟩ ?_
      refine l_topi (y := g.1 4 p) (h.2.1.2.1 p hp9).1 ?_
      refine l_icmp_ne (tgt := 220) dL_law_128 (by decide) (fun h128 => ?_) (fun h128 => ?_)
      · exact absurd rfl h128
      · refine l_aload_n dL_law_131 rfl ?_
        refine l_iload dL_law_132 rfl ?_
        refine l_iconst (v := 1) dL_law_134 (by decide) ?_
        refine l_callV2 ⟨Nat.le_of_ble_eq_true rfl, Nat.le_of_ble_eq_true rfl⟩ dL_law_135 lk_L_58 rfl rfl rfl ⟨Nat.le_of_ble_eq_true rfl, Nat.le_of_ble_eq_true rfl⟩ (Nat.le_of_ble_eq_true rfl) (Spec.up (s_X7_ofPerson hq)) (fun r w135 h135 => ?_)
        obtain ⟨rfl, ⟨n9, c9, q9, hr⟩, hk⟩ := up_Q h135
        have eR := o_p (x := 1) h hp9 (by decide)
        rw [eR] at hr ⊢
        have h := h.aux gAx.rf hr hk
        obtain ⟨qq, hq⟩ := h.1
        refine l_topi (y := g.1 5 p) rfl ?_
        refine l_aload_n dL_law_138 rfl ?_
        refine l_bipush (v := 9) dL_law_139 (by decide) ?_
        refine l_iload dL_law_141 rfl ?_
        refine l_iadd dL_law_143 ?_
        refine l_topi (y := nI (9 + p)) (nI_add 9 p) ?_
        refine l_ialdN dL_law_144 rfl ⟨by omega, by decide⟩ ?_
        refine l_topi (y := g.1 5 p) (h.2.1.2.1 p hp9).2 ?_
        refine l_icmp_ne (tgt := 220) dL_law_145 (by decide) (fun h145 => ?_) (fun h145 => ?_)
        · exact absurd rfl h145
        · refine l_aload_n dL_law_148 rfl ?_
          refine l_iload dL_law_149 rfl ?_
          refine l_iconst (v := 2) dL_law_151 (by decide) ?_
          refine l_callV2 ⟨Nat.le_of_ble_eq_true rfl, Nat.le_of_ble_eq_true rfl⟩ dL_law_152 lk_L_58 rfl rfl rfl ⟨Nat.le_of_ble_eq_true rfl, Nat.le_of_ble_eq_true rfl⟩ (Nat.le_of_ble_eq_true rfl) (Spec.up (s_X7_ofPerson hq)) (fun r w152 h152 => ?_)
          obtain ⟨rfl, ⟨n9, c9, q9, hr⟩, hk⟩ := up_Q h152
          have eR := o_p (x := 2) h hp9 (by decide)
          rw [eR] at hr ⊢
          have h := h.aux gAx.rf hr hk
          obtain ⟨qq, hq⟩ := h.1
          refine l_topi (y := g.1 6 (2 * p)) rfl ?_
          refine l_aload_n dL_law_155 rfl ?_
          refine l_bipush (v := 15) dL_law_156 (by decide) ?_
          refine l_iconst (v := 2) dL_law_158 (by decide) ?_
          refine l_iload dL_law_159 rfl ?_
          refine l_imul dL_law_161 ?_
          refine l_topi (y := nI (2 * p)) (nI_two p) ?_
          refine l_iadd dL_law_162 ?_
          refine l_topi (y := nI (15 + 2 * p)) (nI_add 15 _) ?_
          refine l_ialdN dL_law_163 rfl ⟨by omega, by decide⟩ ?_
          refine l_topi (y := g.1 6 (2 * p)) (h.2.1.2.2.1 (2 * p) (by omega)) ?_
          refine l_icmp_ne (tgt := 220) dL_law_164 (by decide) (fun h164 => ?_) (fun h164 => ?_)
          · exact absurd rfl h164
          · refine l_aload_n dL_law_167 rfl ?_
            refine l_iload dL_law_168 rfl ?_
            refine l_iconst (v := 3) dL_law_170 (by decide) ?_
            refine l_callV2 ⟨Nat.le_of_ble_eq_true rfl, Nat.le_of_ble_eq_true rfl⟩ dL_law_171 lk_L_58 rfl rfl rfl ⟨Nat.le_of_ble_eq_true rfl, Nat.le_of_ble_eq_true rfl⟩ (Nat.le_of_ble_eq_true rfl) (Spec.up (s_X7_ofPerson hq)) (fun r w171 h171 => ?_)
            obtain ⟨rfl, ⟨n9, c9, q9, hr⟩, hk⟩ := up_Q h171
            have eR := o_p (x := 3) h hp9 (by decide)
            rw [eR] at hr ⊢
            have h := h.aux gAx.rf hr hk
            obtain ⟨qq, hq⟩ := h.1
            refine l_topi (y := g.1 6 (2 * p + 1)) rfl ?_
            refine l_aload_n dL_law_174 rfl ?_
            refine l_bipush (v := 16) dL_law_175 (by decide) ?_
            refine l_iconst (v := 2) dL_law_177 (by decide) ?_
            refine l_iload dL_law_178 rfl ?_
            refine l_imul dL_law_180 ?_
            refine l_topi (y := nI (2 * p)) (nI_two p) ?_
            refine l_iadd dL_law_181 ?_
            refine l_topi (y := nI (16 + 2 * p)) (nI_add 16 _) ?_
            refine l_ialdN dL_law_182 rfl ⟨by omega, by decide⟩ ?_
            refine l_topi (y := g.1 6 (2 * p + 1)) (by rw [show 16 + 2 * p = 15 + (2 * p + 1) by omega]; exact h.2.1.2.2.1 (2 * p + 1) (by omega)) ?_
            refine l_icmp_ne (tgt := 220) dL_law_183 (by decide) (fun h183 => ?_) (fun h183 => ?_)
            · exact absurd rfl h183
            · refine l_aload_n dL_law_186 rfl ?_
              refine l_iload dL_law_187 rfl ?_
              refine l_iconst (v := 4) dL_law_189 (by decide) ?_
              refine l_callV2 ⟨Nat.le_of_ble_eq_true rfl, Nat.le_of_ble_eq_true rfl⟩ dL_law_190 lk_L_58 rfl rfl rfl ⟨Nat.le_of_ble_eq_true rfl, Nat.le_of_ble_eq_true rfl⟩ (Nat.le_of_ble_eq_true rfl) (Spec.up (s_X7_ofPerson hq)) (fun r w190 h190 => ?_)
              obtain ⟨rfl, ⟨n9, c9, q9, hr⟩, hk⟩ := up_Q h190
              have eR := o_p (x := 4) h hp9 (by decide)
              rw [eR] at hr ⊢
              have h := h.aux gAx.rf hr hk
              obtain ⟨qq, hq⟩ := h.1
              refine l_topi (y := mTouch g p) rfl ?_
              refine l_aload_n dL_law_193 rfl ?_
              refine l_iload dL_law_194 rfl ?_
              refine l_callS2 ⟨Nat.le_of_ble_eq_true rfl, Nat.le_of_ble_eq_true rfl⟩ dL_law_196 lk_L_40 ⟨Nat.le_of_ble_eq_true rfl, Nat.le_of_ble_eq_true rfl⟩ (Nat.le_of_ble_eq_true rfl) (s_L_touchy (by omega) hh1 hh9 hkd2 ((h.2.1.2.1 p hp9).2.trans ehh) ((h.2.1.2.1 p hp9).1.trans ekd)) (fun r w196 h196 => ?_)
              obtain ⟨rfl, rfl⟩ := h196
              refine l_topi (y := mTouch g p) et.symm ?_
              refine l_icmp_ne (tgt := 220) dL_law_199 (by decide) (fun h199 => ?_) (fun h199 => ?_)
              · exact absurd rfl h199
              · refine l_aload_n dL_law_202 rfl ?_
                refine l_iload dL_law_203 rfl ?_
                refine l_iconst (v := 5) dL_law_205 (by decide) ?_
                refine l_callV2 ⟨Nat.le_of_ble_eq_true rfl, Nat.le_of_ble_eq_true rfl⟩ dL_law_206 lk_L_58 rfl rfl rfl ⟨Nat.le_of_ble_eq_true rfl, Nat.le_of_ble_eq_true rfl⟩ (Nat.le_of_ble_eq_true rfl) (Spec.up (s_X7_ofPerson hq)) (fun r w206 h206 => ?_)
                obtain ⟨rfl, ⟨n9, c9, q9, hr⟩, hk⟩ := up_Q h206
                have eR := o_p (x := 5) h hp9 (by decide)
                rw [eR] at hr ⊢
                have h := h.aux gAx.rf hr hk
                obtain ⟨qq, hq⟩ := h.1
                refine l_topi (y := if g.1 7 p = 0 then 0 else 1) rfl ?_
                refine l_aload_n dL_law_209 rfl ?_
                refine l_iconst (v := 2) dL_law_210 (by decide) ?_
                refine l_ialdN dL_law_211 rfl ⟨by decide, by decide⟩ ?_
                refine l_iload dL_law_212 rfl ?_
                refine l_ishr dL_law_214 ?_
                refine l_iconst (v := 1) dL_law_215 (by decide) ?_
                refine l_iand dL_law_216 ?_
                refine l_topi (y := if g.1 7 p = 0 then 0 else 1) (bit_v (h.2.1.2.2.2 p hp9) (by omega)) ?_
                refine l_icmp_eq (tgt := 222) dL_law_217 (by decide) (fun h217 => ?_) (fun h217 => ?_)
                · refine l_iinc dL_law_222 rfl (nI_inc p) (by decide) ?_
                  refine l_goto (tgt := 108) dL_law_225 (by decide) ?_
                  refine l_sub [1, 2, 3, 4, 5, 6, 7, 8, 0] rfl ?_
                  exact ih (p + 1) (by omega) _ h
                · exact absurd rfl h217

set_option maxRecDepth 100000 in
set_option maxHeartbeats 1000000 in
theorem law_76 {n c tn : Nat} {W g : kW} (htn : tn < 4) (h : gL n c W g) (h9 : g.1 1 2 = -9) (kk : ∀ (c : Nat) (W g : kW), gL n c W g → gS1 g → LJ room_1 1004 10106 true lawQ shL RL code 15 (some .boolean) 793 [(0, .ref 1000), (1, .ref 0), (2, .ref 39), (4, .int (nI n)), (5, .ref 40), (6, .ref 41), (7, .ref 42), (8, .int (nI tn))] [] W) : LJ room_1 1004 10106 true lawQ shL RL code 15 (some .boolean) 76 [(0, .ref 1000), (1, .ref 0), (2, .ref 39), (4, .int (nI n)), (5, .ref 40), (6, .ref 41), (7, .ref 42), (8, .int (nI tn))] [] W := by
  refine l_aload_n dL_law_76 rfl ?_
  refine l_aload_n dL_law_77 rfl ?_
  refine l_iconst (v := 4) dL_law_78 (by decide) ?_
  refine l_iload dL_law_79 rfl ?_
  refine l_iadd dL_law_81 ?_
  refine l_topi (y := nI (4 + tn)) (nI_add 4 tn) ?_
  refine l_callX2 ⟨Nat.le_of_ble_eq_true rfl, Nat.le_of_ble_eq_true rfl⟩ dL_law_82 lk_L_9 ⟨Nat.le_of_ble_eq_true rfl, Nat.le_of_ble_eq_true rfl⟩ (Nat.le_of_ble_eq_true rfl) (s_L_cell (j := 4 + tn) (by omega)) (fun r w82 h82 => ?_)
  obtain ⟨rfl, x82, rfl⟩ := h82
  refine l_aload_n dL_law_85 rfl ?_
  refine l_bipush (v := 8) dL_law_86 (by decide) ?_
  refine l_iload dL_law_88 rfl ?_
  refine l_iadd dL_law_90 ?_
  refine l_topi (y := nI (8 + tn)) (nI_add 8 tn) ?_
  refine l_callX2 ⟨Nat.le_of_ble_eq_true rfl, Nat.le_of_ble_eq_true rfl⟩ dL_law_91 lk_L_9 ⟨Nat.le_of_ble_eq_true rfl, Nat.le_of_ble_eq_true rfl⟩ (Nat.le_of_ble_eq_true rfl) (s_L_cell (j := 8 + tn) (by omega)) (fun r w91 h91 => ?_)
  obtain ⟨rfl, x91, rfl⟩ := h91
  refine l_aload_n dL_law_94 rfl ?_
  refine l_aload dL_law_95 rfl ?_
  refine l_callS5 ⟨Nat.le_of_ble_eq_true rfl, Nat.le_of_ble_eq_true rfl⟩ dL_law_97 lk_L_54 ⟨Nat.le_of_ble_eq_true rfl, Nat.le_of_ble_eq_true rfl⟩ (Nat.le_of_ble_eq_true rfl) (s_L_change h ⟨rfl, rfl⟩) (fun r w97 h97 => ?_)
  obtain ⟨rfl, c1, g1, h, ha1, ha2⟩ := h97
  have h9 : g1.1 1 2 = -9 := by rw [ha1]; exact h9
  refine l_if_ne (tgt := 105) dL_law_100 (by decide) (fun h100 => ?_) (fun h100 => absurd h100 (by decide))
  refine l_iconst (v := 0) dL_law_105 (by decide) ?_
  refine l_istore dL_law_106 (by decide) ?_
  refine l_sub [1, 2, 3, 4, 5, 6, 7, 8, 0] rfl ?_
  refine law_108 (fun W9 h => law_228 h (fun W9 m h hm hm2 => ?_)) n 0 (by omega) _ h
  refine l_iload dL_law_361 rfl ?_
  refine l_istore dL_law_363 (by decide) ?_
  refine l_sub [1, 2, 3, 4, 5, 6, 7, 8, 9, 0] rfl ?_
  refine law_365 htn (fun W9 h => law_558 h hm (fun W9 h => law_617 htn h h9 (fun W9 g9 h S => kk _ _ _ h S))) 60 tn (by omega) (by omega) _ h

set_option maxRecDepth 100000 in
set_option maxHeartbeats 1000000 in
theorem law_70 {n : Nat} : ∀ q tn, tn + q = 4 → ∀ (c : Nat) (W g : kW), gL n c W g → g.1 1 2 = -9 → (0 < tn → gS1 g) → LJ room_1 1004 10106 true lawQ shL RL code 15 (some .boolean) 70 [(0, .ref 1000), (1, .ref 0), (2, .ref 39), (4, .int (nI n)), (5, .ref 40), (6, .ref 41), (7, .ref 42), (8, .int (nI tn))] [] W := by
  intro q
  induction q with
  | zero =>
    intro tn ht c W g h h9 S
    refine l_iload dL_law_70 rfl ?_
    refine l_iconst (v := 4) dL_law_72 (by decide) ?_
    refine l_icmp_ge (tgt := 799) dL_law_73 (by decide) (fun h73 => ?_) (fun h73 => ?_)
    · refine l_sub [0, 1, 2, 3] rfl ?_
      exact law_799 h (S (by omega))
    · exact absurd (nI_le (a := 4) (by omega) (by omega)) h73
  | succ q ih =>
    intro tn ht c W g h h9 S
    refine l_iload dL_law_70 rfl ?_
    refine l_iconst (v := 4) dL_law_72 (by decide) ?_
    refine l_icmp_ge (tgt := 799) dL_law_73 (by decide) (fun h73 => ?_) (fun h73 => ?_)
    · exact absurd h73 (nI_ge (b := 4) (by omega) (by omega))
    · refine l_sub [0, 1, 2, 3, 4, 5, 6, 7] rfl ?_
      refine law_76 (by omega) h h9 (fun c W g h S => ?_)
      refine l_iinc dL_law_793 rfl (nI_inc tn) (by decide) ?_
      refine l_goto (tgt := 70) dL_law_796 (by decide) ?_
      refine l_sub [1, 2, 3, 4, 5, 6, 7, 0] rfl ?_
      exact ih (tn + 1) (by omega) c W g h S.2.2 (fun _ => S)
