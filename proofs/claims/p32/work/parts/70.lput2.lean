set_option maxRecDepth 100000 in
set_option maxHeartbeats 1000000 in
theorem s_put_267 {n p kd h a b v : Nat} {W U g : kW} (hT : gTx n p W g) (hp : p < n) (hkd : kcode (nI v) kd) (hv : v < 128) (h1 : 1 ≤ h) (h9 : h ≤ 9) (ha : a < n) (hap : a ≠ p) (hb : b < n) (hbp : b ≠ p) (e3 : W.1 39 (3 + p) = nI kd) (e9 : W.1 39 (9 + p) = nI h) (e15 : W.1 39 (15 + 2 * p) = nI a) (e16 : W.1 39 (16 + 2 * p) = nI b) (S220 : gSh U (kset (kset g 0 0 0) 3 (2 + 5 * p) 59)) (k220 : ∀ j, 39 ≤ j → U.1 j = W.1 j) (kk : ∀ (V g' : kW), gTx n (p + 1) V g' → LJ ({ frames := 3, cells := 0, slots := 0, locals := 69 } : Room) 0 0 false (lMQ shG (fun r w' => ∃ n g', r = some (.int (nI (2 + 5 * n))) ∧ gTx n n w' g')) shG RL cL_put 9 (some .int) 81 [(0, .ref 0), (1, .ref 1000), (2, .int 0), (3, .int 6), (4, .ref 39), (6, .int (nI (2 + 5 * (p + 1)))), (7, .int (nI (p + 1)))] [] V) : LJ ({ frames := 3, cells := 0, slots := 0, locals := 69 } : Room) 0 0 false (lMQ shG (fun r w' => ∃ n g', r = some (.int (nI (2 + 5 * n))) ∧ gTx n n w' g')) shG RL cL_put 9 (some .int) 267 [(0, .ref 0), (1, .ref 1000), (2, .int 0), (3, .int 6), (4, .ref 39), (6, .int (nI (2 + 5 * p + 1 + 1))), (7, .int (nI p))] [.int (nI v), .int (nI (2 + 5 * p + 1)), .int 0, .ref 0] U := by
  obtain ⟨n220, c220, q220, r220⟩ := S220.1
  have hn := hT.2.2.1
  refine l_callV3 ⟨Nat.zero_le _, Nat.zero_le _⟩ dL_put_267 lk_L_25 rfl rfl rfl ⟨Nat.le_of_ble_eq_true rfl, Nat.le_of_ble_eq_true rfl⟩ (Nat.le_of_ble_eq_true rfl) (Spec.up (s_X7_put r220)) (fun r w267 h267 => ?_)
  obtain ⟨rfl, ⟨n267, c267, q267, r267⟩, k267⟩ := up_Q h267
  have eR267 := R_put_0 S220 (i := 2 + 5 * p + 1) (v := v) (by omega) (by omega)
  rw [eR267] at r267
  have S267 := S220.put ⟨_, _, _, r267⟩
  refine l_topi (y := 1) (by rw [eR267]) ?_
  refine l_iconst (v := 1) dL_put_270 (by decide) ?_
  refine l_icmp_ne (tgt := 353) dL_put_271 (by decide) (fun h271 => ?_) (fun h271 => ?_)
  · exact absurd rfl h271
  · refine l_aload_n dL_put_274 rfl ?_
    refine l_iconst (v := 0) dL_put_275 (by decide) ?_
    refine l_iload dL_put_276 rfl ?_
    refine l_iinc dL_put_278 rfl (nI_inc _) (by decide) ?_
    refine l_bipush (v := 48) dL_put_281 (by decide) ?_
    refine l_aload dL_put_283 rfl ?_
    refine l_bipush (v := 9) dL_put_285 (by decide) ?_
    refine l_iload dL_put_287 rfl ?_
    refine l_iadd dL_put_289 ?_
    refine l_topi (y := nI (9 + p)) (nI_add 9 p) ?_
    refine l_ialdN dL_put_290 rfl ⟨by omega, by decide⟩ ?_
    refine l_topi (y := nI h) (by rw [k267 39 (by decide), k220 39 (by decide)]; exact e9) ?_
    refine l_iadd dL_put_291 ?_
    refine l_topi (y := nI (48 + h)) (nI_add 48 h) ?_
    refine l_callV3 ⟨Nat.zero_le _, Nat.zero_le _⟩ dL_put_292 lk_L_25 rfl rfl rfl ⟨Nat.le_of_ble_eq_true rfl, Nat.le_of_ble_eq_true rfl⟩ (Nat.le_of_ble_eq_true rfl) (Spec.up (s_X7_put r267)) (fun r w292 h292 => ?_)
    obtain ⟨rfl, ⟨n292, c292, q292, r292⟩, k292⟩ := up_Q h292
    have eR292 := R_put_0 S267 (i := 2 + 5 * p + 2) (v := 48 + h) (by omega) (by omega)
    rw [eR292] at r292
    have S292 := S267.put ⟨_, _, _, r292⟩
    refine l_topi (y := 1) (by rw [eR292]) ?_
    refine l_iconst (v := 1) dL_put_295 (by decide) ?_
    refine l_icmp_ne (tgt := 353) dL_put_296 (by decide) (fun h296 => ?_) (fun h296 => ?_)
    · exact absurd rfl h296
    · refine l_aload_n dL_put_299 rfl ?_
      refine l_iconst (v := 0) dL_put_300 (by decide) ?_
      refine l_iload dL_put_301 rfl ?_
      refine l_iinc dL_put_303 rfl (nI_inc _) (by decide) ?_
      refine l_bipush (v := 48) dL_put_306 (by decide) ?_
      refine l_aload dL_put_308 rfl ?_
      refine l_bipush (v := 15) dL_put_310 (by decide) ?_
      refine l_iconst (v := 2) dL_put_312 (by decide) ?_
      refine l_iload dL_put_313 rfl ?_
      refine l_imul dL_put_315 ?_
      refine l_topi (y := nI (2 * p)) (nI_two p) ?_
      refine l_iadd dL_put_316 ?_
      refine l_topi (y := nI (15 + 2 * p)) (nI_add 15 _) ?_
      refine l_ialdN dL_put_317 rfl ⟨by omega, by decide⟩ ?_
      refine l_topi (y := nI a) (by rw [k292 39 (by decide), k267 39 (by decide), k220 39 (by decide)]; exact e15) ?_
      refine l_iadd dL_put_318 ?_
      refine l_topi (y := nI (48 + a)) (nI_add 48 a) ?_
      refine l_callV3 ⟨Nat.zero_le _, Nat.zero_le _⟩ dL_put_319 lk_L_25 rfl rfl rfl ⟨Nat.le_of_ble_eq_true rfl, Nat.le_of_ble_eq_true rfl⟩ (Nat.le_of_ble_eq_true rfl) (Spec.up (s_X7_put r292)) (fun r w319 h319 => ?_)
      obtain ⟨rfl, ⟨n319, c319, q319, r319⟩, k319⟩ := up_Q h319
      have eR319 := R_put_0 S292 (i := 2 + 5 * p + 3) (v := 48 + a) (by omega) (by omega)
      rw [eR319] at r319
      have S319 := S292.put ⟨_, _, _, r319⟩
      refine l_topi (y := 1) (by rw [eR319]) ?_
      refine l_iconst (v := 1) dL_put_322 (by decide) ?_
      refine l_icmp_ne (tgt := 353) dL_put_323 (by decide) (fun h323 => ?_) (fun h323 => ?_)
      · exact absurd rfl h323
      · refine l_aload_n dL_put_326 rfl ?_
        refine l_iconst (v := 0) dL_put_327 (by decide) ?_
        refine l_iload dL_put_328 rfl ?_
        refine l_iinc dL_put_330 rfl (nI_inc _) (by decide) ?_
        refine l_bipush (v := 48) dL_put_333 (by decide) ?_
        refine l_aload dL_put_335 rfl ?_
        refine l_bipush (v := 16) dL_put_337 (by decide) ?_
        refine l_iconst (v := 2) dL_put_339 (by decide) ?_
        refine l_iload dL_put_340 rfl ?_
        refine l_imul dL_put_342 ?_
        refine l_topi (y := nI (2 * p)) (nI_two p) ?_
        refine l_iadd dL_put_343 ?_
        refine l_topi (y := nI (16 + 2 * p)) (nI_add 16 _) ?_
        refine l_ialdN dL_put_344 rfl ⟨by omega, by decide⟩ ?_
        refine l_topi (y := nI b) (by rw [k319 39 (by decide), k292 39 (by decide), k267 39 (by decide), k220 39 (by decide)]; exact e16) ?_
        refine l_iadd dL_put_345 ?_
        refine l_topi (y := nI (48 + b)) (nI_add 48 b) ?_
        refine l_callV3 ⟨Nat.zero_le _, Nat.zero_le _⟩ dL_put_346 lk_L_25 rfl rfl rfl ⟨Nat.le_of_ble_eq_true rfl, Nat.le_of_ble_eq_true rfl⟩ (Nat.le_of_ble_eq_true rfl) (Spec.up (s_X7_put r319)) (fun r w346 h346 => ?_)
        obtain ⟨rfl, ⟨n346, c346, q346, r346⟩, k346⟩ := up_Q h346
        have eR346 := R_put_0 S319 (i := 2 + 5 * p + 4) (v := 48 + b) (by omega) (by omega)
        rw [eR346] at r346
        have S346 := S319.put ⟨_, _, _, r346⟩
        refine l_topi (y := 1) (by rw [eR346]) ?_
        refine l_iconst (v := 1) dL_put_349 (by decide) ?_
        refine l_icmp_eq (tgt := 356) dL_put_350 (by decide) (fun h350 => ?_) (fun h350 => ?_)
        · refine l_iinc dL_put_356 rfl (nI_inc _) (by decide) ?_
          refine l_goto (tgt := 81) dL_put_359 (by decide) ?_
          refine l_sub [2, 3, 4, 5, 6, 1, 0] rfl ?_
          refine kk _ (gP5 g p (nI v) (nI (48 + h)) (nI (48 + a)) (nI (48 + b))) (hT.next hp hkd h1 h9 ha hap hb hbp e3 e9 e15 e16 (fun j hj => ?_) S346)
          rw [k346 j hj, k319 j hj, k292 j hj, k267 j hj, k220 j hj]
        · exact absurd rfl h350

set_option maxRecDepth 100000 in
set_option maxHeartbeats 1000000 in
theorem s_put_211 {n p kd h a b : Nat} {W g : kW} (hT : gTx n p W g) (hp : p < n) (hk2 : kd ≤ 2) (h1 : 1 ≤ h) (h9 : h ≤ 9) (ha : a < n) (hap : a ≠ p) (hb : b < n) (hbp : b ≠ p) (e3 : W.1 39 (3 + p) = nI kd) (e9 : W.1 39 (9 + p) = nI h) (e15 : W.1 39 (15 + 2 * p) = nI a) (e16 : W.1 39 (16 + 2 * p) = nI b) (kk : ∀ (V g' : kW), gTx n (p + 1) V g' → LJ ({ frames := 3, cells := 0, slots := 0, locals := 69 } : Room) 0 0 false (lMQ shG (fun r w' => ∃ n g', r = some (.int (nI (2 + 5 * n))) ∧ gTx n n w' g')) shG RL cL_put 9 (some .int) 81 [(0, .ref 0), (1, .ref 1000), (2, .int 0), (3, .int 6), (4, .ref 39), (6, .int (nI (2 + 5 * (p + 1)))), (7, .int (nI (p + 1)))] [] V) : LJ ({ frames := 3, cells := 0, slots := 0, locals := 69 } : Room) 0 0 false (lMQ shG (fun r w' => ∃ n g', r = some (.int (nI (2 + 5 * n))) ∧ gTx n n w' g')) shG RL cL_put 9 (some .int) 211 [(0, .ref 0), (1, .ref 1000), (2, .int 0), (3, .int 6), (4, .ref 39), (6, .int (nI (2 + 5 * p))), (7, .int (nI p))] [] W := by
  obtain ⟨n0, c0, q0, r0⟩ := hT.1.1
  have S0 := hT.1
  have hn := hT.2.2.1
  refine l_aload_n dL_put_211 rfl ?_
  refine l_iconst (v := 0) dL_put_212 (by decide) ?_
  refine l_iload dL_put_213 rfl ?_
  refine l_iinc dL_put_215 rfl (nI_inc _) (by decide) ?_
  refine l_bipush (v := 59) dL_put_218 (by decide) ?_
  refine l_callV3 ⟨Nat.zero_le _, Nat.zero_le _⟩ dL_put_220 lk_L_25 rfl rfl rfl ⟨Nat.le_of_ble_eq_true rfl, Nat.le_of_ble_eq_true rfl⟩ (Nat.le_of_ble_eq_true rfl) (Spec.up (s_X7_put r0)) (fun r w220 h220 => ?_)
  obtain ⟨rfl, ⟨n220, c220, q220, r220⟩, k220⟩ := up_Q h220
  have eR220 : R_put g 0 (nI (2 + 5 * p)) 59 = (1, kset (kset g 0 0 0) 3 (2 + 5 * p) 59) := R_put_0 S0 (i := 2 + 5 * p) (v := 59) (by omega) (by decide)
  rw [eR220] at r220
  have S220 := S0.put ⟨_, _, _, r220⟩
  refine l_topi (y := 1) (by rw [eR220]) ?_
  refine l_iconst (v := 1) dL_put_223 (by decide) ?_
  refine l_icmp_ne (tgt := 353) dL_put_224 (by decide) (fun h224 => ?_) (fun h224 => ?_)
  · exact absurd rfl h224
  · refine l_aload_n dL_put_227 rfl ?_
    refine l_iconst (v := 0) dL_put_228 (by decide) ?_
    refine l_iload dL_put_229 rfl ?_
    refine l_iinc dL_put_231 rfl (nI_inc _) (by decide) ?_
    refine l_aload dL_put_234 rfl ?_
    refine l_iconst (v := 3) dL_put_236 (by decide) ?_
    refine l_iload dL_put_237 rfl ?_
    refine l_iadd dL_put_239 ?_
    refine l_topi (y := nI (3 + p)) (nI_add 3 p) ?_
    refine l_ialdN dL_put_240 rfl ⟨by omega, by decide⟩ ?_
    refine l_topi (y := nI kd) (by rw [k220 39 (by decide)]; exact e3) ?_
    refine l_if_ne (tgt := 249) dL_put_241 (by decide) (fun h241 => ?_) (fun h241 => ?_)
    · refine l_aload dL_put_249 rfl ?_
      refine l_iconst (v := 3) dL_put_251 (by decide) ?_
      refine l_iload dL_put_252 rfl ?_
      refine l_iadd dL_put_254 ?_
      refine l_topi (y := nI (3 + p)) (nI_add 3 p) ?_
      refine l_ialdN dL_put_255 rfl ⟨by omega, by decide⟩ ?_
      refine l_topi (y := nI kd) (by rw [k220 39 (by decide)]; exact e3) ?_
      refine l_iconst (v := 1) dL_put_256 (by decide) ?_
      refine l_icmp_ne (tgt := 265) dL_put_257 (by decide) (fun h257 => ?_) (fun h257 => ?_)
      · refine l_bipush (v := 111) dL_put_265 (by decide) ?_
        refine l_sub [1, 2, 3, 4, 5, 0, 6] rfl ?_
        have e0 : ¬ kd = 0 := fun z => h241 (by rw [z]; rfl)
        have e1 : ¬ kd = 1 := fun z => h257 (by rw [z]; rfl)
        exact s_put_267 (v := 111) hT hp (Or.inr (Or.inr ⟨rfl, by omega⟩)) (by decide) h1 h9 ha hap hb hbp e3 e9 e15 e16 S220 k220 kk
      · refine l_bipush (v := 104) dL_put_260 (by decide) ?_
        refine l_goto (tgt := 267) dL_put_262 (by decide) ?_
        refine l_sub [1, 2, 3, 4, 5, 0, 6] rfl ?_
        have e : kd = 1 := nI_inj (by omega) (by decide) h257
        exact s_put_267 (v := 104) hT hp (Or.inr (Or.inl ⟨rfl, e⟩)) (by decide) h1 h9 ha hap hb hbp e3 e9 e15 e16 S220 k220 kk
    · refine l_bipush (v := 103) dL_put_244 (by decide) ?_
      refine l_goto (tgt := 267) dL_put_246 (by decide) ?_
      refine l_sub [1, 2, 3, 4, 5, 0, 6] rfl ?_
      have e : kd = 0 := nI_inj (by omega) (by decide) h241
      exact s_put_267 (v := 103) hT hp (Or.inl ⟨rfl, e⟩) (by decide) h1 h9 ha hap hb hbp e3 e9 e15 e16 S220 k220 kk

theorem gTx.rows {n p : Nat} {W V g : kW} (h : gTx n p W g) (hp : p < n) (e : ∀ j, j ≠ 3 + p → j ≠ 9 + p → j ≠ 15 + 2 * p → j ≠ 16 + 2 * p → V.1 39 j = W.1 39 j) (ew : ∀ j, j < 39 → V.1 j = W.1 j) : gTx n p V g := by
  obtain ⟨⟨⟨n0, c0, q0, t0⟩, s1, s2⟩, t2, t3, t4, t5, t6, t7, t8, t9⟩ := h
  refine ⟨⟨⟨n0, c0, q0, t0.cg ew⟩, s1, s2⟩, t2, t3, t4, t5, by rw [e 0 (by omega) (by omega) (by omega) (by omega)]; exact t6, by rw [e 1 (by omega) (by omega) (by omega) (by omega)]; exact t7, by rw [e 2 (by omega) (by omega) (by omega) (by omega)]; exact t8, fun j hj => (t9 j hj).cg (fun _ _ _ => rfl) ?_ ?_ ?_ ?_⟩
  · exact e (3 + j) (by omega) (by omega) (by omega) (by omega)
  · exact e (9 + j) (by omega) (by omega) (by omega) (by omega)
  · exact e (15 + 2 * j) (by omega) (by omega) (by omega) (by omega)
  · exact e (16 + 2 * j) (by omega) (by omega) (by omega) (by omega)

set_option maxRecDepth 100000 in
set_option maxHeartbeats 1000000 in
theorem s_put_81 {n : Nat} : ∀ q p, p + q = n → ∀ W g : kW, gTx n p W g → LJ ({ frames := 3, cells := 0, slots := 0, locals := 69 } : Room) 0 0 false (lMQ shG (fun r w' => ∃ n g', r = some (.int (nI (2 + 5 * n))) ∧ gTx n n w' g')) shG RL cL_put 9 (some .int) 81 [(0, .ref 0), (1, .ref 1000), (2, .int 0), (3, .int 6), (4, .ref 39), (6, .int (nI (2 + 5 * p))), (7, .int (nI p))] [] W := by
  intro q
  induction q with
  | zero =>
    intro p hq W g hT
    have hn := hT.2.2.1
    refine l_iload dL_put_81 rfl ?_
    refine l_aload dL_put_83 rfl ?_
    refine l_iconst (v := 0) dL_put_85 (by decide) ?_
    refine l_ialdN dL_put_86 rfl ⟨by decide, by decide⟩ ?_
    refine l_topi (y := nI n) hT.2.2.2.2.2.1 ?_
    refine l_icmp_ge (tgt := 362) dL_put_87 (by decide) (fun h87 => ?_) (fun h87 => ?_)
    · refine l_iload dL_put_362 rfl ?_
      have e : p = n := by omega
      rw [e] at hT ⊢
      exact l_iret dL_put_364 rfl ⟨n, g, rfl, hT⟩
    · exact absurd (nI_le (by omega) (by omega)) h87
  | succ q ih =>
    intro p hq W g hT
    have hn := hT.2.2.1
    have hn2 := hT.2.1
    refine l_iload dL_put_81 rfl ?_
    refine l_aload dL_put_83 rfl ?_
    refine l_iconst (v := 0) dL_put_85 (by decide) ?_
    refine l_ialdN dL_put_86 rfl ⟨by decide, by decide⟩ ?_
    refine l_topi (y := nI n) hT.2.2.2.2.2.1 ?_
    refine l_icmp_ge (tgt := 362) dL_put_87 (by decide) (fun h87 => ?_) (fun h87 => ?_)
    · exact absurd h87 (nI_ge (by omega) (by omega))
    · refine l_aload_n dL_put_90 rfl ?_
      refine l_iload_n dL_put_91 rfl ?_
      refine l_iconst (v := 1) dL_put_92 (by decide) ?_
      refine l_iadd dL_put_93 ?_
      refine l_topi (y := nI 1) (by decide) ?_
      refine l_iload dL_put_94 rfl ?_
      refine l_iconst (v := 3) dL_put_96 (by decide) ?_
      refine l_irem dL_put_97 (by decide) ?_
      refine l_topi (y := nI (p % 3)) (nI_rem (b := 3) (by omega) (by omega)) ?_
      refine l_iadd dL_put_98 ?_
      refine l_topi (y := nI (1 + p % 3)) (nI_add _ _) ?_
      refine l_callX2 ⟨Nat.zero_le _, Nat.zero_le _⟩ dL_put_99 lk_L_9 ⟨Nat.le_of_ble_eq_true rfl, Nat.le_of_ble_eq_true rfl⟩ (Nat.le_of_ble_eq_true rfl) (s_L_cell (j := 1 + p % 3) (by omega)) (fun r w99 h99 => ?_)
      obtain ⟨rfl, x99, rfl⟩ := h99
      refine l_iload dL_put_102 rfl ?_
      refine l_iconst (v := 3) dL_put_104 (by decide) ?_
      refine l_idiv dL_put_105 (by decide) ?_
      refine l_bipush (v := 9) dL_put_106 (by decide) ?_
      refine l_imul dL_put_108 ?_
      refine l_ishr dL_put_109 ?_
      refine l_istore dL_put_110 (by decide) ?_
      refine l_aload dL_put_112 rfl ?_
      refine l_iconst (v := 3) dL_put_114 (by decide) ?_
      refine l_iload dL_put_115 rfl ?_
      refine l_iadd dL_put_117 ?_
      refine l_topi (y := nI (3 + p)) (nI_add 3 p) ?_
      refine l_iload dL_put_118 rfl ?_
      refine l_iconst (v := 3) dL_put_120 (by decide) ?_
      refine l_callS2 ⟨Nat.zero_le _, Nat.zero_le _⟩ dL_put_121 lk_L_15 ⟨Nat.le_of_ble_eq_true rfl, Nat.le_of_ble_eq_true rfl⟩ (Nat.le_of_ble_eq_true rfl) (s_L_some (N := 3) (by decide) (by omega)) (fun r w121 h121 => ?_)
      obtain ⟨rfl, kd, hkd, rfl⟩ := h121
      refine l_iastN dL_put_124 rfl ⟨by omega, by decide⟩ ?_
      refine l_aload dL_put_125 rfl ?_
      refine l_bipush (v := 9) dL_put_127 (by decide) ?_
      refine l_iload dL_put_129 rfl ?_
      refine l_iadd dL_put_131 ?_
      refine l_topi (y := nI (9 + p)) (nI_add 9 p) ?_
      refine l_iconst (v := 1) dL_put_132 (by decide) ?_
      refine l_iload dL_put_133 rfl ?_
      refine l_iconst (v := 2) dL_put_135 (by decide) ?_
      refine l_ishr dL_put_136 ?_
      refine l_bipush (v := 9) dL_put_137 (by decide) ?_
      refine l_callS2 ⟨Nat.zero_le _, Nat.zero_le _⟩ dL_put_139 lk_L_15 ⟨Nat.le_of_ble_eq_true rfl, Nat.le_of_ble_eq_true rfl⟩ (Nat.le_of_ble_eq_true rfl) (s_L_some (N := 9) (by decide) (by omega)) (fun r w139 h139 => ?_)
      obtain ⟨rfl, jh, hjh, rfl⟩ := h139
      refine l_iadd dL_put_142 ?_
      refine l_topi (y := nI (1 + jh)) (nI_add 1 jh) ?_
      refine l_iastN dL_put_143 rfl ⟨by omega, by decide⟩ ?_
      refine l_aload dL_put_144 rfl ?_
      refine l_bipush (v := 15) dL_put_146 (by decide) ?_
      refine l_iconst (v := 2) dL_put_148 (by decide) ?_
      refine l_iload dL_put_149 rfl ?_
      refine l_imul dL_put_151 ?_
      refine l_topi (y := nI (2 * p)) (nI_two p) ?_
      refine l_iadd dL_put_152 ?_
      refine l_topi (y := nI (15 + 2 * p)) (nI_add 15 _) ?_
      refine l_iload dL_put_153 rfl ?_
      refine l_iconst (v := 1) dL_put_155 (by decide) ?_
      refine l_iadd dL_put_156 ?_
      refine l_topi (y := nI (p + 1)) (nI_1 p) ?_
      refine l_iload dL_put_157 rfl ?_
      refine l_iconst (v := 5) dL_put_159 (by decide) ?_
      refine l_ishr dL_put_160 ?_
      refine l_aload dL_put_161 rfl ?_
      refine l_iconst (v := 0) dL_put_163 (by decide) ?_
      refine l_ialdN dL_put_164 rfl ⟨by decide, by decide⟩ ?_
      refine l_topi (y := nI n) (show (kset (kset W 39 (3 + p) (nI kd)) 39 (9 + p) (nI (1 + jh))).1 39 0 = nI n from by rw [kset_ne _ _ (by omega), kset_ne _ _ (by omega)]; exact hT.2.2.2.2.2.1) ?_
      refine l_iconst (v := 1) dL_put_165 (by decide) ?_
      refine l_isub dL_put_166 ?_
      refine l_topi (y := nI (n - 1)) (nI_sub (b := 1) (by omega)) ?_
      refine l_callS2 ⟨Nat.zero_le _, Nat.zero_le _⟩ dL_put_167 lk_L_15 ⟨Nat.le_of_ble_eq_true rfl, Nat.le_of_ble_eq_true rfl⟩ (Nat.le_of_ble_eq_true rfl) (s_L_some (N := n - 1) (by omega) (by omega)) (fun r w167 h167 => ?_)
      obtain ⟨rfl, ja, hja, rfl⟩ := h167
      refine l_iadd dL_put_170 ?_
      refine l_topi (y := nI (p + 1 + ja)) (nI_add _ _) ?_
      refine l_aload dL_put_171 rfl ?_
      refine l_iconst (v := 0) dL_put_173 (by decide) ?_
      refine l_ialdN dL_put_174 rfl ⟨by decide, by decide⟩ ?_
      refine l_topi (y := nI n) (show (kset (kset W 39 (3 + p) (nI kd)) 39 (9 + p) (nI (1 + jh))).1 39 0 = nI n from by rw [kset_ne _ _ (by omega), kset_ne _ _ (by omega)]; exact hT.2.2.2.2.2.1) ?_
      refine l_irem dL_put_175 (nI_ne0 (by omega) (by omega)) ?_
      refine l_topi (y := nI ((p + 1 + ja) % n)) (nI_rem (by omega) (by omega)) ?_
      refine l_iastN dL_put_176 rfl ⟨by omega, by decide⟩ ?_
      refine l_aload dL_put_177 rfl ?_
      refine l_bipush (v := 16) dL_put_179 (by decide) ?_
      refine l_iconst (v := 2) dL_put_181 (by decide) ?_
      refine l_iload dL_put_182 rfl ?_
      refine l_imul dL_put_184 ?_
      refine l_topi (y := nI (2 * p)) (nI_two p) ?_
      refine l_iadd dL_put_185 ?_
      refine l_topi (y := nI (16 + 2 * p)) (nI_add 16 _) ?_
      refine l_iload dL_put_186 rfl ?_
      refine l_iconst (v := 1) dL_put_188 (by decide) ?_
      refine l_iadd dL_put_189 ?_
      refine l_topi (y := nI (p + 1)) (nI_1 p) ?_
      refine l_iload dL_put_190 rfl ?_
      refine l_bipush (v := 7) dL_put_192 (by decide) ?_
      refine l_ishr dL_put_194 ?_
      refine l_aload dL_put_195 rfl ?_
      refine l_iconst (v := 0) dL_put_197 (by decide) ?_
      refine l_ialdN dL_put_198 rfl ⟨by decide, by decide⟩ ?_
      refine l_topi (y := nI n) (show (kset (kset (kset W 39 (3 + p) (nI kd)) 39 (9 + p) (nI (1 + jh))) 39 (15 + 2 * p) (nI ((p + 1 + ja) % n))).1 39 0 = nI n from by rw [kset_ne _ _ (by omega), kset_ne _ _ (by omega), kset_ne _ _ (by omega)]; exact hT.2.2.2.2.2.1) ?_
      refine l_iconst (v := 1) dL_put_199 (by decide) ?_
      refine l_isub dL_put_200 ?_
      refine l_topi (y := nI (n - 1)) (nI_sub (b := 1) (by omega)) ?_
      refine l_callS2 ⟨Nat.zero_le _, Nat.zero_le _⟩ dL_put_201 lk_L_15 ⟨Nat.le_of_ble_eq_true rfl, Nat.le_of_ble_eq_true rfl⟩ (Nat.le_of_ble_eq_true rfl) (s_L_some (N := n - 1) (by omega) (by omega)) (fun r w201 h201 => ?_)
      obtain ⟨rfl, jb, hjb, rfl⟩ := h201
      refine l_iadd dL_put_204 ?_
      refine l_topi (y := nI (p + 1 + jb)) (nI_add _ _) ?_
      refine l_aload dL_put_205 rfl ?_
      refine l_iconst (v := 0) dL_put_207 (by decide) ?_
      refine l_ialdN dL_put_208 rfl ⟨by decide, by decide⟩ ?_
      refine l_topi (y := nI n) (show (kset (kset (kset W 39 (3 + p) (nI kd)) 39 (9 + p) (nI (1 + jh))) 39 (15 + 2 * p) (nI ((p + 1 + ja) % n))).1 39 0 = nI n from by rw [kset_ne _ _ (by omega), kset_ne _ _ (by omega), kset_ne _ _ (by omega)]; exact hT.2.2.2.2.2.1) ?_
      refine l_irem dL_put_209 (nI_ne0 (by omega) (by omega)) ?_
      refine l_topi (y := nI ((p + 1 + jb) % n)) (nI_rem (by omega) (by omega)) ?_
      refine l_iastN dL_put_210 rfl ⟨by omega, by decide⟩ ?_
      refine l_sub [1, 2, 3, 4, 5, 6, 7] rfl ?_
      have hT2 : gTx n p (kset (kset (kset (kset W 39 (3 + p) (nI kd)) 39 (9 + p) (nI (1 + jh))) 39 (15 + 2 * p) (nI ((p + 1 + ja) % n))) 39 (16 + 2 * p) (nI ((p + 1 + jb) % n))) g := hT.rows (by omega) (fun j h2 h3 h4 h5 => by rw [kset_ne _ _ (by omega), kset_ne _ _ (by omega), kset_ne _ _ (by omega), kset_ne _ _ (by omega)]) (fun j hj => by rw [kset_row _ _ _ _ (by omega), kset_row _ _ _ _ (by omega), kset_row _ _ _ _ (by omega), kset_row _ _ _ _ (by omega)])
      have f3 : (kset (kset (kset (kset W 39 (3 + p) (nI kd)) 39 (9 + p) (nI (1 + jh))) 39 (15 + 2 * p) (nI ((p + 1 + ja) % n))) 39 (16 + 2 * p) (nI ((p + 1 + jb) % n))).1 39 (3 + p) = nI kd := by rw [kset_ne _ _ (by omega), kset_ne _ _ (by omega), kset_ne _ _ (by omega), kset_eq]
      have f9 : (kset (kset (kset (kset W 39 (3 + p) (nI kd)) 39 (9 + p) (nI (1 + jh))) 39 (15 + 2 * p) (nI ((p + 1 + ja) % n))) 39 (16 + 2 * p) (nI ((p + 1 + jb) % n))).1 39 (9 + p) = nI (1 + jh) := by rw [kset_ne _ _ (by omega), kset_ne _ _ (by omega), kset_eq]
      have f15 : (kset (kset (kset (kset W 39 (3 + p) (nI kd)) 39 (9 + p) (nI (1 + jh))) 39 (15 + 2 * p) (nI ((p + 1 + ja) % n))) 39 (16 + 2 * p) (nI ((p + 1 + jb) % n))).1 39 (15 + 2 * p) = nI ((p + 1 + ja) % n) := by rw [kset_ne _ _ (by omega), kset_eq]
      exact s_put_211 (kd := kd) (h := 1 + jh) hT2 (by omega) (by omega) (by omega) (by omega) (Nat.mod_lt _ (by omega)) (Ne.symm (ch_ne (by omega) hja)) (Nat.mod_lt _ (by omega)) (Ne.symm (ch_ne (by omega) hjb)) f3 f9 f15 (kset_eq _ _ _ _) (fun V g' hV => ih (p + 1) (by omega) V g' hV)

set_option maxRecDepth 100000 in
set_option maxHeartbeats 1000000 in
theorem s_L_put {n0 c0 q0 : Nat} {W g : kW} (hq : Rel n0 c0 q0 W g) (h9 : g.1 1 2 = -9) : SpecS shG yL_put cL_put 9 (some .int) 3 69 [.ref 0, .ref 1000, .int 0, .int 6, .ref 39] W (fun r w' => ∃ n g', r = some (.int (nI (2 + 5 * n))) ∧ gTx n n w' g') := by
  refine l_enter pn_L (Nat.le_of_ble_eq_true rfl) ?_
  refine l_aload_n dL_put_0 rfl ?_
  refine l_iload_n dL_put_1 rfl ?_
  refine l_callX2 ⟨Nat.zero_le _, Nat.zero_le _⟩ dL_put_2 lk_L_9 ⟨Nat.le_of_ble_eq_true rfl, Nat.le_of_ble_eq_true rfl⟩ (Nat.le_of_ble_eq_true rfl) (s_L_cell (j := 0) (by decide)) (fun r w2 h2 => ?_)
  obtain ⟨rfl, x2, rfl⟩ := h2
  refine l_istore dL_put_5 (by decide) ?_
  refine l_aload dL_put_7 rfl ?_
  refine l_iconst (v := 0) dL_put_9 (by decide) ?_
  refine l_iconst (v := 2) dL_put_10 (by decide) ?_
  refine l_iload dL_put_11 rfl ?_
  refine l_iload_n dL_put_13 rfl ?_
  refine l_iconst (v := 1) dL_put_14 (by decide) ?_
  refine l_isub dL_put_15 ?_
  refine l_topi (y := nI 5) (by decide) ?_
  refine l_callS2 ⟨Nat.zero_le _, Nat.zero_le _⟩ dL_put_16 lk_L_15 ⟨Nat.le_of_ble_eq_true rfl, Nat.le_of_ble_eq_true rfl⟩ (Nat.le_of_ble_eq_true rfl) (s_L_some (N := 5) (by decide) (by omega)) (fun r w16 h16 => ?_)
  obtain ⟨rfl, j16, hj16, rfl⟩ := h16
  refine l_iadd dL_put_19 ?_
  refine l_topi (y := nI (2 + j16)) (nI_add 2 j16) ?_
  refine l_iastN dL_put_20 rfl ⟨by decide, by decide⟩ ?_
  refine l_aload dL_put_21 rfl ?_
  refine l_iconst (v := 1) dL_put_23 (by decide) ?_
  refine l_iconst (v := 0) dL_put_24 (by decide) ?_
  refine l_iastN dL_put_25 rfl ⟨by decide, by decide⟩ ?_
  refine l_aload dL_put_26 rfl ?_
  refine l_iconst (v := 2) dL_put_28 (by decide) ?_
  refine l_iconst (v := 0) dL_put_29 (by decide) ?_
  refine l_iastN dL_put_30 rfl ⟨by decide, by decide⟩ ?_
  have e39 : ∀ V : kW, (∀ j, 39 ≤ j → V.1 j = (kset (kset (kset W 39 0 (nI (2 + j16))) 39 1 0) 39 2 0).1 j) → V.1 39 0 = nI (2 + j16) ∧ V.1 39 1 = 0 ∧ V.1 39 2 = 0 := fun V hV => by
    rw [hV 39 (by decide)]
    exact ⟨rfl, rfl, rfl⟩
  have hq1 : Rel n0 c0 q0 (kset (kset (kset W 39 0 (nI (2 + j16))) 39 1 0) 39 2 0) g := hq.cg (fun j hj => by rw [kset_row _ _ _ _ (by omega), kset_row _ _ _ _ (by omega), kset_row _ _ _ _ (by omega)])
  refine l_aload_n dL_put_31 rfl ?_
  refine l_iconst (v := 0) dL_put_32 (by decide) ?_
  refine l_iconst (v := 0) dL_put_33 (by decide) ?_
  refine l_bipush (v := 50) dL_put_34 (by decide) ?_
  refine l_callV3 ⟨Nat.zero_le _, Nat.zero_le _⟩ dL_put_36 lk_L_19 rfl rfl rfl ⟨Nat.le_of_ble_eq_true rfl, Nat.le_of_ble_eq_true rfl⟩ (Nat.le_of_ble_eq_true rfl) (Spec.up (s_X7_sheet hq1)) (fun r w36 h36 => ?_)
  obtain ⟨rfl, hr36, k36⟩ := up_Q h36
  have S36 := gSh.of0 h9 hr36
  obtain ⟨n36, c36, q36, r36⟩ := S36.1
  refine l_topi (y := 1) (by rw [R_sheet_0]) ?_
  refine l_iconst (v := 1) dL_put_39 (by decide) ?_
  refine l_icmp_ne (tgt := 72) dL_put_40 (by decide) (fun h40 => ?_) (fun h40 => ?_)
  · exact absurd rfl h40
  · refine l_aload_n dL_put_43 rfl ?_
    refine l_iconst (v := 0) dL_put_44 (by decide) ?_
    refine l_iconst (v := 0) dL_put_45 (by decide) ?_
    refine l_bipush (v := 100) dL_put_46 (by decide) ?_
    refine l_callV3 ⟨Nat.zero_le _, Nat.zero_le _⟩ dL_put_48 lk_L_25 rfl rfl rfl ⟨Nat.le_of_ble_eq_true rfl, Nat.le_of_ble_eq_true rfl⟩ (Nat.le_of_ble_eq_true rfl) (Spec.up (s_X7_put r36)) (fun r w48 h48 => ?_)
    obtain ⟨rfl, ⟨n48, c48, q48, r48⟩, k48⟩ := up_Q h48
    have eR48 : R_put (zeroC (kset (kset (kset g 0 0 0) 1 0 0) 2 0 50) 0 50) 0 0 100 = (1, kset (kset (zeroC (kset (kset (kset g 0 0 0) 1 0 0) 2 0 50) 0 50) 0 0 0) 3 (0) 100) := R_put_0 S36 (i := 0) (v := 100) (by omega) (by decide)
    rw [eR48] at r48
    have S48 := S36.put ⟨_, _, _, r48⟩
    refine l_topi (y := 1) (by rw [eR48]) ?_
    refine l_iconst (v := 1) dL_put_51 (by decide) ?_
    refine l_icmp_ne (tgt := 72) dL_put_52 (by decide) (fun h52 => ?_) (fun h52 => ?_)
    · exact absurd rfl h52
    · refine l_aload_n dL_put_55 rfl ?_
      refine l_iconst (v := 0) dL_put_56 (by decide) ?_
      refine l_iconst (v := 1) dL_put_57 (by decide) ?_
      refine l_bipush (v := 48) dL_put_58 (by decide) ?_
      refine l_aload dL_put_60 rfl ?_
      refine l_iconst (v := 0) dL_put_62 (by decide) ?_
      refine l_ialdN dL_put_63 rfl ⟨by decide, by decide⟩ ?_
      refine l_topi (y := nI (2 + j16)) (e39 w48 (fun j hj => by rw [k48 j hj, k36 j hj]; rfl)).1 ?_
      refine l_iadd dL_put_64 ?_
      refine l_topi (y := nI (48 + (2 + j16))) (nI_add 48 _) ?_
      refine l_callV3 ⟨Nat.zero_le _, Nat.zero_le _⟩ dL_put_65 lk_L_25 rfl rfl rfl ⟨Nat.le_of_ble_eq_true rfl, Nat.le_of_ble_eq_true rfl⟩ (Nat.le_of_ble_eq_true rfl) (Spec.up (s_X7_put r48)) (fun r w65 h65 => ?_)
      obtain ⟨rfl, ⟨n65, c65, q65, r65⟩, k65⟩ := up_Q h65
      have eR65 : R_put (kset (kset (zeroC (kset (kset (kset g 0 0 0) 1 0 0) 2 0 50) 0 50) 0 0 0) 3 0 100) 0 1 (nI (48 + (2 + j16))) = (1, kset (kset (kset (kset (zeroC (kset (kset (kset g 0 0 0) 1 0 0) 2 0 50) 0 50) 0 0 0) 3 0 100) 0 0 0) 3 (1) (nI (48 + (2 + j16)))) := R_put_0 S48 (i := 1) (v := 48 + (2 + j16)) (by omega) (by omega)
      rw [eR65] at r65
      have S65 := S48.put ⟨_, _, _, r65⟩
      refine l_topi (y := 1) (by rw [eR65]) ?_
      refine l_iconst (v := 1) dL_put_68 (by decide) ?_
      refine l_icmp_eq (tgt := 75) dL_put_69 (by decide) (fun h69 => ?_) (fun h69 => ?_)
      · refine l_iconst (v := 2) dL_put_75 (by decide) ?_
        refine l_istore dL_put_76 (by decide) ?_
        refine l_iconst (v := 0) dL_put_78 (by decide) ?_
        refine l_istore dL_put_79 (by decide) ?_
        refine l_sub [3, 4, 5, 6, 7, 1, 0] rfl ?_
        refine s_put_81 (n := 2 + j16) (2 + j16) 0 (by omega) w65 (kset (kset (kset (kset (zeroC (kset (kset (kset g 0 0 0) 1 0 0) 2 0 50) 0 50) 0 0 0) 3 0 100) 0 0 0) 3 1 (nI (48 + (2 + j16)))) ⟨S65, by omega, by omega, ?_, ?_, ?_, ?_, ?_, fun j hj => absurd hj (Nat.not_lt_zero _)⟩
        · rw [kset_ne _ _ (by decide), kset_ne _ _ (by decide), kset_eq]
        · exact kset_eq _ _ _ _
        · exact (e39 w65 (fun j hj => by rw [k65 j hj, k48 j hj, k36 j hj]; rfl)).1
        · exact (e39 w65 (fun j hj => by rw [k65 j hj, k48 j hj, k36 j hj]; rfl)).2.1
        · exact (e39 w65 (fun j hj => by rw [k65 j hj, k48 j hj, k36 j hj]; rfl)).2.2
      · exact absurd rfl h69
