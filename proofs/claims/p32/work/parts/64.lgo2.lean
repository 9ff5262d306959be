theorem gW4_of {W V U : kW} {td : Int32} {m a b : Nat} {X Y D hv : Int32} (hm : W.1 41 0 = nI m) (hV : V = gTold (kset W 41 7 (W.1 41 7 ||| mB a b)) td a b X Y D hv) (hU : U = kset V 41 0 (V.1 41 0 + 1) ∨ U = kset (kset V 41 0 (V.1 41 0 + 1)) 41 15 1) : gW4 W U td m a b X Y D hv := by
  have e0 : (kset W 41 7 (W.1 41 7 ||| mB a b)).1 41 0 = nI m := hm
  unfold gTold at hV
  rw [e0] at hV
  by_cases e : nI m = td
  · rw [if_pos e] at hV
    have e1 : V.1 41 0 = nI m := by rw [hV]; exact e0
    rw [e1, nI_1] at hU
    subst hV
    rcases hU with rfl | rfl
    · refine ⟨fun c hc => by funext j; simp [kset_1, hc], rfl, by simp [kset_1], by simp [kset_1], fun p hp => ?_, fun _ => by simp [kset_1], fun z => absurd e.symm z⟩
      rw [kset_ne _ _ (by omega), kset_ne _ _ (by omega), kset_ne _ _ (by omega), kset_ne _ _ (by omega), kset_ne _ _ (by omega), kset_ne _ _ (by omega), kset_ne _ _ (by omega), kset_ne _ _ (by omega)]
    · refine ⟨fun c hc => by funext j; simp [kset_1, hc], rfl, by simp [kset_1], by simp [kset_1], fun p hp => ?_, fun _ => by simp [kset_1], fun z => absurd e.symm z⟩
      rw [kset_ne _ _ (by omega), kset_ne _ _ (by omega), kset_ne _ _ (by omega), kset_ne _ _ (by omega), kset_ne _ _ (by omega), kset_ne _ _ (by omega), kset_ne _ _ (by omega), kset_ne _ _ (by omega), kset_ne _ _ (by omega)]
  · rw [if_neg e] at hV
    have e1 : V.1 41 0 = nI m := by rw [hV]; exact e0
    rw [e1, nI_1] at hU
    subst hV
    rcases hU with rfl | rfl
    · refine ⟨fun c hc => by funext j; simp [kset_1, hc], rfl, by simp [kset_1], by simp [kset_1], fun p hp => ?_, fun z => absurd z.symm e, fun _ j hj => ?_⟩
      · rw [kset_ne _ _ (by omega), kset_ne _ _ (by omega)]
      · rw [kset_ne _ _ (by omega), kset_ne _ _ (by omega)]
    · refine ⟨fun c hc => by funext j; simp [kset_1, hc], rfl, by simp [kset_1], by simp [kset_1], fun p hp => ?_, fun z => absurd z.symm e, fun _ j hj => ?_⟩
      · rw [kset_ne _ _ (by omega), kset_ne _ _ (by omega), kset_ne _ _ (by omega)]
      · rw [kset_ne _ _ (by omega), kset_ne _ _ (by omega), kset_ne _ _ (by omega)]
theorem gW4.kp {W V : kW} {td : Int32} {m a b : Nat} {X Y D hv : Int32} (h : gW4 W V td m a b X Y D hv) : gKp W V := ⟨fun j h1 _ => h.1 j h1, h.2.1⟩

set_option maxRecDepth 100000 in
set_option maxHeartbeats 1000000 in
theorem s_go_h2 {Φ : Option Value → kW → Prop} {c old d y k i j a b : Nat} {un till td deg : Int32} {U : kW} {m hu w : Nat} {W u : kW} {n m0 t : Nat} (hL : gPn n W u) (hS : SInv n m0 u) (hm0 : m0 ≤ 177) (hs : gS n td t y W u) (ha : a < n) (hb : b < n) (hab : a ≠ b) (f1 : bt (u.1 0 22) a = false) (f2 : bt (u.1 0 22) b = false) (hsum : a + b = hu + w) (hhu : hu < n) (hw : w < n) (hm : u.1 0 28 = nI m) (hm2 : m < 199) (ht2 : t + y < 199) (hV : gW4 W U td m a b (nI j) (nI i) (nI d) (nI hu)) (kk : ∀ (W' : kW) (y' : Nat), gS n td t y' W' (kset (kset (mHurtF (mM0 u m a b (nI j) (nI i) (nI d)) hu w (nI d)) 25 m (nI hu)) 0 28 (nI (m + 1))) → gKp W W' → (∀ x, x < 12 → W'.1 42 x = W.1 42 x) → BS shL RL cL_go 21 none 1 27 Φ 569 [(0, .ref 39), (1, .ref 40), (2, .int (nI c)), (3, .int un), (4, .int till), (5, .int td), (6, .ref 41), (7, .ref 42), (8, .int (nI old)), (9, .int (nI d)), (10, .int (nI y')), (11, .int (nI k))] [] W') : BS shL RL cL_go 21 none 1 27 Φ 447 [(0, .ref 39), (1, .ref 40), (2, .int (nI c)), (3, .int un), (4, .int till), (5, .int td), (6, .ref 41), (7, .ref 42), (8, .int (nI old)), (9, .int (nI d)), (10, .int (nI y)), (11, .int (nI k)), (12, .int (nI i)), (13, .int (nI j)), (14, .int deg), (15, .int (nI a)), (16, .int (nI b)), (17, .int (nI hu))] [] U := by
  have hn := hL.1.le
  have hy := hs.2.2.2.1
  have h6 := bs6_le (u.1 0 22)
  have ew : U.1 39 (9 + w) = u.1 5 w := by rw [hV.1 39 (by decide)]; exact (hL.2.1 w hw).2
  have eh : U.1 39 (9 + hu) = u.1 5 hu := by rw [hV.1 39 (by decide)]; exact (hL.2.1 hu hhu).2
  have ef : U.1 39 (15 + 2 * hu) = u.1 6 (2 * hu) := by rw [hV.1 39 (by decide)]; exact hL.2.2.1 (2 * hu) (by omega)
  refine s_go_447h hsum ⟨by omega, by omega, by omega, by omega⟩ (by omega) ⟨fr u (2 * hu), ?_, ?_⟩ (fun hf Z => ?_) (fun hf Z => ?_)
  · have := (hL.frd (k := 2 * hu) (by omega)).2; omega
  · rw [ef]; exact (hL.1.frd (by omega)).2
  · rw [ew, eh]
    rw [ef] at hf
    have g := gMeet_h (w := w) (Z := Z) hn (by omega) (by omega) hab f1 f2 hhu hs hm hm2 ht2 hV rfl
    rw [if_pos hf, if_pos hf] at g
    exact kk _ y g ((hV.kp.row (Or.inl rfl)).row (Or.inl rfl)) (fun x hx => by rw [kset_ne _ _ (by omega), kset_ne _ _ (by omega), hV.1 42 (by decide)])
  · rw [ew, eh, ef]
    rw [ef] at hf
    have g := gMeet_h (w := w) (Z := Z) hn (by omega) (by omega) hab f1 f2 hhu hs hm hm2 ht2 hV rfl
    rw [if_neg hf, if_neg hf] at g
    exact kk _ (y + 1) g (((((hV.kp.row (Or.inl rfl)).row (Or.inl rfl)).row (Or.inr rfl)).row (Or.inr rfl)).row (Or.inr rfl)) (fun x hx => by rw [kset_ne _ _ (by omega), kset_ne _ _ (by omega), kset_ne _ _ (by omega), kset_ne _ _ (by omega), kset_ne _ _ (by omega), hV.1 42 (by decide)])

set_option maxRecDepth 100000 in
set_option maxHeartbeats 1000000 in
theorem s_go_meet {Φ : Option Value → kW → Prop} {c old d y k i j a b : Nat} {un till td deg : Int32} {W u : kW} {n m0 t : Nat} (hL : gPn n W u) (hS : SInv n m0 u) (hm0 : m0 ≤ 177) (hs : gS n td t y W u) (ha : a < n) (hb : b < n) (hab : a ≠ b) (f1 : bt (u.1 0 22) a = false) (f2 : bt (u.1 0 22) b = false) (kk : ∀ (W' : kW) (y' : Nat), gS n td t y' W' (mMeet u a b (nI j) (nI i) (nI d)) → gKp W W' → (∀ x, x < 12 → W'.1 42 x = W.1 42 x) → BS shL RL cL_go 21 none 1 27 Φ 569 [(0, .ref 39), (1, .ref 40), (2, .int (nI c)), (3, .int un), (4, .int till), (5, .int td), (6, .ref 41), (7, .ref 42), (8, .int (nI old)), (9, .int (nI d)), (10, .int (nI y')), (11, .int (nI k))] [] W') : BS shL RL cL_go 21 none 1 27 Φ 272 [(0, .ref 39), (1, .ref 40), (2, .int (nI c)), (3, .int un), (4, .int till), (5, .int td), (6, .ref 41), (7, .ref 42), (8, .int (nI old)), (9, .int (nI d)), (10, .int (nI y)), (11, .int (nI k)), (12, .int (nI i)), (13, .int (nI j)), (14, .int deg), (15, .int (nI a)), (16, .int (nI b))] [] W := by
  have hn := hL.1.le
  obtain ⟨⟨m, g1, hm, g3, -⟩, k1, k2, k3, k4⟩ := id hs
  obtain ⟨hm2, ht2⟩ := hS.two hm0 ha hb hab f1 f2 hm k1 g1 k2
  obtain ⟨xa, a1, a2, ea⟩ := hL.1.2.2.1 a ha
  obtain ⟨xb, b1, b2, eb⟩ := hL.1.2.2.1 b hb
  have ea' := (hL.2.1 a ha).2.trans ea
  have eb' := (hL.2.1 b hb).2.trans eb
  rcases Nat.lt_trichotomy xa xb with h | h | h
  · refine s_go_272a ⟨by omega, by omega⟩ ⟨by omega, by omega⟩ h ea' eb' (s_go_337 (s_go_383 (fun U hU => ?_)))
    have hV := gW4_of g3 rfl hU
    rw [mMeet_a hm (by omega) (by rw [ea, eb]; exact fun z => absurd (nI_inj (by omega) (by omega) z) (by omega)) (by rw [ea, eb]; exact nI_ge h (by omega))] at kk
    exact s_go_h2 hL hS hm0 hs ha hb hab f1 f2 rfl ha hb hm (by omega) (by omega) hV kk
  · refine s_go_272n ⟨by omega, by omega⟩ ⟨by omega, by omega⟩ h ea' eb' (s_go_337 (s_go_383 (fun U hU => s_go_447n ?_)))
    have hV := gW4_of g3 rfl hU
    exact kk U y (gMeet_n hn (by omega) (by omega) hab f1 f2 hs hm (by omega) (by rw [ea, eb, h]) hV) hV.kp (fun x hx => by rw [hV.1 42 (by decide)])
  · refine s_go_272b ⟨by omega, by omega⟩ ⟨by omega, by omega⟩ h ea' eb' (s_go_337 (s_go_383 (fun U hU => ?_)))
    have hV := gW4_of g3 rfl hU
    rw [mMeet_b hm (by omega) (by rw [ea, eb]; exact fun z => absurd (nI_inj (by omega) (by omega) z) (by omega)) (by rw [ea, eb]; exact nI_le (by omega) (by omega))] at kk
    exact s_go_h2 hL hS hm0 hs ha hb hab f1 f2 (Nat.add_comm a b) hb ha hm (by omega) (by omega) hV kk

set_option maxRecDepth 100000 in
set_option maxHeartbeats 1000000 in
theorem s_go_body {Φ : Option Value → kW → Prop} {c old d y k i j a b : Nat} {un till td deg : Int32} {W u : kW} {n m0 t : Nat} (hL : gPn n W u) (hS : SInv n m0 u) (hm0 : m0 ≤ 177) (hs : gS n td t y W u) (hi : i < n) (hj : j < n) (kk : ∀ (W' : kW) (y' : Nat), gS n td t y' W' (mAnswer u i j deg (nI d)) → gKp W W' → (∀ x, x < 12 → W'.1 42 x = W.1 42 x) → BS shL RL cL_go 21 none 1 27 Φ 569 [(0, .ref 39), (1, .ref 40), (2, .int (nI c)), (3, .int un), (4, .int till), (5, .int td), (6, .ref 41), (7, .ref 42), (8, .int (nI old)), (9, .int (nI d)), (10, .int (nI y')), (11, .int (nI k))] [] W') : BS shL RL cL_go 21 none 1 27 Φ 199 [(0, .ref 39), (1, .ref 40), (2, .int (nI c)), (3, .int un), (4, .int till), (5, .int td), (6, .ref 41), (7, .ref 42), (8, .int (nI old)), (9, .int (nI d)), (10, .int (nI y)), (11, .int (nI k)), (12, .int (nI i)), (13, .int (nI j)), (14, .int deg)] [] W := by
  have hn := hL.1.le
  obtain ⟨h, h1, h9, eh⟩ := hL.1.2.2.1 j hj
  obtain ⟨kd, hk2, ek⟩ := hL.1.2.2.2.2.2 j hj
  have eh2 := (hL.2.1 j hj).2.trans eh
  have ek2 := (hL.2.1 j hj).1.trans ek
  have et : mTouch u j = mTc (nI kd) (nI h) := by rw [mTouch_c, ek, eh]
  obtain ⟨⟨m, g1, hm, g3, hb0, hr0, -⟩, -⟩ := id hs
  by_cases ht : mTouch u j ≤ deg
  · rcases e1 : mSec u j (nI i) (-9) (nI d) with _ | a
    · rw [mAnswer_n1 ht e1] at kk
      refine b_iload dL_go_199 rfl ?_
      refine b_aload_n dL_go_201 rfl ?_
      refine b_iload dL_go_202 rfl ?_
      refine b_callS2 dL_go_204 lk_L_40 ⟨Nat.le_of_ble_eq_true rfl, Nat.le_of_ble_eq_true rfl⟩ (Nat.le_of_ble_eq_true rfl) (s_L_touchy (by omega) h1 h9 hk2 eh2 ek2) (fun r w204 h204 => ?_)
      obtain ⟨rfl, rfl⟩ := h204
      refine b_icmp_ge (tgt := 213) dL_go_207 (by decide) (fun h207 => ?_) (fun h207 => ?_)
      · refine b_aload_n dL_go_213 rfl ?_
        refine b_iload dL_go_214 rfl ?_
        refine b_iload dL_go_216 rfl ?_
        refine b_aload dL_go_218 rfl ?_
        refine b_bipush (v := 7) dL_go_220 (by decide) ?_
        refine b_ialdN dL_go_222 rfl ⟨by decide, by decide⟩ ?_
        refine b_iload dL_go_223 rfl ?_
        refine b_aload dL_go_225 rfl ?_
        refine b_callS6 dL_go_227 lk_L_43 ⟨Nat.le_of_ble_eq_true rfl, Nat.le_of_ble_eq_true rfl⟩ (Nat.le_of_ble_eq_true rfl) (s_L_second hL hj) (fun r w227 h227 => ?_)
        obtain ⟨rfl, rfl⟩ := h227
        refine b_topi (y := -9) (by rw [lsec1 hL hi hj hb0 hr0, e1]; rfl) ?_
        refine b_istore dL_go_230 (by decide) ?_
        refine b_iload dL_go_232 rfl ?_
        refine b_if_ge (tgt := 240) dL_go_234 (by decide) (fun h234 => ?_) (fun h234 => ?_)
        · exact absurd h234 (by decide)
        · refine b_goto (tgt := 569) dL_go_237 (by decide) ?_
          refine b_sub [1, 2, 3, 4, 5, 6, 7, 8, 9, 10, 11, 12] rfl ?_
          exact kk W y hs gKp.rf (fun _ _ => rfl)
      · exact absurd (et ▸ ht) h207
    · have g1 := mSec_some hS.1 hj e1
      rcases e2 : mSec u i (nI j) (nI a) (nI d) with _ | b
      · rw [mAnswer_n2 ht e1 e2] at kk
        refine b_iload dL_go_199 rfl ?_
        refine b_aload_n dL_go_201 rfl ?_
        refine b_iload dL_go_202 rfl ?_
        refine b_callS2 dL_go_204 lk_L_40 ⟨Nat.le_of_ble_eq_true rfl, Nat.le_of_ble_eq_true rfl⟩ (Nat.le_of_ble_eq_true rfl) (s_L_touchy (by omega) h1 h9 hk2 eh2 ek2) (fun r w204 h204 => ?_)
        obtain ⟨rfl, rfl⟩ := h204
        refine b_icmp_ge (tgt := 213) dL_go_207 (by decide) (fun h207 => ?_) (fun h207 => ?_)
        · refine b_aload_n dL_go_213 rfl ?_
          refine b_iload dL_go_214 rfl ?_
          refine b_iload dL_go_216 rfl ?_
          refine b_aload dL_go_218 rfl ?_
          refine b_bipush (v := 7) dL_go_220 (by decide) ?_
          refine b_ialdN dL_go_222 rfl ⟨by decide, by decide⟩ ?_
          refine b_iload dL_go_223 rfl ?_
          refine b_aload dL_go_225 rfl ?_
          refine b_callS6 dL_go_227 lk_L_43 ⟨Nat.le_of_ble_eq_true rfl, Nat.le_of_ble_eq_true rfl⟩ (Nat.le_of_ble_eq_true rfl) (s_L_second hL hj) (fun r w227 h227 => ?_)
          obtain ⟨rfl, rfl⟩ := h227
          refine b_topi (y := nI a) (by rw [lsec1 hL hi hj hb0 hr0, e1]; rfl) ?_
          refine b_istore dL_go_230 (by decide) ?_
          refine b_iload dL_go_232 rfl ?_
          refine b_if_ge (tgt := 240) dL_go_234 (by decide) (fun h234 => ?_) (fun h234 => ?_)
          · refine b_aload_n dL_go_240 rfl ?_
            refine b_iload dL_go_241 rfl ?_
            refine b_iload dL_go_243 rfl ?_
            refine b_aload dL_go_245 rfl ?_
            refine b_bipush (v := 7) dL_go_247 (by decide) ?_
            refine b_ialdN dL_go_249 rfl ⟨by decide, by decide⟩ ?_
            refine b_iconst (v := 1) dL_go_250 (by decide) ?_
            refine b_iload dL_go_251 rfl ?_
            refine b_ishl dL_go_253 ?_
            refine b_ior dL_go_254 ?_
            refine b_iload dL_go_255 rfl ?_
            refine b_aload dL_go_257 rfl ?_
            refine b_callS6 dL_go_259 lk_L_43 ⟨Nat.le_of_ble_eq_true rfl, Nat.le_of_ble_eq_true rfl⟩ (Nat.le_of_ble_eq_true rfl) (s_L_second hL hi) (fun r w259 h259 => ?_)
            obtain ⟨rfl, rfl⟩ := h259
            refine b_topi (y := -9) (by rw [lsec2 hL hi hj g1.1 hb0 hr0, e2]; rfl) ?_
            refine b_istore dL_go_262 (by decide) ?_
            refine b_iload dL_go_264 rfl ?_
            refine b_if_ge (tgt := 272) dL_go_266 (by decide) (fun h266 => ?_) (fun h266 => ?_)
            · exact absurd h266 (by decide)
            · refine b_goto (tgt := 569) dL_go_269 (by decide) ?_
              refine b_sub [2, 3, 4, 5, 6, 7, 8, 9, 10, 11, 12, 13] rfl ?_
              exact kk W y hs gKp.rf (fun _ _ => rfl)
          · exact absurd (nI_pos' (by omega)) h234
        · exact absurd (et ▸ ht) h207
      · have g2 := mSec_some hS.1 hi e2
        rw [mAnswer_y ht e1 e2] at kk
        refine b_iload dL_go_199 rfl ?_
        refine b_aload_n dL_go_201 rfl ?_
        refine b_iload dL_go_202 rfl ?_
        refine b_callS2 dL_go_204 lk_L_40 ⟨Nat.le_of_ble_eq_true rfl, Nat.le_of_ble_eq_true rfl⟩ (Nat.le_of_ble_eq_true rfl) (s_L_touchy (by omega) h1 h9 hk2 eh2 ek2) (fun r w204 h204 => ?_)
        obtain ⟨rfl, rfl⟩ := h204
        refine b_icmp_ge (tgt := 213) dL_go_207 (by decide) (fun h207 => ?_) (fun h207 => ?_)
        · refine b_aload_n dL_go_213 rfl ?_
          refine b_iload dL_go_214 rfl ?_
          refine b_iload dL_go_216 rfl ?_
          refine b_aload dL_go_218 rfl ?_
          refine b_bipush (v := 7) dL_go_220 (by decide) ?_
          refine b_ialdN dL_go_222 rfl ⟨by decide, by decide⟩ ?_
          refine b_iload dL_go_223 rfl ?_
          refine b_aload dL_go_225 rfl ?_
          refine b_callS6 dL_go_227 lk_L_43 ⟨Nat.le_of_ble_eq_true rfl, Nat.le_of_ble_eq_true rfl⟩ (Nat.le_of_ble_eq_true rfl) (s_L_second hL hj) (fun r w227 h227 => ?_)
          obtain ⟨rfl, rfl⟩ := h227
          refine b_topi (y := nI a) (by rw [lsec1 hL hi hj hb0 hr0, e1]; rfl) ?_
          refine b_istore dL_go_230 (by decide) ?_
          refine b_iload dL_go_232 rfl ?_
          refine b_if_ge (tgt := 240) dL_go_234 (by decide) (fun h234 => ?_) (fun h234 => ?_)
          · refine b_aload_n dL_go_240 rfl ?_
            refine b_iload dL_go_241 rfl ?_
            refine b_iload dL_go_243 rfl ?_
            refine b_aload dL_go_245 rfl ?_
            refine b_bipush (v := 7) dL_go_247 (by decide) ?_
            refine b_ialdN dL_go_249 rfl ⟨by decide, by decide⟩ ?_
            refine b_iconst (v := 1) dL_go_250 (by decide) ?_
            refine b_iload dL_go_251 rfl ?_
            refine b_ishl dL_go_253 ?_
            refine b_ior dL_go_254 ?_
            refine b_iload dL_go_255 rfl ?_
            refine b_aload dL_go_257 rfl ?_
            refine b_callS6 dL_go_259 lk_L_43 ⟨Nat.le_of_ble_eq_true rfl, Nat.le_of_ble_eq_true rfl⟩ (Nat.le_of_ble_eq_true rfl) (s_L_second hL hi) (fun r w259 h259 => ?_)
            obtain ⟨rfl, rfl⟩ := h259
            refine b_topi (y := nI b) (by rw [lsec2 hL hi hj g1.1 hb0 hr0, e2]; rfl) ?_
            refine b_istore dL_go_262 (by decide) ?_
            refine b_iload dL_go_264 rfl ?_
            refine b_if_ge (tgt := 272) dL_go_266 (by decide) (fun h266 => ?_) (fun h266 => ?_)
            · refine b_sub [2, 3, 4, 5, 6, 7, 8, 9, 10, 11, 12, 13, 14, 15, 16, 1, 0] rfl ?_
              exact s_go_meet hL hS hm0 hs g1.1 g2.1 (fun z => g2.2.2.2.1 (by rw [z])) g1.2.2.2.2.2.2 g2.2.2.2.2.2.2 kk
            · exact absurd (nI_pos' (by omega)) h266
          · exact absurd (nI_pos' (by omega)) h234
        · exact absurd (et ▸ ht) h207
  · rw [mAnswer_no ht] at kk
    refine b_iload dL_go_199 rfl ?_
    refine b_aload_n dL_go_201 rfl ?_
    refine b_iload dL_go_202 rfl ?_
    refine b_callS2 dL_go_204 lk_L_40 ⟨Nat.le_of_ble_eq_true rfl, Nat.le_of_ble_eq_true rfl⟩ (Nat.le_of_ble_eq_true rfl) (s_L_touchy (by omega) h1 h9 hk2 eh2 ek2) (fun r w204 h204 => ?_)
    obtain ⟨rfl, rfl⟩ := h204
    refine b_icmp_ge (tgt := 213) dL_go_207 (by decide) (fun h207 => ?_) (fun h207 => ?_)
    · exact absurd (et ▸ h207) ht
    · refine b_goto (tgt := 569) dL_go_210 (by decide) ?_
      refine b_sub [0, 1, 2, 3, 4, 5, 6, 7, 8, 9, 10, 11] rfl ?_
      exact kk W y hs gKp.rf (fun _ _ => rfl)
