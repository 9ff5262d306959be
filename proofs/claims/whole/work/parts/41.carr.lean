/-! ===== arrests ===== -/
theorem mAnswer_all {w : kW} {n i j : Nat} {deg d : Int32} (hP : Pn n w) (ha : ∀ p, p < n → w.1 7 p = 1) (hj : j < n) : mAnswer w i j deg d = w := by
  by_cases h : mTouch w j ≤ deg
  · refine mAnswer_n1 h ?_
    cases hs : mSec w j (nI i) (-9) d with
    | none => rfl
    | some a =>
      have g := mSec_some hP hj hs
      have := g.2.2.2.2.1
      rw [ha a g.1] at this
      exact absurd this (by decide)
  · exact mAnswer_no h
theorem mTold_all {w : kW} {n c d : Nat} (hP : Pn n w) (hI : Ins n c w) (ha : ∀ p, p < n → w.1 7 p = 1) : ∀ k, k ≤ c → mTold w d k = kset w 0 22 0
  | 0, _ => rfl
  | k + 1, hk => by
    have ih := mTold_all (d := d) hP hI ha k (by omega)
    obtain ⟨a, b, dd, gg, h1, h2, h3, h4, h5, h6, h7, h8, h9, h10⟩ := hI.2.2 k (by omega)
    have hn := hP.le
    simp only [mTold]
    rw [ih]
    split
    · have e8 : (kset w 0 22 0).1 12 k = nI b := h8
      rw [cl_of e8 (by omega)]
      exact mAnswer_all (n := n) hP ha h2
    · rfl
theorem mAhead_all {w : kW} {n c : Nat} (hP : Pn n w) (hI : Ins n c w) (ha : ∀ p, p < n → w.1 7 p = 1) : ∀ d, d ≤ 60 → (mAhead n c w d).1 0 28 = 0 ∧ (mAhead n c w d).1 0 23 = 0
  | 0, _ => ⟨(mZero_23 w n).2, (mZero_23 w n).1⟩
  | d + 1, hd => by
    obtain ⟨i1, i2⟩ := mAhead_all hP hI ha d (by omega)
    obtain ⟨h1, h2⟩ := mAhead_inv hP hI d (by omega)
    have hP2 := hP.keep h2
    have e7 : (mAhead n c w d).1 7 = w.1 7 := h2.1 7 (by decide) (by decide)
    show (mDawn c (mAhead n c w d) d).1 0 28 = 0 ∧ (mDawn c (mAhead n c w d) d).1 0 23 = 0
    unfold mDawn
    rw [i2, mTold_all hP2 (hI.keep h2) (fun p hp => by rw [e7]; exact ha p hp) c (Nat.le_refl c)]
    exact ⟨i1, i2⟩
theorem mGo_all {w : kW} {n c d : Nat} (hP : Pn n w) (hI : Ins n c w) (ha : ∀ p, p < n → w.1 7 p = 1) (hd : d ≤ 60) : (mGo n c w d).1 0 28 = 0 := (mAhead_all hP hI ha d hd).1
theorem pw_bit : ∀ n, n ≤ 9 → (1 : Int32) <<< (nI n &&& 31) = nI (2 ^ n) := by decide +kernel
theorem full_bits : ∀ n, n ≤ 6 → ∀ p, p < n → (2 ^ n - 1).testBit p = true := by decide +kernel
theorem full_pc : ∀ n, n < 7 → ∀ s, s < 64 → (s < 2 ^ n → pc6 s < pc6 (2 ^ n - 1) ∨ s = 2 ^ n - 1) := by decide +kernel
theorem okA_full {n c D : Nat} {w : kW} (hP : Pn n w) (hI : Ins n c w) (hD : D < 60) : okA n c w D (2 ^ n - 1) := by
  have hn := hP.le
  refine mGo_all (arrF_pn hP (Or.inr rfl)) (arrF_ins hI) (fun p hp => ?_) (by omega)
  rw [arrF_at n hp, bt_nI (by omega), if_pos (full_bits n hn p hp)]
theorem bit_off : ∀ s, s < 64 → ∀ p, p < 6 → s.testBit p = true → 2 ^ p ≤ s ∧ pc6 (s - 2 ^ p) < pc6 s ∧ ∀ i, i < 6 → (s - 2 ^ p).testBit i = (s.testBit i && !decide (i = p)) := by decide +kernel
def bestC (n c : Nat) (w : kW) (D k f : Nat) : Prop := f < 2 ^ n ∧ okA n c w D f ∧ (f ≤ k ∨ f = 2 ^ n - 1) ∧ ∀ s, s < k → okA n c w D s → pc6 f < pc6 s ∨ (pc6 f = pc6 s ∧ f ≤ s)
theorem bestC.zero {n c D : Nat} {w : kW} (hP : Pn n w) (hI : Ins n c w) (hD : D < 60) : bestC n c w D 0 (2 ^ n - 1) :=
  ⟨by have := Nat.two_pow_pos n; omega, okA_full hP hI hD, Or.inr rfl, fun s hs => absurd hs (Nat.not_lt_zero _)⟩
theorem bestC.take {n c D k f : Nat} {w : kW} (h : bestC n c w D k f) (hk : k < 2 ^ n) (hp : pc6 k < pc6 f) (ho : okA n c w D k) : bestC n c w D (k + 1) k := by
  refine ⟨hk, ho, Or.inl (by omega), fun s hs hos => ?_⟩
  by_cases e : s = k
  · subst e; exact Or.inr ⟨rfl, Nat.le_refl _⟩
  · rcases h.2.2.2 s (by omega) hos with z | z
    · exact Or.inl (by omega)
    · exact Or.inl (by omega)
theorem bestC.skip {n c D k f : Nat} {w : kW} (h : bestC n c w D k f) (hn : n ≤ 6) (hk : k < 2 ^ n) (hp : ¬ pc6 k < pc6 f ∨ ¬ okA n c w D k) : bestC n c w D (k + 1) f := by
  refine ⟨h.1, h.2.1, h.2.2.1.imp (fun z => by omega) id, fun s hs hos => ?_⟩
  by_cases e : s = k
  · subst e
    rcases hp with z | z
    · rcases Nat.lt_or_ge (pc6 f) (pc6 s) with y | y
      · exact Or.inl y
      · refine Or.inr ⟨by omega, ?_⟩
        rcases h.2.2.1 with x | x
        · exact x
        · have := pw64 hn
          rcases full_pc n (by omega) s (by omega) hk with q | q
          · subst x; omega
          · omega
    · exact absurd hos z
  · exact h.2.2.2 s (by omega) hos
theorem bestC.done {n c D f : Nat} {w : kW} (hP : Pn n w) (h : bestC n c w D (2 ^ n) f) : bestA n c w D (2 ^ n) f := by
  have hn := hP.le
  have h64 := pw64 hn
  obtain ⟨h1, h2, h3, h4⟩ := h
  refine ⟨h1, fun p hp hb => ?_, h2, fun s hs _ ho => h4 s hs ho⟩
  rcases hP.2.2.2.2.1 p hp with z | z
  · exact z
  · exfalso
    obtain ⟨b1, b2, b3⟩ := bit_off f (by omega) p (by omega) hb
    have ho : okA n c w D (f - 2 ^ p) := by
      have e : arrF w (nI (f - 2 ^ p)) 1 n = arrF w (nI f) 1 n := by
        refine Prod.ext (funext fun j => ?_) (by rw [arrF_2, arrF_2])
        by_cases ej : j = 7
        · subst ej
          funext i
          by_cases hi : i < n
          · rw [arrF_at n hi, arrF_at n hi, bt_nI (by omega), bt_nI (by omega), b3 i (by omega)]
            by_cases ei : i = p
            · subst ei; rw [hb, z]; simp
            · simp [ei]
          · rw [arrF_ge n (by omega), arrF_ge n (by omega)]
        · rw [arrF_row ej, arrF_row ej]
      unfold okA at *
      rw [e]; exact h2
    have hpos := Nat.two_pow_pos p
    rcases h4 (f - 2 ^ p) (by omega) ho with y | y
    · omega
    · omega
def bcu (y k : Int32) : Int32 := (y.toUInt32 >>> (k.toUInt32 &&& Int32.toUInt32 31)).toInt32
def bc1 (i : Int32) : Int32 := i - (bcu i 1 &&& 1431655765)
def bc2 (i : Int32) : Int32 := (i &&& 858993459) + (bcu i 2 &&& 858993459)
def bc3 (i : Int32) : Int32 := (i + bcu i 4) &&& 252645135
def bc4 (i : Int32) : Int32 := i + bcu i 8
def bc5 (i : Int32) : Int32 := i + bcu i 16
theorem bitc : ∀ s, s < 64 → bc5 (bc4 (bc3 (bc2 (bc1 (nI s))))) &&& 63 = nI (pc6 s) := by decide +kernel

set_option maxRecDepth 100000 in
set_option maxHeartbeats 1000000 in
theorem s_bitCount {w : kW} {s : Nat} (hs : s < 64) : Spec shC yJ6_bitCount_0f7a4 cJ6_bitCount_0f7a4 1 (some .int) 0 0 [.int (nI s)] w (fun r w' => r = some (.int (nI (pc6 s))) ∧ w = w') := by
  refine k_enter pn_J6 (Nat.le_of_ble_eq_true rfl) ?_
  refine b_iload_n dJ6_bitCount_0f7a4_0 rfl ?_
  refine b_iload_n dJ6_bitCount_0f7a4_1 rfl ?_
  refine b_iconst (v := 1) dJ6_bitCount_0f7a4_2 (by decide) ?_
  refine b_iushr dJ6_bitCount_0f7a4_3 ?_
  refine b_ldcw dJ6_bitCount_0f7a4_4 lc_J6_265 ?_
  refine b_iand dJ6_bitCount_0f7a4_7 ?_
  refine b_isub dJ6_bitCount_0f7a4_8 ?_
  refine b_topi (y := bc1 (nI s)) rfl ?_
  refine b_istore_n dJ6_bitCount_0f7a4_9 (by decide) ?_
  refine b_iload_n dJ6_bitCount_0f7a4_10 rfl ?_
  refine b_ldcw dJ6_bitCount_0f7a4_11 lc_J6_266 ?_
  refine b_iand dJ6_bitCount_0f7a4_14 ?_
  refine b_iload_n dJ6_bitCount_0f7a4_15 rfl ?_
  refine b_iconst (v := 2) dJ6_bitCount_0f7a4_16 (by decide) ?_
  refine b_iushr dJ6_bitCount_0f7a4_17 ?_
  refine b_ldcw dJ6_bitCount_0f7a4_18 lc_J6_266 ?_
  refine b_iand dJ6_bitCount_0f7a4_21 ?_
  refine b_iadd dJ6_bitCount_0f7a4_22 ?_
  refine b_topi (y := bc2 (bc1 (nI s))) rfl ?_
  refine b_istore_n dJ6_bitCount_0f7a4_23 (by decide) ?_
  refine b_iload_n dJ6_bitCount_0f7a4_24 rfl ?_
  refine b_iload_n dJ6_bitCount_0f7a4_25 rfl ?_
  refine b_iconst (v := 4) dJ6_bitCount_0f7a4_26 (by decide) ?_
  refine b_iushr dJ6_bitCount_0f7a4_27 ?_
  refine b_iadd dJ6_bitCount_0f7a4_28 ?_
  refine b_ldcw dJ6_bitCount_0f7a4_29 lc_J6_267 ?_
  refine b_iand dJ6_bitCount_0f7a4_32 ?_
  refine b_topi (y := bc3 (bc2 (bc1 (nI s)))) rfl ?_
  refine b_istore_n dJ6_bitCount_0f7a4_33 (by decide) ?_
  refine b_iload_n dJ6_bitCount_0f7a4_34 rfl ?_
  refine b_iload_n dJ6_bitCount_0f7a4_35 rfl ?_
  refine b_bipush (v := 8) dJ6_bitCount_0f7a4_36 (by decide) ?_
  refine b_iushr dJ6_bitCount_0f7a4_38 ?_
  refine b_iadd dJ6_bitCount_0f7a4_39 ?_
  refine b_topi (y := bc4 (bc3 (bc2 (bc1 (nI s))))) rfl ?_
  refine b_istore_n dJ6_bitCount_0f7a4_40 (by decide) ?_
  refine b_iload_n dJ6_bitCount_0f7a4_41 rfl ?_
  refine b_iload_n dJ6_bitCount_0f7a4_42 rfl ?_
  refine b_bipush (v := 16) dJ6_bitCount_0f7a4_43 (by decide) ?_
  refine b_iushr dJ6_bitCount_0f7a4_45 ?_
  refine b_iadd dJ6_bitCount_0f7a4_46 ?_
  refine b_topi (y := bc5 (bc4 (bc3 (bc2 (bc1 (nI s)))))) rfl ?_
  refine b_istore_n dJ6_bitCount_0f7a4_47 (by decide) ?_
  refine b_iload_n dJ6_bitCount_0f7a4_48 rfl ?_
  refine b_bipush (v := 63) dJ6_bitCount_0f7a4_49 (by decide) ?_
  refine b_iand dJ6_bitCount_0f7a4_51 ?_
  refine b_topi (y := nI (pc6 s)) (bitc s hs) ?_
  refine b_iret dJ6_bitCount_0f7a4_52 rfl ⟨?_, ?_⟩
  · rfl
  · rfl

theorem carr_set {n c q k : Nat} {w g : kW} (h : Rel n c q w g) : ∀ p, p < n → (bt (w.1 1 1 ||| nI k) p = false ↔ (arrF g (nI k) 1 n).1 7 p = 0) := fun p hp => by
  rw [b_or, arrF_at n hp]
  cases hb : bt (nI k) p
  · rw [Bool.or_false, if_neg (by decide)]; exact h.2.2.2.1 p hp
  · rw [Bool.or_true, if_pos rfl]; simp

theorem pc6_le : ∀ s, s < 64 → pc6 s ≤ 6 := by decide +kernel

set_option maxRecDepth 100000 in
set_option maxHeartbeats 1000000 in
theorem s_X7_arrests_lp {w g : kW} {n c qq : Nat} (hh : Rel n c qq w g) {D : Nat} (hD : D < 60) : ∀ q k, k + q = 2 ^ n → ∀ v : kW, cK2 w v → ∀ f : Nat, bestC n c g D k f → BS shC RX7 cX7_arrests 4 (some .int) 5 129 (fun r w' => PArr n c g D r ∧ cK2 w w') 35 [(0, .ref 0), (1, .int (nI D)), (2, .int (nI f)), (3, .int (nI k))] [] v := by
  intro q
  obtain ⟨hM, hRP, hRI, hRA, hRR, hRS, hRN⟩ := id hh
  obtain ⟨hP, hI, hc8, hRd, hu, hS⟩ := id hM
  have hn := hP.le
  have h64 := pw64 hn
  induction q with
  | zero =>
    intro k hk v hv f hb
    have hv2 := hh.k2 hv
    refine b_iload_n dX7_arrests_35 rfl ?_
    refine b_aload_n dX7_arrests_36 rfl ?_
    refine b_getr dX7_arrests_37 gf_X7_14 rfl rfl ?_
    refine b_geti dX7_arrests_40 gf_X7_84 rfl rfl ?_
    refine b_topi (y := nI n) hv2.2.1.2.1 ?_
    refine b_callS1 dX7_arrests_43 lk_X7_121 ⟨Nat.le_of_ble_eq_true rfl, Nat.le_of_ble_eq_true rfl⟩ (Nat.le_of_ble_eq_true rfl) (s_X7_bit) (fun r w43 h43 => ?_)
    obtain ⟨rfl, rfl⟩ := h43
    refine b_topi (y := nI (2 ^ n)) (pw_bit n (by omega)) ?_
    refine b_icmp_ge (tgt := 99) dX7_arrests_46 (by decide) (fun h46 => ?_) (fun h46 => ?_)
    · refine b_iload_n dX7_arrests_99 rfl ?_
      have e : k = 2 ^ n := by omega
      subst e
      exact b_iret dX7_arrests_100 rfl ⟨Or.inr ⟨f, rfl, hb.done hP⟩, hv⟩
    · exact absurd (nI_le (by omega) (by omega)) h46
  | succ q ih =>
    intro k hk v hv f hb
    have hv2 := hh.k2 hv
    have hkn : k < 2 ^ n := by omega
    have hf64 : f < 64 := by have := hb.1; omega
    have hk64 : k < 64 := by omega
    have pk := pc6_le k hk64
    have pf := pc6_le f hf64
    have pcl : ¬ nI (pc6 f) ≤ nI (pc6 k) → pc6 k < pc6 f := fun z => Nat.not_le.mp (fun y => z (nI_le y (by omega)))
    refine b_iload_n dX7_arrests_35 rfl ?_
    refine b_aload_n dX7_arrests_36 rfl ?_
    refine b_getr dX7_arrests_37 gf_X7_14 rfl rfl ?_
    refine b_geti dX7_arrests_40 gf_X7_84 rfl rfl ?_
    refine b_topi (y := nI n) hv2.2.1.2.1 ?_
    refine b_callS1 dX7_arrests_43 lk_X7_121 ⟨Nat.le_of_ble_eq_true rfl, Nat.le_of_ble_eq_true rfl⟩ (Nat.le_of_ble_eq_true rfl) (s_X7_bit) (fun r w43 h43 => ?_)
    obtain ⟨rfl, rfl⟩ := h43
    refine b_topi (y := nI (2 ^ n)) (pw_bit n (by omega)) ?_
    refine b_icmp_ge (tgt := 99) dX7_arrests_46 (by decide) (fun h46 => ?_) (fun h46 => ?_)
    · exact absurd h46 (nI_ge (by omega) (by omega))
    · refine b_iload_n dX7_arrests_49 rfl ?_
      refine b_callS1 dX7_arrests_50 lk_X7_153 ⟨Nat.le_of_ble_eq_true rfl, Nat.le_of_ble_eq_true rfl⟩ (Nat.le_of_ble_eq_true rfl) (s_bitCount (by omega)) (fun r w50 h50 => ?_)
      obtain ⟨rfl, rfl⟩ := h50
      refine b_iload_n dX7_arrests_53 rfl ?_
      refine b_callS1 dX7_arrests_54 lk_X7_153 ⟨Nat.le_of_ble_eq_true rfl, Nat.le_of_ble_eq_true rfl⟩ (Nat.le_of_ble_eq_true rfl) (s_bitCount (by omega)) (fun r w54 h54 => ?_)
      obtain ⟨rfl, rfl⟩ := h54
      refine b_icmp_ge (tgt := 93) dX7_arrests_57 (by decide) (fun h57 => ?_) (fun h57 => ?_)
      · refine b_iinc dX7_arrests_93 rfl (nI_inc k) (by decide) ?_
        refine b_goto (tgt := 35) dX7_arrests_96 (by decide) ?_
        refine b_sub [1, 2, 3, 0] rfl ?_
        exact ih (k + 1) (by omega) _ hv f (hb.skip hn hkn (Or.inl (fun z => absurd h57 (Int32.not_le.mpr (nI_lt z (by omega))))))
      · refine b_aload_n dX7_arrests_60 rfl ?_
        refine b_getr dX7_arrests_61 gf_X7_39 rfl rfl ?_
        refine b_iconst (v := (-1)) dX7_arrests_64 (by decide) ?_
        refine b_aload_n dX7_arrests_65 rfl ?_
        refine b_getr dX7_arrests_66 gf_X7_14 rfl rfl ?_
        refine b_geti dX7_arrests_69 gf_X7_104 rfl rfl ?_
        refine b_iload_n dX7_arrests_72 rfl ?_
        refine b_ior dX7_arrests_73 ?_
        refine b_iload_n dX7_arrests_74 rfl ?_
        refine b_callV3 dX7_arrests_75 lk_X7_131 rfl rfl rfl ⟨Nat.le_of_ble_eq_true rfl, Nat.le_of_ble_eq_true rfl⟩ (Nat.le_of_ble_eq_true rfl) (s_liveA (g := g) (g2 := (arrF g (nI k) 1 n)) (D := D + 1) hv2 (by omega) nI_predS.symm (arrF_pn hP (Or.inr rfl)) (arrF_ins hI) ((congrFun (arrF_row (by decide) n) 20).trans hu) (fun j hj => arrF_row (by omega) n) (carr_set hv2)) (fun r w75 h75 => ?_)
        obtain ⟨rfl, hRD, hk⟩ := h75
        have hl := hRD.lv
        refine b_aload_n dX7_arrests_78 rfl ?_
        refine b_getr dX7_arrests_79 gf_X7_39 rfl rfl ?_
        refine b_getr dX7_arrests_82 gf_X7_135 rfl rfl ?_
        refine b_geti dX7_arrests_85 gf_X7_139 rfl rfl ?_
        refine b_topi (y := (mGo n c (arrF g (nI k) 1 n) (D + 1)).1 0 28) hl.m ?_
        refine b_if_ne (tgt := 93) dX7_arrests_88 (by decide) (fun h88 => ?_) (fun h88 => ?_)
        · refine b_iinc dX7_arrests_93 rfl (nI_inc k) (by decide) ?_
          refine b_goto (tgt := 35) dX7_arrests_96 (by decide) ?_
          refine b_sub [1, 2, 3, 0] rfl ?_
          exact ih (k + 1) (by omega) _ (hv.tr hk) f (hb.skip hn hkn (Or.inr (show ¬ okA n c g D k from h88)))
        · refine b_iload_n dX7_arrests_91 rfl ?_
          refine b_istore_n dX7_arrests_92 (by decide) ?_
          refine b_iinc dX7_arrests_93 rfl (nI_inc k) (by decide) ?_
          refine b_goto (tgt := 35) dX7_arrests_96 (by decide) ?_
          refine b_sub [2, 3, 1, 0] rfl ?_
          exact ih (k + 1) (by omega) _ (hv.tr hk) k (hb.take hkn (pcl h57) h88)

set_option maxRecDepth 100000 in
set_option maxHeartbeats 1000000 in
theorem s_X7_arrests {w g : kW} {n c qq : Nat} (hh : Rel n c qq w g) {d : Int32} : Spec shC yX7_arrests cX7_arrests 4 (some .int) 5 129 [.ref 0, .int d] w (fun r w' => PA_arr n c g d r ∧ cK2 w w') := by
  obtain ⟨hM, hRP, hRI, hRA, hRR, hRS, hRN⟩ := id hh
  obtain ⟨hP, hI, hc8, hRd, hu, hS⟩ := id hM
  have hn := hP.le
  have h64 := pw64 hn
  refine k_enter pn_X7 (Nat.le_of_ble_eq_true rfl) ?_
  refine b_iload_n dX7_arrests_0 rfl ?_
  refine b_callS1 dX7_arrests_1 lk_X7_124 ⟨Nat.le_of_ble_eq_true rfl, Nat.le_of_ble_eq_true rfl⟩ (Nat.le_of_ble_eq_true rfl) (s_X7_isDawn) (fun r w1 h1 => ?_)
  obtain ⟨rfl, h1⟩ := h1
  rcases h1 with ⟨rfl, h1⟩ | ⟨rfl, h1⟩
  · refine b_if_ne (tgt := 10) dX7_arrests_4 (by decide) (fun h4 => ?_) (fun h4 => absurd h4 (by decide))
    obtain ⟨D, hD, rfl⟩ := dawn_of h1
    refine b_aload_n dX7_arrests_10 rfl ?_
    refine b_callV0 dX7_arrests_11 lk_X7_127 rfl rfl rfl ⟨Nat.le_of_ble_eq_true rfl, Nat.le_of_ble_eq_true rfl⟩ (Nat.le_of_ble_eq_true rfl) (s_empty hh) (fun r w11 h11 => ?_)
    obtain ⟨rfl, h11⟩ := h11
    rcases h11 with ⟨rfl, h11⟩ | ⟨rfl, h11⟩
    · refine b_if_eq (tgt := 20) dX7_arrests_14 (by decide) (fun h14 => absurd h14 (by decide)) (fun h14 => ?_)
      refine b_bipush (v := (-3)) dX7_arrests_17 (by decide) ?_
      exact b_iret dX7_arrests_19 rfl ⟨by unfold PA_arr; rw [if_pos (dawn_in hD), if_pos h11], fun _ _ => rfl⟩
    · refine b_if_eq (tgt := 20) dX7_arrests_14 (by decide) (fun h14 => ?_) (fun h14 => absurd h14 (by decide))
      refine b_aload_n dX7_arrests_20 rfl ?_
      refine b_getr dX7_arrests_21 gf_X7_14 rfl rfl ?_
      refine b_geti dX7_arrests_24 gf_X7_84 rfl rfl ?_
      refine b_topi (y := nI n) hRP.2.1 ?_
      refine b_callS1 dX7_arrests_27 lk_X7_121 ⟨Nat.le_of_ble_eq_true rfl, Nat.le_of_ble_eq_true rfl⟩ (Nat.le_of_ble_eq_true rfl) (s_X7_bit) (fun r w27 h27 => ?_)
      obtain ⟨rfl, rfl⟩ := h27
      refine b_topi (y := nI (2 ^ n)) (pw_bit n (by omega)) ?_
      refine b_iconst (v := 1) dX7_arrests_30 (by decide) ?_
      refine b_isub dX7_arrests_31 ?_
      refine b_topi (y := nI (2 ^ n - 1)) (nI_sub (b := 1) (Nat.two_pow_pos n)) ?_
      refine b_istore_n dX7_arrests_32 (by decide) ?_
      refine b_iconst (v := 0) dX7_arrests_33 (by decide) ?_
      refine b_istore_n dX7_arrests_34 (by decide) ?_
      refine b_sub [2, 3, 1, 0] rfl ?_
      refine (s_X7_arrests_lp hh hD (2 ^ n) 0 (by omega) w (fun _ _ => rfl) (2 ^ n - 1) (bestC.zero hP hI hD)).mono (fun r w1 h => ⟨?_, h.2⟩)
      unfold PA_arr
      rw [if_pos (dawn_in hD), if_neg h11, dn_nI (by omega)]
      exact h.1
  · refine b_if_ne (tgt := 10) dX7_arrests_4 (by decide) (fun h4 => absurd h4 (by decide)) (fun h4 => ?_)
    refine b_bipush (v := (-2)) dX7_arrests_7 (by decide) ?_
    exact b_iret dX7_arrests_9 rfl ⟨by unfold PA_arr; rw [if_neg h1], fun _ _ => rfl⟩
