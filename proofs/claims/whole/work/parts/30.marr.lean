/-! ===== arrests ===== -/
def pc6 (s : Nat) : Nat := s % 2 + s / 2 % 2 + s / 4 % 2 + s / 8 % 2 + s / 16 % 2 + s / 32 % 2
theorem pc6_step : ∀ l, l < 64 → nI l &&& 1 = nI (l % 2) ∧ nI l >>> (1 &&& 31) = nI (l / 2) ∧ pc6 l = l % 2 + pc6 (l / 2) ∧ (nI l ≤ 0 ↔ l = 0) := by decide +kernel

set_option maxRecDepth 100000 in
set_option maxHeartbeats 1000000 in
theorem s_X8_size_lp {w : kW} {s : Nat} : ∀ N a l, l < N → l < 64 → a + pc6 l = pc6 s → BS shM RX8 cX8_size 3 (some .int) 0 0 (fun r w' => r = some (.int (nI (pc6 s))) ∧ w = w') 4 [(0, .int (nI s)), (1, .int (nI a)), (2, .int (nI l))] [] w := by
  intro N
  induction N with
  | zero => intro a l h; exact absurd h (Nat.not_lt_zero _)
  | succ N ih =>
    intro a l hlN hl hs
    obtain ⟨h1, h2, h3, h4⟩ := pc6_step l hl
    refine b_iload_n dX8_size_4 rfl ?_
    refine b_if_le (tgt := 21) dX8_size_5 (by decide) (fun h5 => ?_) (fun h5 => ?_)
    · refine b_iload_n dX8_size_21 rfl ?_
      have e := h4.mp h5
      subst e
      exact b_iret dX8_size_22 rfl ⟨by rw [← hs]; rfl, rfl⟩
    · refine b_iload_n dX8_size_8 rfl ?_
      refine b_iload_n dX8_size_9 rfl ?_
      refine b_iconst (v := 1) dX8_size_10 (by decide) ?_
      refine b_iand dX8_size_11 ?_
      refine b_topi (y := nI (l % 2)) h1 ?_
      refine b_iadd dX8_size_12 ?_
      refine b_topi (y := nI (a + l % 2)) (nI_add _ _) ?_
      refine b_istore_n dX8_size_13 (by decide) ?_
      refine b_iload_n dX8_size_14 rfl ?_
      refine b_iconst (v := 1) dX8_size_15 (by decide) ?_
      refine b_ishr dX8_size_16 ?_
      refine b_topi (y := nI (l / 2)) h2 ?_
      refine b_istore_n dX8_size_17 (by decide) ?_
      refine b_goto (tgt := 4) dX8_size_18 (by decide) ?_
      refine b_sub [2, 1, 0] rfl ?_
      exact ih (a + l % 2) (l / 2) (by have := mt h4.mpr h5; omega) (by omega) (by omega)

set_option maxRecDepth 100000 in
set_option maxHeartbeats 1000000 in
theorem s_X8_size {w : kW} {s : Nat} (hs : s < 64) : Spec shM yX8_size cX8_size 3 (some .int) 0 0 [.int (nI s)] w (fun r w' => r = some (.int (nI (pc6 s))) ∧ w = w') := by
  refine k_enter pn_X8 (Nat.le_of_ble_eq_true rfl) ?_
  refine b_iconst (v := 0) dX8_size_0 (by decide) ?_
  refine b_istore_n dX8_size_1 (by decide) ?_
  refine b_iload_n dX8_size_2 rfl ?_
  refine b_istore_n dX8_size_3 (by decide) ?_
  refine b_sub [2, 1, 0] rfl ?_
  exact s_X8_size_lp 64 0 s hs hs (by omega)

def arrF (v : kW) (s is : Int32) : Nat → kW
  | 0 => v
  | k + 1 => kset (arrF v s is k) 7 k (if bt s k = true then is else (arrF v s is k).1 7 k)
theorem arrF_row {v : kW} {s is : Int32} {j : Nat} (h : j ≠ 7) : ∀ k, (arrF v s is k).1 j = v.1 j
  | 0 => rfl
  | k + 1 => by rw [arrF, kset_row _ _ _ _ h, arrF_row h k]
theorem arrF_ge {v : kW} {s is : Int32} {p : Nat} : ∀ k, k ≤ p → (arrF v s is k).1 7 p = v.1 7 p
  | 0, _ => rfl
  | k + 1, h => by rw [arrF, kset_ne _ _ (Or.inr (by omega)), arrF_ge k (by omega)]
theorem arrF_at {v : kW} {s is : Int32} {p : Nat} : ∀ k, p < k → (arrF v s is k).1 7 p = if bt s p = true then is else v.1 7 p
  | 0, h => by omega
  | k + 1, h => by
    rw [arrF, kset_1, if_pos rfl]
    by_cases e : p = k
    · subst e; rw [if_pos rfl, arrF_ge p (Nat.le_refl _)]
    · rw [if_neg e]; exact arrF_at k (by omega)
theorem arrF_2 {v : kW} {s is : Int32} : ∀ k, (arrF v s is k).2 = v.2
  | 0 => rfl
  | k + 1 => by rw [arrF, kset_2, arrF_2 k]

set_option maxRecDepth 100000 in
set_option maxHeartbeats 1000000 in
theorem s_X8_arrestAll_lp {v : kW} {n : Nat} {s is : Int32} (hP : Pn n v) (his : is = 0 ∨ is = 1) : ∀ q k, k + q = n → BS shM RX8 cX8_arrestAll 4 none 0 0 (fun r w' => r = none ∧ arrF v s is n = w') 2 [(0, .ref 0), (1, .int s), (2, .int is), (3, .int (nI k))] [] (arrF v s is k) := by
  intro q
  have hn := hP.le
  induction q with
  | zero =>
    intro k hk
    refine b_iload_n dX8_arrestAll_2 rfl ?_
    refine b_aload_n dX8_arrestAll_3 rfl ?_
    refine b_geti dX8_arrestAll_4 gf_X8_105 rfl rfl ?_
    refine b_topi (y := nI n) ((congrFun (arrF_row (by decide) k) 5).trans hP.1) ?_
    refine b_icmp_ge (tgt := 41) dX8_arrestAll_7 (by decide) (fun h7 => ?_) (fun h7 => ?_)
    · refine b_vret dX8_arrestAll_41 rfl ⟨rfl, ?_⟩
      (have e : k = n := by omega); subst e; rfl
    · exact absurd (nI_le (by omega) (by omega)) h7
  | succ q ih =>
    intro k hk
    have hv7 : (arrF v s is k).1 7 k = 0 ∨ (arrF v s is k).1 7 k = 1 := by rw [arrF_ge k (Nat.le_refl _)]; exact hP.2.2.2.2.1 k (by omega)
    refine b_iload_n dX8_arrestAll_2 rfl ?_
    refine b_aload_n dX8_arrestAll_3 rfl ?_
    refine b_geti dX8_arrestAll_4 gf_X8_105 rfl rfl ?_
    refine b_topi (y := nI n) ((congrFun (arrF_row (by decide) k) 5).trans hP.1) ?_
    refine b_icmp_ge (tgt := 41) dX8_arrestAll_7 (by decide) (fun h7 => ?_) (fun h7 => ?_)
    · exact absurd h7 (nI_ge (by omega) (by omega))
    · refine b_aload_n dX8_arrestAll_10 rfl ?_
      refine b_getr dX8_arrestAll_11 gf_X8_28 rfl rfl ?_
      refine b_iload_n dX8_arrestAll_14 rfl ?_
      refine b_iload_n dX8_arrestAll_15 rfl ?_
      refine b_iload_n dX8_arrestAll_16 rfl ?_
      refine b_ishr dX8_arrestAll_17 ?_
      refine b_iconst (v := 1) dX8_arrestAll_18 (by decide) ?_
      refine b_iand dX8_arrestAll_19 ?_
      refine b_iconst (v := 1) dX8_arrestAll_20 (by decide) ?_
      refine b_icmp_ne (tgt := 28) dX8_arrestAll_21 (by decide) (fun h21 => ?_) (fun h21 => ?_)
      · refine b_aload_n dX8_arrestAll_28 rfl ?_
        refine b_getr dX8_arrestAll_29 gf_X8_28 rfl rfl ?_
        refine b_iload_n dX8_arrestAll_32 rfl ?_
        refine b_zaldN dX8_arrestAll_33 rfl ⟨by omega, by decide⟩ ?_
        refine b_zastN dX8_arrestAll_34 rfl ⟨by omega, by decide⟩ (by first | exact hv7 | exact his) ?_
        refine b_iinc dX8_arrestAll_35 rfl (nI_inc k) (by decide) ?_
        refine b_goto (tgt := 2) dX8_arrestAll_38 (by decide) ?_
        refine b_sub [1, 2, 3, 0] rfl ?_
        refine b_wd (w' := arrF v s is (k + 1)) (by rw [arrF, if_neg (show ¬ bt s k = true from fun z => h21 ((bit_1 _ (by omega)).mpr z))]; rfl) ?_
        exact ih (k + 1) (by omega)
      · refine b_iload_n dX8_arrestAll_24 rfl ?_
        refine b_goto (tgt := 34) dX8_arrestAll_25 (by decide) ?_
        refine b_zastN dX8_arrestAll_34 rfl ⟨by omega, by decide⟩ (by first | exact hv7 | exact his) ?_
        refine b_iinc dX8_arrestAll_35 rfl (nI_inc k) (by decide) ?_
        refine b_goto (tgt := 2) dX8_arrestAll_38 (by decide) ?_
        refine b_sub [1, 2, 3, 0] rfl ?_
        refine b_wd (w' := arrF v s is (k + 1)) (by rw [arrF, if_pos (show bt s k = true from (bit_1 _ (by omega)).mp h21)]; rfl) ?_
        exact ih (k + 1) (by omega)

set_option maxRecDepth 100000 in
set_option maxHeartbeats 1000000 in
theorem s_X8_arrestAll {v : kW} {n : Nat} {s is : Int32} (hP : Pn n v) (his : is = 0 ∨ is = 1) : Spec shM yX8_arrestAll cX8_arrestAll 4 none 0 0 [.ref 0, .int s, .int is] v (fun r w' => r = none ∧ arrF v s is n = w') := by
  refine k_enter pn_X8 (Nat.le_of_ble_eq_true rfl) ?_
  refine b_iconst (v := 0) dX8_arrestAll_0 (by decide) ?_
  refine b_istore_n dX8_arrestAll_1 (by decide) ?_
  refine b_sub [1, 2, 3, 0] rfl ?_
  exact s_X8_arrestAll_lp hP his n 0 (by omega)

theorem arrF_pn {n m : Nat} {w : kW} {s is : Int32} (h : Pn n w) (his : is = 0 ∨ is = 1) : Pn n (arrF w s is m) := by
  have e5 := arrF_row (v := w) (s := s) (is := is) (j := 5) (by decide) m
  have e6 := arrF_row (v := w) (s := s) (is := is) (j := 6) (by decide) m
  have e4 := arrF_row (v := w) (s := s) (is := is) (j := 4) (by decide) m
  have e0 := arrF_row (v := w) (s := s) (is := is) (j := 0) (by decide) m
  obtain ⟨h1, h2, h3, h4, h5, h6⟩ := h
  unfold Pn fr at *
  rw [e4, e5, e6, e0]
  refine ⟨h1, h2, h3, h4, fun p hp => ?_, h6⟩
  by_cases hm : p < m
  · rw [arrF_at m hm]
    split
    · exact his
    · exact h5 p hp
  · rw [arrF_ge m (by omega)]; exact h5 p hp
theorem arrF_ins {n c m : Nat} {w : kW} {s is : Int32} (h : Ins n c w) : Ins n c (arrF w s is m) := by
  unfold Ins at *
  rw [arrF_row (j := 0) (by decide), arrF_row (j := 11) (by decide), arrF_row (j := 12) (by decide), arrF_row (j := 13) (by decide), arrF_row (j := 14) (by decide)]
  exact h
theorem arrF_peq {n c : Nat} {w v : kW} {s is : Int32} (h : mKp c w v) : PEq c (arrF w s is n) (arrF v s is n) := by
  have e7 : ∀ p, (arrF v s is n).1 7 p = (arrF w s is n).1 7 p := by
    intro p
    by_cases hp : p < n
    · rw [arrF_at n hp, arrF_at n hp, h.1 7 (by decide) (by decide)]
    · rw [arrF_ge n (by omega), arrF_ge n (by omega), h.1 7 (by decide) (by decide)]
  refine ⟨fun j p q => ?_, fun j k p q hk => ?_, ?_, ?_, fun k _ => ?_⟩
  · by_cases ej : j = 7
    · subst ej; exact funext e7
    · rw [arrF_row ej, arrF_row ej]; exact h.1 j (by omega) (by omega)
  · rw [arrF_row (by omega), arrF_row (by omega)]; exact h.2.1 j k p q hk
  · rw [arrF_row (by decide), arrF_row (by decide)]; exact h.2.2 5 (by decide) (by decide) (by decide)
  · rw [arrF_row (by decide), arrF_row (by decide)]; exact h.2.2 15 (by decide) (by decide) (by decide)
  · rw [arrF_row (by decide), arrF_row (by decide), h.2.2 20 (by decide) (by decide) (by decide)]
/-- set s, arrested too, nobody meets -/
def okA (n c : Nat) (w : kW) (D s : Nat) : Prop := (mGo n c (arrF w (nI s) 1 n) (D + 1)).1 0 28 = 0
def disA (n : Nat) (w : kW) (s : Nat) : Prop := ∀ p, p < n → s.testBit p = true → w.1 7 p = 0
theorem arr_back {n c : Nat} {w v u : kW} {s : Nat} (hn : n ≤ 6) (h : mKp c w v) (hd : disA n w s) (hk : mKp c (arrF v (nI s) 1 n) u) : mKp c w (arrF u (nI s) 0 n) := by
  refine ⟨fun j p q => ?_, fun j k p q hk2 => ?_, fun j p q r => ?_⟩
  · by_cases ej : j = 7
    · subst ej
      funext p
      by_cases hp : p < n
      · rw [arrF_at n hp, hk.1 7 (by decide) (by decide), arrF_at n hp, bt_nI (by omega), h.1 7 (by decide) (by decide)]
        by_cases hb : s.testBit p = true
        · rw [if_pos hb, hd p hp hb]
        · rw [if_neg hb, if_neg hb]
      · rw [arrF_ge n (by omega), hk.1 7 (by decide) (by decide), arrF_ge n (by omega), h.1 7 (by decide) (by decide)]
    · rw [arrF_row ej, hk.1 j p q, arrF_row ej]; exact h.1 j p q
  · rw [arrF_row (by omega), hk.2.1 j k p q hk2, arrF_row (by omega)]; exact h.2.1 j k p q hk2
  · rw [arrF_row (by decide), hk.2.2 j p q r, arrF_row (by decide)]; exact h.2.2 j p q r
/-- the least of the fewest, among all sets below N that are apart from who is arrested -/
def bestA (n c : Nat) (w : kW) (D N b : Nat) : Prop := b < N ∧ disA n w b ∧ okA n c w D b ∧ ∀ s, s < N → disA n w s → okA n c w D s → pc6 b < pc6 s ∨ (pc6 b = pc6 s ∧ b ≤ s)
def noneA (n c : Nat) (w : kW) (D N : Nat) : Prop := ∀ s, s < N → disA n w s → ¬ okA n c w D s
def PArr (n c : Nat) (w : kW) (D : Nat) (r : Option Value) : Prop := (r = some (.int (-9)) ∧ noneA n c w D (2 ^ n)) ∨ ∃ b, r = some (.int (nI b)) ∧ bestA n c w D (2 ^ n) b
def PA_arr (n c : Nat) (w : kW) (d : Int32) (r : Option Value) : Prop := if isDw d then (if w.1 0 5 = 0 then r = some (.int (-3)) else PArr n c w (dn d) r) else r = some (.int (-2))
def stA (n c : Nat) (w : kW) (D N : Nat) (x : Int32) : Prop := (x = -9 ∧ noneA n c w D N) ∨ ∃ b, x = nI b ∧ bestA n c w D N b
theorem stA.skip {n c D N : Nat} {w : kW} {x : Int32} (h : stA n c w D N x) (hs : disA n w N → okA n c w D N → ∃ b, x = nI b ∧ b < 64 ∧ pc6 b ≤ pc6 N) (hN : N < 64) : stA n c w D (N + 1) x := by
  rcases h with ⟨rfl, h⟩ | ⟨b, rfl, h1, h2, h3, h4⟩
  · refine Or.inl ⟨rfl, fun s hsN hd ho => ?_⟩
    by_cases e : s = N
    · subst e
      obtain ⟨b, e1, e2, -⟩ := hs hd ho
      exact nI_ne9 (by omega) e1.symm
    · exact h s (by omega) hd ho
  · refine Or.inr ⟨b, rfl, by omega, h2, h3, fun s hsN hd ho => ?_⟩
    by_cases e : s = N
    · subst e
      obtain ⟨b', e1, e2, e3⟩ := hs hd ho
      have := nI_inj (by omega) (by omega) e1
      subst this
      omega
    · exact h4 s (by omega) hd ho
theorem stA.take {n c D N : Nat} {w : kW} {x : Int32} (h : stA n c w D N x) (hd : disA n w N) (ho : okA n c w D N) (hx : x = -9 ∨ ∃ b, x = nI b ∧ b < 64 ∧ pc6 N < pc6 b) (hN : N < 64) : stA n c w D (N + 1) (nI N) := by
  refine Or.inr ⟨N, rfl, by omega, hd, ho, fun s hsN hds hos => ?_⟩
  by_cases e : s = N
  · subst e; exact Or.inr ⟨rfl, Nat.le_refl _⟩
  · rcases h with ⟨rfl, h⟩ | ⟨b, rfl, h1, h2, h3, h4⟩
    · exact absurd hos (h s (by omega) hds)
    · rcases hx with hx | ⟨b', e1, e2, e3⟩
      · exact absurd hx (nI_ne9 (by omega))
      · have := nI_inj (by omega) (by omega) e1
        subst this
        have := h4 s (by omega) hds hos
        omega
theorem dis_iff {n s : Nat} {are : Int32} {w : kW} (hn : n ≤ 6) (hs : s < 2 ^ n) (ha : ∀ p, p < 32 → (bt are p = true ↔ p < n ∧ ¬ w.1 7 p = 0)) : nI s &&& are = 0 ↔ disA n w s := by
  constructor
  · intro h p hp hb
    have h1 : bt (nI s &&& are) p = false := by rw [h, b_0]
    rw [b_and, bt_nI (by omega), hb, Bool.true_and] at h1
    by_cases e : w.1 7 p = 0
    · exact e
    · rw [(ha p (by omega)).mpr ⟨hp, e⟩] at h1
      exact absurd h1 (by decide)
  · intro h
    apply b_ext
    intro i hi
    rw [b_and, bt_nI hi, b_0]
    by_cases hb : s.testBit i = true
    · have hin : i < n := by
        rcases Nat.lt_or_ge i n with e | e
        · exact e
        · rw [Nat.testBit_lt_two_pow (Nat.lt_of_lt_of_le hs (Nat.pow_le_pow_right (by decide) e))] at hb
          exact absurd hb (by decide)
      have h0 := h i hin hb
      have : ¬ bt are i = true := fun z => ((ha i hi).mp z).2 h0
      rw [b_f this, Bool.and_false]
    · rw [b_f hb, Bool.false_and]
theorem pw64 {n : Nat} (h : n ≤ 6) : 2 ^ n ≤ 64 := Nat.pow_le_pow_right (by decide) h

theorem are_yes {n k : Nat} {are : Int32} {w : kW} (hk : k < 32) (h : ∀ p, p < 32 → (bt are p = true ↔ p < k ∧ ¬ w.1 7 p = 0)) (h1 : ¬ w.1 7 k = 0) : ∀ p, p < 32 → (bt (are ||| 1 <<< (nI k &&& 31)) p = true ↔ p < k + 1 ∧ ¬ w.1 7 p = 0) := acc_yes (P := fun p => ¬ w.1 7 p = 0) hk h h1
theorem are_no {n k : Nat} {are : Int32} {w : kW} (h : ∀ p, p < 32 → (bt are p = true ↔ p < k ∧ ¬ w.1 7 p = 0)) (h1 : w.1 7 k = 0) : ∀ p, p < 32 → (bt (are ||| 0) p = true ↔ p < k + 1 ∧ ¬ w.1 7 p = 0) := acc_no (P := fun p => ¬ w.1 7 p = 0) h (fun z => z h1)

set_option maxRecDepth 100000 in
set_option maxHeartbeats 1000000 in
theorem s_X8_arrests_lp {w : kW} {n c qq : Nat} (hM : MInv n c qq w) {D : Nat} {are : Int32} (hne : ¬ w.1 0 5 = 0) (hD : D < 60) (ha : ∀ p, p < 32 → (bt are p = true ↔ p < n ∧ ¬ w.1 7 p = 0)) : ∀ q k, k + q = 2 ^ n → ∀ v : kW, mKp c w v → ∀ x : Int32, stA n c w D k x → BS shM RX8 cX8_arrests 5 (some .int) 6 146 (fun r w' => PArr n c w D r ∧ mKp c w w') 63 [(0, .ref 0), (1, .int (nI D)), (2, .int are), (3, .int x), (4, .int (nI k))] [] v := by
  intro q
  obtain ⟨hP, hI, hc8, hR, hu, hS⟩ := id hM
  have hn := hP.le
  have h64 := pw64 hn
  induction q with
  | zero =>
    intro k hk v hv x hx
    refine b_iload dX8_arrests_63 rfl ?_
    refine b_iconst (v := 1) dX8_arrests_65 (by decide) ?_
    refine b_aload_n dX8_arrests_66 rfl ?_
    refine b_geti dX8_arrests_67 gf_X8_105 rfl rfl ?_
    refine b_topi (y := nI n) ((hv.2.2 5 (by decide) (by decide) (by decide)).trans hP.1) ?_
    refine b_ishl dX8_arrests_70 ?_
    refine b_topi (y := nI (2 ^ n)) (pw_shl n (by omega)).1 ?_
    refine b_icmp_ge (tgt := 140) dX8_arrests_71 (by decide) (fun h71 => ?_) (fun h71 => ?_)
    · refine b_iload_n dX8_arrests_140 rfl ?_
      have e : k = 2 ^ n := by omega
      subst e
      refine b_iret dX8_arrests_141 rfl ⟨?_, hv⟩
      rcases hx with ⟨rfl, h⟩ | ⟨b, rfl, h⟩
      · exact Or.inl ⟨rfl, h⟩
      · exact Or.inr ⟨b, rfl, h⟩
    · exact absurd (nI_le (by omega) (by omega)) h71
  | succ q ih =>
    intro k hk v hv x hx
    have hxb : x = -9 ∨ ∃ b, x = nI b ∧ b < 64 := by
      rcases hx with ⟨h, -⟩ | ⟨b, h, hb, -⟩
      · exact Or.inl h
      · exact Or.inr ⟨b, h, by omega⟩
    have hsz : ∀ b, x = nI b → b < 64 → nI (pc6 b) ≤ nI (pc6 k) → pc6 b ≤ pc6 k := fun b _ h1 h2 => by
      have q1 : pc6 b ≤ 6 := by unfold pc6; omega
      have q2 : pc6 k ≤ 6 := by unfold pc6; omega
      exact (nI_leI (by omega) (by omega)).mp h2
    have hsz2 : ∀ b, x = nI b → b < 64 → ¬ nI (pc6 b) ≤ nI (pc6 k) → pc6 k < pc6 b := fun b _ h1 h2 => by
      have q1 : pc6 b ≤ 6 := by unfold pc6; omega
      have q2 : pc6 k ≤ 6 := by unfold pc6; omega
      exact Nat.not_le.mp (fun z => h2 ((nI_leI (by omega) (by omega)).mpr z))
    refine b_iload dX8_arrests_63 rfl ?_
    refine b_iconst (v := 1) dX8_arrests_65 (by decide) ?_
    refine b_aload_n dX8_arrests_66 rfl ?_
    refine b_geti dX8_arrests_67 gf_X8_105 rfl rfl ?_
    refine b_topi (y := nI n) ((hv.2.2 5 (by decide) (by decide) (by decide)).trans hP.1) ?_
    refine b_ishl dX8_arrests_70 ?_
    refine b_topi (y := nI (2 ^ n)) (pw_shl n (by omega)).1 ?_
    refine b_icmp_ge (tgt := 140) dX8_arrests_71 (by decide) (fun h71 => ?_) (fun h71 => ?_)
    · exact absurd h71 (nI_ge (by omega) (by omega))
    · refine b_iload dX8_arrests_74 rfl ?_
      refine b_iload_n dX8_arrests_76 rfl ?_
      refine b_iand dX8_arrests_77 ?_
      refine b_if_ne (tgt := 134) dX8_arrests_78 (by decide) (fun h78 => ?_) (fun h78 => ?_)
      · refine b_iinc dX8_arrests_134 rfl (nI_inc k) (by decide) ?_
        refine b_goto (tgt := 63) dX8_arrests_137 (by decide) ?_
        refine b_sub [1, 2, 3, 4, 0] rfl ?_
        exact ih (k + 1) (by omega) v hv x (hx.skip (fun hd _ => absurd ((dis_iff hn (by omega) ha).mpr hd) h78) (by omega))
      · refine b_iload_n dX8_arrests_81 rfl ?_
        refine b_bipush (v := (-9)) dX8_arrests_82 (by decide) ?_
        refine b_icmp_eq (tgt := 99) dX8_arrests_84 (by decide) (fun h84 => ?_) (fun h84 => ?_)
        · have hdis : disA n w k := (dis_iff hn (by omega) ha).mp h78
          have hPa : Pn n (arrF v (nI k) 1 n) := arrF_pn (hv.pn hP) (Or.inr rfl)
          have hIa : Ins n c (arrF v (nI k) 1 n) := arrF_ins (hv.ins hI)
          have hkg : sKeep (arrF v (nI k) 1 n) (mGo n c (arrF v (nI k) 1 n) (D + 1)) := mGo_keep hPa hIa (by omega)
          have hback : mKp c w (arrF (mGo n c (arrF v (nI k) 1 n) (D + 1)) (nI k) 0 n) := arr_back hn hv hdis (mKp.of hkg)
          have hsq := mGo_sq (d := D + 1) (arrF_pn hP (Or.inr rfl)) (arrF_ins hI) (arrF_peq (n := n) (s := nI k) (is := 1) hv) (by omega)
          have hoke : (mGo n c (arrF v (nI k) 1 n) (D + 1)).1 0 28 = 0 ↔ okA n c w D k := by unfold okA; rw [hsq.m]
          refine b_aload_n dX8_arrests_99 rfl ?_
          refine b_iload dX8_arrests_100 rfl ?_
          refine b_iconst (v := 1) dX8_arrests_102 (by decide) ?_
          refine b_callV2 dX8_arrests_103 lk_X8_204 rfl rfl rfl ⟨Nat.le_of_ble_eq_true rfl, Nat.le_of_ble_eq_true rfl⟩ (Nat.le_of_ble_eq_true rfl) (s_X8_arrestAll (hv.pn hP) (Or.inr rfl)) (fun r w103 h103 => ?_)
          obtain ⟨rfl, rfl⟩ := h103
          refine b_aload_n dX8_arrests_106 rfl ?_
          refine b_iload_n dX8_arrests_107 rfl ?_
          refine b_iconst (v := 1) dX8_arrests_108 (by decide) ?_
          refine b_iadd dX8_arrests_109 ?_
          refine b_topi (y := nI (D + 1)) (nI_1 D) ?_
          refine b_callV1 dX8_arrests_110 lk_X8_198 rfl rfl rfl ⟨Nat.le_of_ble_eq_true rfl, Nat.le_of_ble_eq_true rfl⟩ (Nat.le_of_ble_eq_true rfl) (s_X8_goAhead hPa hIa (by omega)) (fun r w110 h110 => ?_)
          obtain ⟨rfl, rfl⟩ := h110
          refine b_aload_n dX8_arrests_113 rfl ?_
          refine b_iload dX8_arrests_114 rfl ?_
          refine b_iconst (v := 0) dX8_arrests_116 (by decide) ?_
          refine b_callV2 dX8_arrests_117 lk_X8_204 rfl rfl rfl ⟨Nat.le_of_ble_eq_true rfl, Nat.le_of_ble_eq_true rfl⟩ (Nat.le_of_ble_eq_true rfl) (s_X8_arrestAll (hkg |> fun z => hPa.keep z) (Or.inl rfl)) (fun r w117 h117 => ?_)
          obtain ⟨rfl, rfl⟩ := h117
          refine b_aload_n dX8_arrests_120 rfl ?_
          refine b_geti dX8_arrests_121 gf_X8_165 rfl rfl ?_
          refine b_topi (y := (mGo n c (arrF v (nI k) 1 n) (D + 1)).1 0 28) (congrFun (arrF_row (by decide) n) 28) ?_
          refine b_if_ne (tgt := 132) dX8_arrests_124 (by decide) (fun h124 => ?_) (fun h124 => ?_)
          · refine b_iload_n dX8_arrests_132 rfl ?_
            refine b_istore_n dX8_arrests_133 (by decide) ?_
            refine b_iinc dX8_arrests_134 rfl (nI_inc k) (by decide) ?_
            refine b_goto (tgt := 63) dX8_arrests_137 (by decide) ?_
            refine b_sub [2, 3, 4, 1, 0] rfl ?_
            exact ih (k + 1) (by omega) _ hback _ (hx.skip (fun _ ho => absurd (hoke.mpr ho) h124) (by omega))
          · refine b_iload dX8_arrests_127 rfl ?_
            refine b_goto (tgt := 133) dX8_arrests_129 (by decide) ?_
            refine b_istore_n dX8_arrests_133 (by decide) ?_
            refine b_iinc dX8_arrests_134 rfl (nI_inc k) (by decide) ?_
            refine b_goto (tgt := 63) dX8_arrests_137 (by decide) ?_
            refine b_sub [2, 3, 4, 1, 0] rfl ?_
            exact ih (k + 1) (by omega) _ hback _ (hx.take hdis (hoke.mp h124) (Or.inl h84) (by omega))
        · obtain ⟨b, rfl, hb64⟩ : ∃ b, x = nI b ∧ b < 64 := hxb.elim (fun z => absurd z h84) id
          refine b_iload dX8_arrests_87 rfl ?_
          refine b_callS1 dX8_arrests_89 lk_X8_201 ⟨Nat.le_of_ble_eq_true rfl, Nat.le_of_ble_eq_true rfl⟩ (Nat.le_of_ble_eq_true rfl) (s_X8_size (s := k) (by omega)) (fun r w89 h89 => ?_)
          obtain ⟨rfl, rfl⟩ := h89
          refine b_iload_n dX8_arrests_92 rfl ?_
          refine b_callS1 dX8_arrests_93 lk_X8_201 ⟨Nat.le_of_ble_eq_true rfl, Nat.le_of_ble_eq_true rfl⟩ (Nat.le_of_ble_eq_true rfl) (s_X8_size (s := b) hb64) (fun r w93 h93 => ?_)
          obtain ⟨rfl, rfl⟩ := h93
          refine b_icmp_ge (tgt := 134) dX8_arrests_96 (by decide) (fun h96 => ?_) (fun h96 => ?_)
          · refine b_iinc dX8_arrests_134 rfl (nI_inc k) (by decide) ?_
            refine b_goto (tgt := 63) dX8_arrests_137 (by decide) ?_
            refine b_sub [1, 2, 3, 4, 0] rfl ?_
            exact ih (k + 1) (by omega) v hv _ (hx.skip (fun _ _ => ⟨b, rfl, hb64, hsz b rfl hb64 h96⟩) (by omega))
          · have hdis : disA n w k := (dis_iff hn (by omega) ha).mp h78
            have hPa : Pn n (arrF v (nI k) 1 n) := arrF_pn (hv.pn hP) (Or.inr rfl)
            have hIa : Ins n c (arrF v (nI k) 1 n) := arrF_ins (hv.ins hI)
            have hkg : sKeep (arrF v (nI k) 1 n) (mGo n c (arrF v (nI k) 1 n) (D + 1)) := mGo_keep hPa hIa (by omega)
            have hback : mKp c w (arrF (mGo n c (arrF v (nI k) 1 n) (D + 1)) (nI k) 0 n) := arr_back hn hv hdis (mKp.of hkg)
            have hsq := mGo_sq (d := D + 1) (arrF_pn hP (Or.inr rfl)) (arrF_ins hI) (arrF_peq (n := n) (s := nI k) (is := 1) hv) (by omega)
            have hoke : (mGo n c (arrF v (nI k) 1 n) (D + 1)).1 0 28 = 0 ↔ okA n c w D k := by unfold okA; rw [hsq.m]
            refine b_aload_n dX8_arrests_99 rfl ?_
            refine b_iload dX8_arrests_100 rfl ?_
            refine b_iconst (v := 1) dX8_arrests_102 (by decide) ?_
            refine b_callV2 dX8_arrests_103 lk_X8_204 rfl rfl rfl ⟨Nat.le_of_ble_eq_true rfl, Nat.le_of_ble_eq_true rfl⟩ (Nat.le_of_ble_eq_true rfl) (s_X8_arrestAll (hv.pn hP) (Or.inr rfl)) (fun r w103 h103 => ?_)
            obtain ⟨rfl, rfl⟩ := h103
            refine b_aload_n dX8_arrests_106 rfl ?_
            refine b_iload_n dX8_arrests_107 rfl ?_
            refine b_iconst (v := 1) dX8_arrests_108 (by decide) ?_
            refine b_iadd dX8_arrests_109 ?_
            refine b_topi (y := nI (D + 1)) (nI_1 D) ?_
            refine b_callV1 dX8_arrests_110 lk_X8_198 rfl rfl rfl ⟨Nat.le_of_ble_eq_true rfl, Nat.le_of_ble_eq_true rfl⟩ (Nat.le_of_ble_eq_true rfl) (s_X8_goAhead hPa hIa (by omega)) (fun r w110 h110 => ?_)
            obtain ⟨rfl, rfl⟩ := h110
            refine b_aload_n dX8_arrests_113 rfl ?_
            refine b_iload dX8_arrests_114 rfl ?_
            refine b_iconst (v := 0) dX8_arrests_116 (by decide) ?_
            refine b_callV2 dX8_arrests_117 lk_X8_204 rfl rfl rfl ⟨Nat.le_of_ble_eq_true rfl, Nat.le_of_ble_eq_true rfl⟩ (Nat.le_of_ble_eq_true rfl) (s_X8_arrestAll (hkg |> fun z => hPa.keep z) (Or.inl rfl)) (fun r w117 h117 => ?_)
            obtain ⟨rfl, rfl⟩ := h117
            refine b_aload_n dX8_arrests_120 rfl ?_
            refine b_geti dX8_arrests_121 gf_X8_165 rfl rfl ?_
            refine b_topi (y := (mGo n c (arrF v (nI k) 1 n) (D + 1)).1 0 28) (congrFun (arrF_row (by decide) n) 28) ?_
            refine b_if_ne (tgt := 132) dX8_arrests_124 (by decide) (fun h124 => ?_) (fun h124 => ?_)
            · refine b_iload_n dX8_arrests_132 rfl ?_
              refine b_istore_n dX8_arrests_133 (by decide) ?_
              refine b_iinc dX8_arrests_134 rfl (nI_inc k) (by decide) ?_
              refine b_goto (tgt := 63) dX8_arrests_137 (by decide) ?_
              refine b_sub [2, 3, 4, 1, 0] rfl ?_
              exact ih (k + 1) (by omega) _ hback _ (hx.skip (fun _ ho => absurd (hoke.mpr ho) h124) (by omega))
            · refine b_iload dX8_arrests_127 rfl ?_
              refine b_goto (tgt := 133) dX8_arrests_129 (by decide) ?_
              refine b_istore_n dX8_arrests_133 (by decide) ?_
              refine b_iinc dX8_arrests_134 rfl (nI_inc k) (by decide) ?_
              refine b_goto (tgt := 63) dX8_arrests_137 (by decide) ?_
              refine b_sub [2, 3, 4, 1, 0] rfl ?_
              exact ih (k + 1) (by omega) _ hback _ (hx.take hdis (hoke.mp h124) (Or.inr ⟨b, rfl, hb64, hsz2 b rfl hb64 h96⟩) (by omega))

set_option maxRecDepth 100000 in
set_option maxHeartbeats 1000000 in
theorem s_X8_arrests_l0 {w : kW} {n c qq : Nat} (hM : MInv n c qq w) {D : Nat} (hne : ¬ w.1 0 5 = 0) (hD : D < 60) : ∀ q k, k + q = n → ∀ are : Int32, (∀ p, p < 32 → (bt are p = true ↔ p < k ∧ ¬ w.1 7 p = 0)) → BS shM RX8 cX8_arrests 5 (some .int) 6 146 (fun r w' => PArr n c w D r ∧ mKp c w w') 24 [(0, .ref 0), (1, .int (nI D)), (2, .int are), (3, .int (nI k))] [] w := by
  intro q
  obtain ⟨hP, hI, hc8, hR, hu, hS⟩ := id hM
  have hn := hP.le
  induction q with
  | zero =>
    intro k hk are ha
    refine b_iload_n dX8_arrests_24 rfl ?_
    refine b_aload_n dX8_arrests_25 rfl ?_
    refine b_geti dX8_arrests_26 gf_X8_105 rfl rfl ?_
    refine b_topi (y := nI n) hP.1 ?_
    refine b_icmp_ge (tgt := 57) dX8_arrests_29 (by decide) (fun h29 => ?_) (fun h29 => ?_)
    · refine b_bipush (v := (-9)) dX8_arrests_57 (by decide) ?_
      refine b_istore_n dX8_arrests_59 (by decide) ?_
      refine b_iconst (v := 0) dX8_arrests_60 (by decide) ?_
      refine b_istore dX8_arrests_61 (by decide) ?_
      refine b_sub [2, 3, 4, 1, 0] rfl ?_
      have e : k = n := by omega
      subst e
      exact s_X8_arrests_lp hM hne hD ha (2 ^ k) 0 (by omega) w mKp.rf (-9) (Or.inl ⟨rfl, fun s hs => absurd hs (Nat.not_lt_zero _)⟩)
    · exact absurd (nI_le (by omega) (by omega)) h29
  | succ q ih =>
    intro k hk are ha
    refine b_iload_n dX8_arrests_24 rfl ?_
    refine b_aload_n dX8_arrests_25 rfl ?_
    refine b_geti dX8_arrests_26 gf_X8_105 rfl rfl ?_
    refine b_topi (y := nI n) hP.1 ?_
    refine b_icmp_ge (tgt := 57) dX8_arrests_29 (by decide) (fun h29 => ?_) (fun h29 => ?_)
    · exact absurd h29 (nI_ge (by omega) (by omega))
    · refine b_iload_n dX8_arrests_32 rfl ?_
      refine b_aload_n dX8_arrests_33 rfl ?_
      refine b_getr dX8_arrests_34 gf_X8_28 rfl rfl ?_
      refine b_iload_n dX8_arrests_37 rfl ?_
      refine b_zaldN dX8_arrests_38 rfl ⟨by omega, by decide⟩ ?_
      refine b_if_eq (tgt := 48) dX8_arrests_39 (by decide) (fun h39 => ?_) (fun h39 => ?_)
      · refine b_iconst (v := 0) dX8_arrests_48 (by decide) ?_
        refine b_ior dX8_arrests_49 ?_
        refine b_istore_n dX8_arrests_50 (by decide) ?_
        refine b_iinc dX8_arrests_51 rfl (nI_inc k) (by decide) ?_
        refine b_goto (tgt := 24) dX8_arrests_54 (by decide) ?_
        refine b_sub [2, 3, 1, 0] rfl ?_
        exact ih (k + 1) (by omega) _ (are_no (n := n) ha h39)
      · refine b_iconst (v := 1) dX8_arrests_42 (by decide) ?_
        refine b_iload_n dX8_arrests_43 rfl ?_
        refine b_ishl dX8_arrests_44 ?_
        refine b_goto (tgt := 49) dX8_arrests_45 (by decide) ?_
        refine b_ior dX8_arrests_49 ?_
        refine b_istore_n dX8_arrests_50 (by decide) ?_
        refine b_iinc dX8_arrests_51 rfl (nI_inc k) (by decide) ?_
        refine b_goto (tgt := 24) dX8_arrests_54 (by decide) ?_
        refine b_sub [2, 3, 1, 0] rfl ?_
        exact ih (k + 1) (by omega) _ (are_yes (n := n) (by omega) ha h39)

set_option maxRecDepth 100000 in
set_option maxHeartbeats 1000000 in
theorem s_X8_arrests {w : kW} {n c qq : Nat} (hM : MInv n c qq w) {d : Int32} : Spec shM yX8_arrests cX8_arrests 5 (some .int) 6 146 [.ref 0, .int d] w (fun r w' => PA_arr n c w d r ∧ mKp c w w') := by
  obtain ⟨hP, hI, hc8, hR, hu, hS⟩ := id hM
  have hn := hP.le
  refine k_enter pn_X8 (Nat.le_of_ble_eq_true rfl) ?_
  refine b_iload_n dX8_arrests_0 rfl ?_
  refine b_callS1 dX8_arrests_1 lk_X8_195 ⟨Nat.le_of_ble_eq_true rfl, Nat.le_of_ble_eq_true rfl⟩ (Nat.le_of_ble_eq_true rfl) (s_X8_isDawn) (fun r w1 h1 => ?_)
  obtain ⟨rfl, h1⟩ := h1
  rcases h1 with ⟨rfl, h1⟩ | ⟨rfl, h1⟩
  · refine b_if_ne (tgt := 10) dX8_arrests_4 (by decide) (fun h4 => ?_) (fun h4 => absurd h4 (by decide))
    have hd9 : isDw d := h1
    obtain ⟨D, hD, rfl⟩ := dawn_of h1
    refine b_aload_n dX8_arrests_10 rfl ?_
    refine b_geti dX8_arrests_11 gf_X8_105 rfl rfl ?_
    refine b_if_ne (tgt := 20) dX8_arrests_14 (by decide) (fun h14 => ?_) (fun h14 => ?_)
    · refine b_iconst (v := 0) dX8_arrests_20 (by decide) ?_
      refine b_istore_n dX8_arrests_21 (by decide) ?_
      refine b_iconst (v := 0) dX8_arrests_22 (by decide) ?_
      refine b_istore_n dX8_arrests_23 (by decide) ?_
      refine b_sub [2, 3, 1, 0] rfl ?_
      refine (s_X8_arrests_l0 hM h14 hD n 0 (by omega) 0 (fun p hp => by rw [b_0]; simp)).mono (fun r w1 h => ⟨?_, h.2⟩)
      rw [PA_arr, if_pos hd9, if_neg h14, dn_nI (by omega)]
      exact h.1
    · refine b_bipush (v := (-3)) dX8_arrests_17 (by decide) ?_
      exact b_iret dX8_arrests_19 rfl ⟨by rw [PA_arr, if_pos hd9, if_pos h14], mKp.rf⟩
  · refine b_if_ne (tgt := 10) dX8_arrests_4 (by decide) (fun h4 => absurd h4 (by decide)) (fun h4 => ?_)
    refine b_bipush (v := (-2)) dX8_arrests_7 (by decide) ?_
    exact b_iret dX8_arrests_9 rfl ⟨by rw [PA_arr, if_neg h1], mKp.rf⟩
