/-! ===== the text of a coast ===== -/
def gz (f : Nat → Int32) (nn pl : Nat) : Prop := (pl - 2) / 5 < nn ∧ (((pl - 2) % 5 = 0 ∧ f pl = 59) ∨ ((pl - 2) % 5 = 1 ∧ (f pl = 103 ∨ f pl = 104 ∨ f pl = 111)) ∨ ((pl - 2) % 5 = 2 ∧ ∃ d, 1 ≤ d ∧ d ≤ 9 ∧ f pl = nI (48 + d)) ∨ (3 ≤ (pl - 2) % 5 ∧ ∃ d, d < nn ∧ d ≠ (pl - 2) / 5 ∧ f pl = nI (48 + d)))
def cnt (f : Nat → Int32) (nn : Nat) : Prop := 2 ≤ nn ∧ nn ≤ 6 ∧ f 1 = nI (48 + nn)
def goes (f : Nat → Int32) (pl : Nat) : Prop := if pl = 0 then f 0 = 100 else ∃ nn, cnt f nn ∧ (pl = 1 ∨ gz f nn pl)
theorem cnt_inj {f : Nat → Int32} {a b : Nat} (h1 : cnt f a) (h2 : cnt f b) : a = b := by
  obtain ⟨a1, a2, a3⟩ := h1
  obtain ⟨b1, b2, b3⟩ := h2
  have := nI_inj (by omega) (by omega) (a3.symm.trans b3)
  omega
def FF (f : Nat → Int32) (n t : Nat) : Prop := t ≤ n ∧ (∀ pl, pl < t → goes f pl) ∧ (t < n → ¬ goes f t) ∧ (t = n → ∀ nn, cnt f nn → n ≠ 2 + 5 * nn)
def OKT (f : Nat → Int32) (n nn : Nat) : Prop := cnt f nn ∧ n = 2 + 5 * nn ∧ ∀ pl, pl < n → goes f pl
theorem FF_inj {f : Nat → Int32} {n a b : Nat} (h1 : FF f n a) (h2 : FF f n b) : a = b := by
  rcases Nat.lt_trichotomy a b with h | h | h
  · exact absurd (h2.2.1 a h) (h1.2.2.1 (by have := h2.1; omega))
  · exact h
  · exact absurd (h1.2.1 b h) (h2.2.2.1 (by have := h1.1; omega))
theorem FF_OKT {f : Nat → Int32} {n a nn : Nat} (h1 : FF f n a) (h2 : OKT f n nn) : False := by
  by_cases h : a < n
  · exact h1.2.2.1 h (h2.2.2 a h)
  · exact h1.2.2.2 (by have := h1.1; omega) nn h2.1 h2.2.1
theorem goes_0 {f : Nat → Int32} : goes f 0 ↔ f 0 = 100 := by
  unfold goes
  rw [if_pos rfl]
theorem goes_1 {f : Nat → Int32} : goes f 1 ↔ ∃ nn, cnt f nn := by
  unfold goes
  rw [if_neg (by decide)]
  constructor
  · rintro ⟨nn, h, -⟩; exact ⟨nn, h⟩
  · rintro ⟨nn, h⟩; exact ⟨nn, h, Or.inl rfl⟩
theorem goes_2 {f : Nat → Int32} {nn pl : Nat} (h : cnt f nn) (hp : 2 ≤ pl) : goes f pl ↔ gz f nn pl := by
  unfold goes
  rw [if_neg (by omega)]
  constructor
  · rintro ⟨m, h1, h2 | h2⟩
    · omega
    · rw [cnt_inj h h1]; exact h2
  · intro h1; exact ⟨nn, h, Or.inr h1⟩
/-- what reading a text leaves -/
def mKc (w v : kW) : Prop := (∀ j, j ≠ 0 → j ≠ 8 → j ≠ 9 → j ≠ 10 → v.1 j = w.1 j) ∧ (∀ j, j ≠ 10 → j ≠ 11 → v.1 0 j = w.1 0 j)
theorem mKc.rf {w : kW} : mKc w w := ⟨fun _ _ _ _ _ => rfl, fun _ _ _ => rfl⟩
theorem mKc.tr {w v u : kW} (h1 : mKc w v) (h2 : mKc v u) : mKc w u := ⟨fun j a b c d => (h2.1 j a b c d).trans (h1.1 j a b c d), fun j a b => (h2.2 j a b).trans (h1.2 j a b)⟩
theorem mKc.row {w v : kW} {c k : Nat} {x : Int32} (h : mKc w v) (hc : c = 8 ∨ c = 9 ∨ c = 10) : mKc w (kset v c k x) :=
  h.tr ⟨fun j a b c' d => kset_row _ _ _ _ (by omega), fun j a b => kset_ne _ _ (Or.inl (by omega))⟩
theorem mKc.num {w v : kW} {k : Nat} {x : Int32} (h : mKc w v) (hc : k = 10 ∨ k = 11) : mKc w (kset v 0 k x) :=
  h.tr ⟨fun j a b c' d => kset_row _ _ _ _ a, fun j a b => kset_ne _ _ (Or.inr (by omega))⟩
theorem dig_of {x : Int32} {lo hi : Nat} (hh : hi ≤ 100 ∧ lo ≤ 100) (h1 : nI (48 + lo) ≤ x) (h2 : x ≤ nI (48 + hi)) : ∃ d, lo ≤ d ∧ d ≤ hi ∧ x = nI (48 + d) := by
  have h0 : ¬ x < 0 := by
    intro h
    rw [Int32.le_iff_toInt_le, nI_toInt (by omega)] at h1
    rw [Int32.lt_iff_toInt_lt, show (0 : Int32).toInt = 0 from rfl] at h
    omega
  obtain ⟨j, hj, rfl⟩ := nle_of (l := 48 + hi) (by omega) h0 h2
  have := (nI_leI (by omega) (by omega)).mp h1
  exact ⟨j - 48, by omega, by omega, by rw [Nat.add_sub_cancel' (by omega)]⟩

set_option maxRecDepth 100000 in
set_option maxHeartbeats 1000000 in
theorem s_X8_digit {w : kW} {a e lo hi : Nat} (ha : w.1 0 10 = nI a) (hae : a ≤ e) (he : e ≤ 200) (hh : hi ≤ 100 ∧ lo ≤ 100) : Spec shM yX8_digit cX8_digit 4 (some .int) 1 22 [.ref 0, .int (nI e), .int (nI lo), .int (nI hi)] w (fun r w' => (∃ d, lo ≤ d ∧ d ≤ hi ∧ a < e ∧ w.1 3 a = nI (48 + d) ∧ r = some (.int (nI d)) ∧ kset w 0 10 (nI (a + 1)) = w') ∨ ((a < e → ¬ ∃ d, lo ≤ d ∧ d ≤ hi ∧ w.1 3 a = nI (48 + d)) ∧ r = some (.int (-9)) ∧ w = w')) := by
  refine k_enter pn_X8 (Nat.le_of_ble_eq_true rfl) ?_
  refine b_aload_n dX8_digit_0 rfl ?_
  refine b_geti dX8_digit_1 gf_X8_108 rfl rfl ?_
  refine b_topi (y := nI a) ha ?_
  refine b_iload_n dX8_digit_4 rfl ?_
  refine b_icmp_ge (tgt := 31) dX8_digit_5 (by decide) (fun h5 => ?_) (fun h5 => ?_)
  · refine b_bipush (v := (-9)) dX8_digit_31 (by decide) ?_
    exact b_iret dX8_digit_33 rfl (Or.inr ⟨fun z => absurd ((nI_leI (by omega) (by omega)).mp h5) (by omega), rfl, rfl⟩)
  · have hlt : a < e := Nat.not_le.mp (fun z => h5 (nI_le z (by omega)))
    refine b_aload_n dX8_digit_8 rfl ?_
    refine b_getr dX8_digit_9 gf_X8_16 rfl rfl ?_
    refine b_aload_n dX8_digit_12 rfl ?_
    refine b_geti dX8_digit_13 gf_X8_108 rfl rfl ?_
    refine b_topi (y := nI a) ha ?_
    refine b_ialdN dX8_digit_16 rfl ⟨by omega, by decide⟩ ?_
    refine b_bipush (v := 48) dX8_digit_17 (by decide) ?_
    refine b_iload_n dX8_digit_19 rfl ?_
    refine b_iadd dX8_digit_20 ?_
    refine b_topi (y := nI (48 + lo)) (nI_add 48 _) ?_
    refine b_bipush (v := 48) dX8_digit_21 (by decide) ?_
    refine b_iload_n dX8_digit_23 rfl ?_
    refine b_iadd dX8_digit_24 ?_
    refine b_topi (y := nI (48 + hi)) (nI_add 48 _) ?_
    refine b_callS3 dX8_digit_25 lk_X8_101 ⟨Nat.le_of_ble_eq_true rfl, Nat.le_of_ble_eq_true rfl⟩ (Nat.le_of_ble_eq_true rfl) (s_X8_within) (fun r w25 h25 => ?_)
    obtain ⟨rfl, h25⟩ := h25
    rcases h25 with ⟨rfl, h25⟩ | ⟨rfl, h25⟩
    · refine b_if_ne (tgt := 34) dX8_digit_28 (by decide) (fun h28 => ?_) (fun h28 => absurd h28 (by decide))
      obtain ⟨d, d1, d2, d3⟩ := dig_of hh h25.1 h25.2
      refine b_aload_n dX8_digit_34 rfl ?_
      refine b_dup dX8_digit_35 rfl ?_
      refine b_geti dX8_digit_36 gf_X8_108 rfl rfl ?_
      refine b_topi (y := nI a) ha ?_
      refine b_iconst (v := 1) dX8_digit_39 (by decide) ?_
      refine b_iadd dX8_digit_40 ?_
      refine b_topi (y := nI (a + 1)) (nI_1 a) ?_
      refine b_puti dX8_digit_41 gf_X8_108 gs_X8_10 rfl rfl ?_
      refine b_aload_n dX8_digit_44 rfl ?_
      refine b_getr dX8_digit_45 gf_X8_16 rfl rfl ?_
      refine b_aload_n dX8_digit_48 rfl ?_
      refine b_geti dX8_digit_49 gf_X8_108 rfl rfl ?_
      refine b_topi (y := nI (a + 1)) rfl ?_
      refine b_iconst (v := 1) dX8_digit_52 (by decide) ?_
      refine b_isub dX8_digit_53 ?_
      refine b_topi (y := nI a) nI_predS ?_
      refine b_ialdN dX8_digit_54 rfl ⟨by omega, by decide⟩ ?_
      refine b_topi (y := nI (48 + d)) d3 ?_
      refine b_bipush (v := 48) dX8_digit_55 (by decide) ?_
      refine b_isub dX8_digit_57 ?_
      refine b_topi (y := nI d) (by rw [Nat.add_comm]; exact (nI_add d 48 ▸ Int32.add_sub_cancel (nI d) 48)) ?_
      exact b_iret dX8_digit_58 rfl (Or.inl ⟨d, d1, d2, hlt, d3, rfl, rfl⟩)
    · refine b_if_ne (tgt := 34) dX8_digit_28 (by decide) (fun h28 => absurd h28 (by decide)) (fun h28 => ?_)
      refine b_bipush (v := (-9)) dX8_digit_31 (by decide) ?_
      exact b_iret dX8_digit_33 rfl (Or.inr ⟨fun _ ⟨d, d1, d2, d3⟩ => h25 ⟨by rw [d3]; exact nI_le (by omega) (by omega), by rw [d3]; exact nI_le (by omega) (by omega)⟩, rfl, rfl⟩)

def kcode (x : Int32) (k : Nat) : Prop := (x = 103 ∧ k = 0) ∨ (x = 104 ∧ k = 1) ∨ (x = 111 ∧ k = 2)
theorem kcode_inj {x : Int32} {a b : Nat} (h1 : kcode x a) (h2 : kcode x b) : a = b := by
  rcases h1 with ⟨rfl, rfl⟩ | ⟨rfl, rfl⟩ | ⟨rfl, rfl⟩ <;> rcases h2 with ⟨h, rfl⟩ | ⟨h, rfl⟩ | ⟨h, rfl⟩ <;> first | rfl | exact absurd h (by decide)
/-- the codes of person p, and what they say -/
def TP (f : Nat → Int32) (nn p k h a b : Nat) : Prop := kcode (f (5 * p + 3)) k ∧ (1 ≤ h ∧ h ≤ 9 ∧ f (5 * p + 4) = nI (48 + h)) ∧ (a < nn ∧ a ≠ p ∧ f (5 * p + 5) = nI (48 + a)) ∧ (b < nn ∧ b ≠ p ∧ f (5 * p + 6) = nI (48 + b))
def RDP (w : kW) (p k h a b : Nat) : Prop := w.1 8 p = nI k ∧ w.1 9 p = nI h ∧ w.1 10 (2 * p) = nI a ∧ w.1 10 (2 * p + 1) = nI b
def rowsQ (p : Nat) (w v : kW) : Prop := ∀ q, q < p → v.1 8 q = w.1 8 q ∧ v.1 9 q = w.1 9 q ∧ v.1 10 (2 * q) = w.1 10 (2 * q) ∧ v.1 10 (2 * q + 1) = w.1 10 (2 * q + 1)
theorem rowsQ.row {p c k : Nat} {w v : kW} {x : Int32} (h : rowsQ p w v) (hc : c = 0 ∨ (c = 8 ∧ p ≤ k) ∨ (c = 9 ∧ p ≤ k) ∨ (c = 10 ∧ 2 * p ≤ k)) : rowsQ p w (kset v c k x) := fun q hq => by
  rw [kset_ne _ _ (by omega), kset_ne _ _ (by omega), kset_ne _ _ (by omega), kset_ne _ _ (by omega)]
  exact h q hq
def goesR (f : Nat → Int32) (lo hi : Nat) : Prop := ∀ j, lo ≤ j → j < hi → goes f j
theorem goesR.up {f : Nat → Int32} {lo hi : Nat} (h : goesR f lo hi) (h1 : goes f hi) : goesR f lo (hi + 1) := fun j a b => by
  by_cases e : j = hi
  · subst e; exact h1
  · exact h j a (by omega)
def failR (f : Nat → Int32) (S n lo : Nat) (w w' : kW) (hi : Nat) : Prop := ∃ t, lo ≤ t ∧ t ≤ hi ∧ t ≤ n ∧ goesR f lo t ∧ (t < n → ¬ goes f t) ∧ w'.1 0 10 = nI (S + t) ∧ mKc w w'
def okR (f : Nat → Int32) (S n nn p : Nat) (w w' : kW) : Prop := 5 * p + 7 ≤ n ∧ goesR f (5 * p + 3) (5 * p + 7) ∧ w'.1 0 10 = nI (S + (5 * p + 7)) ∧ w'.1 0 11 = nI nn ∧ (∃ k h a b, TP f nn p k h a b ∧ RDP w' p k h a b) ∧ rowsQ p w w' ∧ mKc w w'
def RPp (f : Nat → Int32) (S n nn p : Nat) (w : kW) (r : Option Value) (w' : kW) : Prop := (r = some (.int 1) ∧ okR f S n nn p w w') ∨ (r = some (.int 0) ∧ failR f S n (5 * p + 3) w w' (5 * p + 6))
theorem gz_3 {f : Nat → Int32} {nn p : Nat} (hp : p < nn) : gz f nn (5 * p + 3) ↔ (f (5 * p + 3) = 103 ∨ f (5 * p + 3) = 104 ∨ f (5 * p + 3) = 111) := by
  unfold gz
  rw [show (5 * p + 3 - 2) / 5 = p by omega, show (5 * p + 3 - 2) % 5 = 1 by omega]
  simp [hp]
theorem gz_4 {f : Nat → Int32} {nn p : Nat} (hp : p < nn) : gz f nn (5 * p + 4) ↔ ∃ d, 1 ≤ d ∧ d ≤ 9 ∧ f (5 * p + 4) = nI (48 + d) := by
  unfold gz
  rw [show (5 * p + 4 - 2) / 5 = p by omega, show (5 * p + 4 - 2) % 5 = 2 by omega]
  simp [hp]
theorem gz_5 {f : Nat → Int32} {nn p i : Nat} (hp : p < nn) (hi : i < 2) : gz f nn (5 * p + 5 + i) ↔ ∃ d, d < nn ∧ d ≠ p ∧ f (5 * p + 5 + i) = nI (48 + d) := by
  unfold gz
  rw [show (5 * p + 5 + i - 2) / 5 = p by omega, show (5 * p + 5 + i - 2) % 5 = 3 + i by omega]
  constructor
  · rintro ⟨-, ⟨h, -⟩ | ⟨h, -⟩ | ⟨h, -⟩ | ⟨-, h⟩⟩
    · omega
    · omega
    · omega
    · exact h
  · intro h; exact ⟨hp, Or.inr (Or.inr (Or.inr ⟨by omega, h⟩))⟩
theorem gz_2 {f : Nat → Int32} {nn p : Nat} (hp : p < nn) : gz f nn (5 * p + 2) ↔ f (5 * p + 2) = 59 := by
  unfold gz
  rw [show (5 * p + 2 - 2) / 5 = p by omega, show (5 * p + 2 - 2) % 5 = 0 by omega]
  simp [hp]
def RS (f : Nat → Int32) (S n nn p k : Nat) (w v : kW) (kp h : Nat) (fr : Nat → Nat) : Prop := v.1 0 10 = nI (S + (5 * p + 5 + k)) ∧ 5 * p + 5 + k ≤ n ∧ mKc w v ∧ v.1 0 11 = nI nn ∧ goesR f (5 * p + 3) (5 * p + 5 + k) ∧ (kcode (f (5 * p + 3)) kp ∧ v.1 8 p = nI kp) ∧ (1 ≤ h ∧ h ≤ 9 ∧ f (5 * p + 4) = nI (48 + h) ∧ v.1 9 p = nI h) ∧ (∀ i, i < k → fr i < nn ∧ fr i ≠ p ∧ f (5 * p + 5 + i) = nI (48 + fr i) ∧ v.1 10 (2 * p + i) = nI (fr i)) ∧ rowsQ p w v

set_option maxRecDepth 100000 in
set_option maxHeartbeats 1000000 in
theorem s_rp_2 {w : kW} {S n nn p : Nat} (hS : S + n ≤ 200) (hc : cnt (fun x => w.1 3 (S + x)) nn) (hp : p < nn) {v : kW} {kp h : Nat} {fr : Nat → Nat} (hR : RS (fun x => w.1 3 (S + x)) S n nn p 2 w v kp h fr) : BS shM RX8 cX8_readPerson 6 (some .boolean) 2 45 (fun r w' => RPp (fun x => w.1 3 (S + x)) S n nn p w r w') 113 [(0, .ref 0), (1, .int (nI (S + n))), (2, .int (nI p)), (4, .int 2)] [] v := by
  obtain ⟨r1, r2, r3, r4, r5, r6, r7, r8, r9⟩ := hR
  have hnn := hc.2.1
  have e3 : ∀ x, v.1 3 x = w.1 3 x := fun x => congrFun (r3.1 3 (by decide) (by decide) (by decide) (by decide)) x
  refine b_iload dX8_readPerson_113 rfl ?_
  refine b_iconst (v := 2) dX8_readPerson_115 (by decide) ?_
  refine b_icmp_ge (tgt := 183) dX8_readPerson_116 (by decide) (fun h116 => ?_) (fun h116 => ?_)
  · refine b_iconst (v := 1) dX8_readPerson_183 (by decide) ?_
    refine b_zret (Or.inr rfl) dX8_readPerson_184 rfl (Or.inl ⟨rfl, r2, r5, r1, r4, ⟨kp, h, fr 0, fr 1, ⟨r6.1, ⟨r7.1, r7.2.1, r7.2.2.1⟩, ?_, ?_⟩, r6.2, r7.2.2.2, ?_, ?_⟩, r9, r3⟩)
    · have := r8 0 (by decide); exact ⟨this.1, this.2.1, this.2.2.1⟩
    · have := r8 1 (by decide); exact ⟨this.1, this.2.1, this.2.2.1⟩
    · exact (r8 0 (by decide)).2.2.2
    · exact (r8 1 (by decide)).2.2.2
  · exact absurd (by decide) h116

set_option maxRecDepth 100000 in
set_option maxHeartbeats 1000000 in
theorem s_rp_1 {w : kW} {S n nn p : Nat} (hS : S + n ≤ 200) (hc : cnt (fun x => w.1 3 (S + x)) nn) (hp : p < nn) {v : kW} {kp h : Nat} {fr : Nat → Nat} (hR : RS (fun x => w.1 3 (S + x)) S n nn p 1 w v kp h fr) : BS shM RX8 cX8_readPerson 6 (some .boolean) 2 45 (fun r w' => RPp (fun x => w.1 3 (S + x)) S n nn p w r w') 113 [(0, .ref 0), (1, .int (nI (S + n))), (2, .int (nI p)), (4, .int 1)] [] v := by
  obtain ⟨r1, r2, r3, r4, r5, r6, r7, r8, r9⟩ := hR
  have hnn := hc.2.1
  have e3 : ∀ x, v.1 3 x = w.1 3 x := fun x => congrFun (r3.1 3 (by decide) (by decide) (by decide) (by decide)) x
  refine b_iload dX8_readPerson_113 rfl ?_
  refine b_iconst (v := 2) dX8_readPerson_115 (by decide) ?_
  refine b_icmp_ge (tgt := 183) dX8_readPerson_116 (by decide) (fun h116 => ?_) (fun h116 => ?_)
  · exact absurd h116 (by decide)
  · refine b_aload_n dX8_readPerson_119 rfl ?_
    refine b_iload_n dX8_readPerson_120 rfl ?_
    refine b_iconst (v := 0) dX8_readPerson_121 (by decide) ?_
    refine b_aload_n dX8_readPerson_122 rfl ?_
    refine b_geti dX8_readPerson_123 gf_X8_129 rfl rfl ?_
    refine b_topi (y := nI nn) r4 ?_
    refine b_iconst (v := 1) dX8_readPerson_126 (by decide) ?_
    refine b_isub dX8_readPerson_127 ?_
    refine b_topi (y := nI (nn - 1)) (nI_sub (b := 1) (by omega)) ?_
    refine b_callV3 dX8_readPerson_128 lk_X8_138 rfl rfl rfl ⟨Nat.le_of_ble_eq_true rfl, Nat.le_of_ble_eq_true rfl⟩ (Nat.le_of_ble_eq_true rfl) (s_X8_digit (lo := 0) (hi := nn - 1) r1 (show S + (5 * p + 5 + 1) ≤ S + n by omega) hS ⟨by omega, by omega⟩) (fun r w128 h128 => ?_)
    rcases h128 with ⟨d, d1, d2, d3, d4, rfl, rfl⟩ | ⟨hno, rfl, rfl⟩
    all_goals try rw [e3] at d4
    · refine b_istore dX8_readPerson_131 (by decide) ?_
      refine b_iload dX8_readPerson_133 rfl ?_
      refine b_iload_n dX8_readPerson_135 rfl ?_
      refine b_icmp_ne (tgt := 149) dX8_readPerson_136 (by decide) (fun h136 => ?_) (fun h136 => ?_)
      · refine b_iload dX8_readPerson_149 rfl ?_
        refine b_bipush (v := (-9)) dX8_readPerson_151 (by decide) ?_
        refine b_icmp_eq (tgt := 162) dX8_readPerson_153 (by decide) (fun h153 => ?_) (fun h153 => ?_)
        · exact absurd h153 (nI_ne9 (by omega))
        · refine b_iload dX8_readPerson_156 rfl ?_
          refine b_iload_n dX8_readPerson_158 rfl ?_
          refine b_icmp_ne (tgt := 164) dX8_readPerson_159 (by decide) (fun h159 => ?_) (fun h159 => ?_)
          · refine b_aload_n dX8_readPerson_164 rfl ?_
            refine b_getr dX8_readPerson_165 gf_X8_38 rfl rfl ?_
            refine b_iconst (v := 2) dX8_readPerson_168 (by decide) ?_
            refine b_iload_n dX8_readPerson_169 rfl ?_
            refine b_imul dX8_readPerson_170 ?_
            refine b_topi (y := nI (2 * p)) (nI_two _) ?_
            refine b_iload dX8_readPerson_171 rfl ?_
            refine b_iadd dX8_readPerson_173 ?_
            refine b_topi (y := nI (2 * p + 1)) (nI_add _ 1) ?_
            refine b_iload dX8_readPerson_174 rfl ?_
            refine b_iastN dX8_readPerson_176 rfl ⟨by omega, by decide⟩ ?_
            refine b_iinc dX8_readPerson_177 rfl rfl (by decide) ?_
            refine b_goto (tgt := 113) dX8_readPerson_180 (by decide) ?_
            refine b_sub [2, 3, 4, 0] rfl ?_
            have hdp : d ≠ p := fun e => h136 (by rw [e])
            refine s_rp_2 hS hc hp (kp := kp) (h := h) (fr := fun i => if i = 1 then d else fr i) ⟨?_, by omega, (r3.num (by decide)).row (by decide), r4, r5.up ((goes_2 hc (by omega)).mpr ((gz_5 (i := 1) hp (by decide)).mpr ⟨d, by omega, hdp, d4⟩)), ⟨r6.1, r6.2⟩, r7, ?_, ?_⟩
            · rfl
            · intro i hi
              by_cases e : i = 1
              · subst e
                refine ⟨?_, ?_, ?_, ?_⟩
                · show d < nn; omega
                · exact hdp
                · exact d4
                · exact kset_eq (kset v 0 10 (nI (S + (5 * p + 5 + 1) + 1))) 10 (2 * p + 1) (nI d)
              · have hi2 := r8 i (by omega)
                refine ⟨?_, ?_, ?_, ?_⟩
                · simp only [if_neg e]; exact hi2.1
                · simp only [if_neg e]; exact hi2.2.1
                · simp only [if_neg e]; exact hi2.2.2.1
                · simp only [if_neg e]; exact (kset_ne (kset v 0 10 (nI (S + (5 * p + 5 + 1) + 1))) (c := 10) (k := 2 * p + 1) (c' := 10) (k' := 2 * p + i) (nI d) (Or.inr (by omega))).trans ((kset_ne v (c := 0) (k := 10) (c' := 10) (k' := 2 * p + i) _ (Or.inl (by decide))).trans hi2.2.2.2)
            · exact (r9.row (Or.inl rfl)).row (by omega)
          · exact absurd h159 h136
      · refine b_aload_n dX8_readPerson_139 rfl ?_
        refine b_dup dX8_readPerson_140 rfl ?_
        refine b_geti dX8_readPerson_141 gf_X8_108 rfl rfl ?_
        refine b_iconst (v := 1) dX8_readPerson_144 (by decide) ?_
        refine b_isub dX8_readPerson_145 ?_
        refine b_topi (y := nI (S + (5 * p + 5 + 1))) nI_predS ?_
        refine b_puti dX8_readPerson_146 gf_X8_108 gs_X8_10 rfl rfl ?_
        refine b_iload dX8_readPerson_149 rfl ?_
        refine b_bipush (v := (-9)) dX8_readPerson_151 (by decide) ?_
        refine b_icmp_eq (tgt := 162) dX8_readPerson_153 (by decide) (fun h153 => ?_) (fun h153 => ?_)
        · exact absurd h153 (nI_ne9 (by omega))
        · refine b_iload dX8_readPerson_156 rfl ?_
          refine b_iload_n dX8_readPerson_158 rfl ?_
          refine b_icmp_ne (tgt := 164) dX8_readPerson_159 (by decide) (fun h159 => ?_) (fun h159 => ?_)
          · exact absurd h136 h159
          · refine b_iconst (v := 0) dX8_readPerson_162 (by decide) ?_
            refine b_zret (Or.inl rfl) dX8_readPerson_163 rfl (Or.inr ⟨rfl, (5 * p + 5 + 1), by omega, by omega, r2, r5, fun hlt hg => ?_, by first | rfl | exact r1, by first | exact r3 | exact (r3.num (by decide)).num (by decide)⟩)
            obtain ⟨d8, z1, z2, z3⟩ := (gz_5 (i := 1) hp (by decide)).mp ((goes_2 hc (by omega)).mp hg); exact z2 (by have q1 := nI_inj (by omega) (by omega) (z3.symm.trans d4); have q2 := nI_inj (by omega) (by omega) h136; omega)
    · refine b_istore dX8_readPerson_131 (by decide) ?_
      refine b_iload dX8_readPerson_133 rfl ?_
      refine b_iload_n dX8_readPerson_135 rfl ?_
      refine b_icmp_ne (tgt := 149) dX8_readPerson_136 (by decide) (fun h136 => ?_) (fun h136 => ?_)
      · refine b_iload dX8_readPerson_149 rfl ?_
        refine b_bipush (v := (-9)) dX8_readPerson_151 (by decide) ?_
        refine b_icmp_eq (tgt := 162) dX8_readPerson_153 (by decide) (fun h153 => ?_) (fun h153 => absurd h153 (by decide))
        refine b_iconst (v := 0) dX8_readPerson_162 (by decide) ?_
        refine b_zret (Or.inl rfl) dX8_readPerson_163 rfl (Or.inr ⟨rfl, (5 * p + 5 + 1), by omega, by omega, r2, r5, fun hlt hg => ?_, by first | rfl | exact r1, by first | exact r3 | exact (r3.num (by decide)).num (by decide)⟩)
        obtain ⟨d, d1, d2, d3⟩ := (gz_5 (i := 1) hp (by decide)).mp ((goes_2 hc (by omega)).mp hg); exact hno (by omega) ⟨d, by omega, by omega, by rw [e3]; exact d3⟩
      · exact absurd h136.symm (nI_ne9 (by omega))

set_option maxRecDepth 100000 in
set_option maxHeartbeats 1000000 in
theorem s_rp_0 {w : kW} {S n nn p : Nat} (hS : S + n ≤ 200) (hc : cnt (fun x => w.1 3 (S + x)) nn) (hp : p < nn) {v : kW} {kp h : Nat} {fr : Nat → Nat} (hR : RS (fun x => w.1 3 (S + x)) S n nn p 0 w v kp h fr) : BS shM RX8 cX8_readPerson 6 (some .boolean) 2 45 (fun r w' => RPp (fun x => w.1 3 (S + x)) S n nn p w r w') 113 [(0, .ref 0), (1, .int (nI (S + n))), (2, .int (nI p)), (4, .int 0)] [] v := by
  obtain ⟨r1, r2, r3, r4, r5, r6, r7, r8, r9⟩ := hR
  have hnn := hc.2.1
  have e3 : ∀ x, v.1 3 x = w.1 3 x := fun x => congrFun (r3.1 3 (by decide) (by decide) (by decide) (by decide)) x
  refine b_iload dX8_readPerson_113 rfl ?_
  refine b_iconst (v := 2) dX8_readPerson_115 (by decide) ?_
  refine b_icmp_ge (tgt := 183) dX8_readPerson_116 (by decide) (fun h116 => ?_) (fun h116 => ?_)
  · exact absurd h116 (by decide)
  · refine b_aload_n dX8_readPerson_119 rfl ?_
    refine b_iload_n dX8_readPerson_120 rfl ?_
    refine b_iconst (v := 0) dX8_readPerson_121 (by decide) ?_
    refine b_aload_n dX8_readPerson_122 rfl ?_
    refine b_geti dX8_readPerson_123 gf_X8_129 rfl rfl ?_
    refine b_topi (y := nI nn) r4 ?_
    refine b_iconst (v := 1) dX8_readPerson_126 (by decide) ?_
    refine b_isub dX8_readPerson_127 ?_
    refine b_topi (y := nI (nn - 1)) (nI_sub (b := 1) (by omega)) ?_
    refine b_callV3 dX8_readPerson_128 lk_X8_138 rfl rfl rfl ⟨Nat.le_of_ble_eq_true rfl, Nat.le_of_ble_eq_true rfl⟩ (Nat.le_of_ble_eq_true rfl) (s_X8_digit (lo := 0) (hi := nn - 1) r1 (show S + (5 * p + 5 + 0) ≤ S + n by omega) hS ⟨by omega, by omega⟩) (fun r w128 h128 => ?_)
    rcases h128 with ⟨d, d1, d2, d3, d4, rfl, rfl⟩ | ⟨hno, rfl, rfl⟩
    all_goals try rw [e3] at d4
    · refine b_istore dX8_readPerson_131 (by decide) ?_
      refine b_iload dX8_readPerson_133 rfl ?_
      refine b_iload_n dX8_readPerson_135 rfl ?_
      refine b_icmp_ne (tgt := 149) dX8_readPerson_136 (by decide) (fun h136 => ?_) (fun h136 => ?_)
      · refine b_iload dX8_readPerson_149 rfl ?_
        refine b_bipush (v := (-9)) dX8_readPerson_151 (by decide) ?_
        refine b_icmp_eq (tgt := 162) dX8_readPerson_153 (by decide) (fun h153 => ?_) (fun h153 => ?_)
        · exact absurd h153 (nI_ne9 (by omega))
        · refine b_iload dX8_readPerson_156 rfl ?_
          refine b_iload_n dX8_readPerson_158 rfl ?_
          refine b_icmp_ne (tgt := 164) dX8_readPerson_159 (by decide) (fun h159 => ?_) (fun h159 => ?_)
          · refine b_aload_n dX8_readPerson_164 rfl ?_
            refine b_getr dX8_readPerson_165 gf_X8_38 rfl rfl ?_
            refine b_iconst (v := 2) dX8_readPerson_168 (by decide) ?_
            refine b_iload_n dX8_readPerson_169 rfl ?_
            refine b_imul dX8_readPerson_170 ?_
            refine b_topi (y := nI (2 * p)) (nI_two _) ?_
            refine b_iload dX8_readPerson_171 rfl ?_
            refine b_iadd dX8_readPerson_173 ?_
            refine b_topi (y := nI (2 * p + 0)) (nI_add _ 0) ?_
            refine b_iload dX8_readPerson_174 rfl ?_
            refine b_iastN dX8_readPerson_176 rfl ⟨by omega, by decide⟩ ?_
            refine b_iinc dX8_readPerson_177 rfl rfl (by decide) ?_
            refine b_goto (tgt := 113) dX8_readPerson_180 (by decide) ?_
            refine b_sub [2, 3, 4, 0] rfl ?_
            have hdp : d ≠ p := fun e => h136 (by rw [e])
            refine s_rp_1 hS hc hp (kp := kp) (h := h) (fr := fun i => if i = 0 then d else fr i) ⟨?_, by omega, (r3.num (by decide)).row (by decide), r4, r5.up ((goes_2 hc (by omega)).mpr ((gz_5 (i := 0) hp (by decide)).mpr ⟨d, by omega, hdp, d4⟩)), ⟨r6.1, r6.2⟩, r7, ?_, ?_⟩
            · rfl
            · intro i hi
              by_cases e : i = 0
              · subst e
                refine ⟨?_, ?_, ?_, ?_⟩
                · show d < nn; omega
                · exact hdp
                · exact d4
                · exact kset_eq (kset v 0 10 (nI (S + (5 * p + 5 + 0) + 1))) 10 (2 * p + 0) (nI d)
              · have hi2 := r8 i (by omega)
                refine ⟨?_, ?_, ?_, ?_⟩
                · simp only [if_neg e]; exact hi2.1
                · simp only [if_neg e]; exact hi2.2.1
                · simp only [if_neg e]; exact hi2.2.2.1
                · simp only [if_neg e]; exact (kset_ne (kset v 0 10 (nI (S + (5 * p + 5 + 0) + 1))) (c := 10) (k := 2 * p + 0) (c' := 10) (k' := 2 * p + i) (nI d) (Or.inr (by omega))).trans ((kset_ne v (c := 0) (k := 10) (c' := 10) (k' := 2 * p + i) _ (Or.inl (by decide))).trans hi2.2.2.2)
            · exact (r9.row (Or.inl rfl)).row (by omega)
          · exact absurd h159 h136
      · refine b_aload_n dX8_readPerson_139 rfl ?_
        refine b_dup dX8_readPerson_140 rfl ?_
        refine b_geti dX8_readPerson_141 gf_X8_108 rfl rfl ?_
        refine b_iconst (v := 1) dX8_readPerson_144 (by decide) ?_
        refine b_isub dX8_readPerson_145 ?_
        refine b_topi (y := nI (S + (5 * p + 5 + 0))) nI_predS ?_
        refine b_puti dX8_readPerson_146 gf_X8_108 gs_X8_10 rfl rfl ?_
        refine b_iload dX8_readPerson_149 rfl ?_
        refine b_bipush (v := (-9)) dX8_readPerson_151 (by decide) ?_
        refine b_icmp_eq (tgt := 162) dX8_readPerson_153 (by decide) (fun h153 => ?_) (fun h153 => ?_)
        · exact absurd h153 (nI_ne9 (by omega))
        · refine b_iload dX8_readPerson_156 rfl ?_
          refine b_iload_n dX8_readPerson_158 rfl ?_
          refine b_icmp_ne (tgt := 164) dX8_readPerson_159 (by decide) (fun h159 => ?_) (fun h159 => ?_)
          · exact absurd h136 h159
          · refine b_iconst (v := 0) dX8_readPerson_162 (by decide) ?_
            refine b_zret (Or.inl rfl) dX8_readPerson_163 rfl (Or.inr ⟨rfl, (5 * p + 5 + 0), by omega, by omega, r2, r5, fun hlt hg => ?_, by first | rfl | exact r1, by first | exact r3 | exact (r3.num (by decide)).num (by decide)⟩)
            obtain ⟨d8, z1, z2, z3⟩ := (gz_5 (i := 0) hp (by decide)).mp ((goes_2 hc (by omega)).mp hg); exact z2 (by have q1 := nI_inj (by omega) (by omega) (z3.symm.trans d4); have q2 := nI_inj (by omega) (by omega) h136; omega)
    · refine b_istore dX8_readPerson_131 (by decide) ?_
      refine b_iload dX8_readPerson_133 rfl ?_
      refine b_iload_n dX8_readPerson_135 rfl ?_
      refine b_icmp_ne (tgt := 149) dX8_readPerson_136 (by decide) (fun h136 => ?_) (fun h136 => ?_)
      · refine b_iload dX8_readPerson_149 rfl ?_
        refine b_bipush (v := (-9)) dX8_readPerson_151 (by decide) ?_
        refine b_icmp_eq (tgt := 162) dX8_readPerson_153 (by decide) (fun h153 => ?_) (fun h153 => absurd h153 (by decide))
        refine b_iconst (v := 0) dX8_readPerson_162 (by decide) ?_
        refine b_zret (Or.inl rfl) dX8_readPerson_163 rfl (Or.inr ⟨rfl, (5 * p + 5 + 0), by omega, by omega, r2, r5, fun hlt hg => ?_, by first | rfl | exact r1, by first | exact r3 | exact (r3.num (by decide)).num (by decide)⟩)
        obtain ⟨d, d1, d2, d3⟩ := (gz_5 (i := 0) hp (by decide)).mp ((goes_2 hc (by omega)).mp hg); exact hno (by omega) ⟨d, by omega, by omega, by rw [e3]; exact d3⟩
      · exact absurd h136.symm (nI_ne9 (by omega))

set_option maxRecDepth 100000 in
set_option maxHeartbeats 1000000 in
theorem s_X8_readPerson {w : kW} {S n nn p : Nat} (hS : S + n ≤ 200) (hc : cnt (fun x => w.1 3 (S + x)) nn) (hp : p < nn) (ha : w.1 0 10 = nI (S + (5 * p + 3))) (hle : 5 * p + 3 ≤ n) (hr : w.1 0 11 = nI nn) : Spec shM yX8_readPerson cX8_readPerson 6 (some .boolean) 2 45 [.ref 0, .int (nI (S + n)), .int (nI p)] w (fun r w' => RPp (fun x => w.1 3 (S + x)) S n nn p w r w') := by
  have hnn := hc.2.1
  refine k_enter pn_X8 (Nat.le_of_ble_eq_true rfl) ?_
  refine b_aload_n dX8_readPerson_0 rfl ?_
  refine b_geti dX8_readPerson_1 gf_X8_108 rfl rfl ?_
  refine b_topi (y := nI (S + (5 * p + 3))) ha ?_
  refine b_iload_n dX8_readPerson_4 rfl ?_
  refine b_icmp_ge (tgt := 20) dX8_readPerson_5 (by decide) (fun h5 => ?_) (fun h5 => ?_)
  · refine b_iconst (v := 0) dX8_readPerson_20 (by decide) ?_
    refine b_istore_n dX8_readPerson_21 (by decide) ?_
    refine b_aload_n dX8_readPerson_22 rfl ?_
    refine b_getr dX8_readPerson_23 gf_X8_32 rfl rfl ?_
    refine b_iload_n dX8_readPerson_26 rfl ?_
    refine b_iload_n dX8_readPerson_27 rfl ?_
    refine b_bipush (v := 103) dX8_readPerson_28 (by decide) ?_
    refine b_icmp_ne (tgt := 37) dX8_readPerson_30 (by decide) (fun h30 => ?_) (fun h30 => absurd h30 (by decide))
    refine b_iload_n dX8_readPerson_37 rfl ?_
    refine b_bipush (v := 104) dX8_readPerson_38 (by decide) ?_
    refine b_icmp_ne (tgt := 47) dX8_readPerson_40 (by decide) (fun h40 => ?_) (fun h40 => absurd h40 (by decide))
    refine b_iload_n dX8_readPerson_47 rfl ?_
    refine b_bipush (v := 111) dX8_readPerson_48 (by decide) ?_
    refine b_icmp_ne (tgt := 57) dX8_readPerson_50 (by decide) (fun h50 => ?_) (fun h50 => absurd h50 (by decide))
    refine b_bipush (v := (-9)) dX8_readPerson_57 (by decide) ?_
    refine b_iastN dX8_readPerson_59 rfl ⟨by omega, by decide⟩ ?_
    refine b_aload_n dX8_readPerson_60 rfl ?_
    refine b_getr dX8_readPerson_61 gf_X8_32 rfl rfl ?_
    refine b_iload_n dX8_readPerson_64 rfl ?_
    refine b_ialdN dX8_readPerson_65 rfl ⟨by omega, by decide⟩ ?_
    refine b_topi (y := (-9)) (show k_up _ 8 p _ 8 p = _ from k_up_same _ _ _ _) ?_
    refine b_bipush (v := (-9)) dX8_readPerson_66 (by decide) ?_
    refine b_icmp_ne (tgt := 73) dX8_readPerson_68 (by decide) (fun h68 => absurd h68 (by decide)) (fun h68 => ?_)
    refine b_iconst (v := 0) dX8_readPerson_71 (by decide) ?_
    refine b_zret (Or.inl rfl) dX8_readPerson_72 rfl (Or.inr ⟨rfl, 5 * p + 3, Nat.le_refl _, by omega, hle, fun j a b => absurd b (by omega), fun hlt => absurd ((nI_leI (by omega) (by omega)).mp h5) (by omega), ha, mKc.rf.row (by decide)⟩)
  · have hlt3 : 5 * p + 3 < n := Nat.not_le.mp (fun z => h5 (nI_le (by omega) (by omega)))
    refine b_aload_n dX8_readPerson_8 rfl ?_
    refine b_getr dX8_readPerson_9 gf_X8_16 rfl rfl ?_
    refine b_aload_n dX8_readPerson_12 rfl ?_
    refine b_geti dX8_readPerson_13 gf_X8_108 rfl rfl ?_
    refine b_topi (y := nI (S + (5 * p + 3))) ha ?_
    refine b_ialdN dX8_readPerson_16 rfl ⟨by omega, by decide⟩ ?_
    refine b_goto (tgt := 21) dX8_readPerson_17 (by decide) ?_
    refine b_istore_n dX8_readPerson_21 (by decide) ?_
    refine b_aload_n dX8_readPerson_22 rfl ?_
    refine b_getr dX8_readPerson_23 gf_X8_32 rfl rfl ?_
    refine b_iload_n dX8_readPerson_26 rfl ?_
    refine b_iload_n dX8_readPerson_27 rfl ?_
    refine b_bipush (v := 103) dX8_readPerson_28 (by decide) ?_
    refine b_icmp_ne (tgt := 37) dX8_readPerson_30 (by decide) (fun h30 => ?_) (fun h30 => ?_)
    · refine b_iload_n dX8_readPerson_37 rfl ?_
      refine b_bipush (v := 104) dX8_readPerson_38 (by decide) ?_
      refine b_icmp_ne (tgt := 47) dX8_readPerson_40 (by decide) (fun h40 => ?_) (fun h40 => ?_)
      · refine b_iload_n dX8_readPerson_47 rfl ?_
        refine b_bipush (v := 111) dX8_readPerson_48 (by decide) ?_
        refine b_icmp_ne (tgt := 57) dX8_readPerson_50 (by decide) (fun h50 => ?_) (fun h50 => ?_)
        · refine b_bipush (v := (-9)) dX8_readPerson_57 (by decide) ?_
          refine b_iastN dX8_readPerson_59 rfl ⟨by omega, by decide⟩ ?_
          refine b_aload_n dX8_readPerson_60 rfl ?_
          refine b_getr dX8_readPerson_61 gf_X8_32 rfl rfl ?_
          refine b_iload_n dX8_readPerson_64 rfl ?_
          refine b_ialdN dX8_readPerson_65 rfl ⟨by omega, by decide⟩ ?_
          refine b_topi (y := (-9)) (show k_up _ 8 p _ 8 p = _ from k_up_same _ _ _ _) ?_
          refine b_bipush (v := (-9)) dX8_readPerson_66 (by decide) ?_
          refine b_icmp_ne (tgt := 73) dX8_readPerson_68 (by decide) (fun h68 => absurd h68 (by decide)) (fun h68 => ?_)
          refine b_iconst (v := 0) dX8_readPerson_71 (by decide) ?_
          refine b_zret (Or.inl rfl) dX8_readPerson_72 rfl (Or.inr ⟨rfl, 5 * p + 3, Nat.le_refl _, by omega, hle, fun j a b => absurd b (by omega), fun hlt hg => ?_, ha, mKc.rf.row (by decide)⟩)
          exact ((gz_3 hp).mp ((goes_2 hc (by omega)).mp hg)).elim h30 (fun z => z.elim h40 h50)
        · refine b_iconst (v := 2) dX8_readPerson_53 (by decide) ?_
          refine b_goto (tgt := 59) dX8_readPerson_54 (by decide) ?_
          refine b_iastN dX8_readPerson_59 rfl ⟨by omega, by decide⟩ ?_
          refine b_aload_n dX8_readPerson_60 rfl ?_
          refine b_getr dX8_readPerson_61 gf_X8_32 rfl rfl ?_
          refine b_iload_n dX8_readPerson_64 rfl ?_
          refine b_ialdN dX8_readPerson_65 rfl ⟨by omega, by decide⟩ ?_
          refine b_topi (y := 2) (show k_up _ 8 p _ 8 p = _ from k_up_same _ _ _ _) ?_
          refine b_bipush (v := (-9)) dX8_readPerson_66 (by decide) ?_
          refine b_icmp_ne (tgt := 73) dX8_readPerson_68 (by decide) (fun h68 => ?_) (fun h68 => absurd h68 (by decide))
          have hg3 : goesR (fun x => w.1 3 (S + x)) (5 * p + 3) (5 * p + 4) := goesR.up (f := fun x => w.1 3 (S + x)) (lo := 5 * p + 3) (hi := 5 * p + 3) (fun j a b => absurd b (by omega)) ((goes_2 hc (by omega)).mpr ((gz_3 hp).mpr (Or.inr (Or.inr h50))))
          refine b_aload_n dX8_readPerson_73 rfl ?_
          refine b_dup dX8_readPerson_74 rfl ?_
          refine b_geti dX8_readPerson_75 gf_X8_108 rfl rfl ?_
          refine b_topi (y := nI (S + (5 * p + 3))) ha ?_
          refine b_iconst (v := 1) dX8_readPerson_78 (by decide) ?_
          refine b_iadd dX8_readPerson_79 ?_
          refine b_topi (y := nI (S + (5 * p + 4))) (nI_1 _) ?_
          refine b_puti dX8_readPerson_80 gf_X8_108 gs_X8_10 rfl rfl ?_
          refine b_aload_n dX8_readPerson_83 rfl ?_
          refine b_getr dX8_readPerson_84 gf_X8_35 rfl rfl ?_
          refine b_iload_n dX8_readPerson_87 rfl ?_
          refine b_aload_n dX8_readPerson_88 rfl ?_
          refine b_iload_n dX8_readPerson_89 rfl ?_
          refine b_iconst (v := 1) dX8_readPerson_90 (by decide) ?_
          refine b_bipush (v := 9) dX8_readPerson_91 (by decide) ?_
          refine b_callV3 dX8_readPerson_93 lk_X8_138 rfl rfl rfl ⟨Nat.le_of_ble_eq_true rfl, Nat.le_of_ble_eq_true rfl⟩ (Nat.le_of_ble_eq_true rfl) (s_X8_digit (lo := 1) (hi := 9) rfl (show S + (5 * p + 4) ≤ S + n by omega) hS ⟨by omega, by omega⟩) (fun r w93 h93 => ?_)
          rcases h93 with ⟨d, d1, d2, d3, d4, rfl, rfl⟩ | ⟨hno, rfl, rfl⟩
          all_goals try change w.1 3 (S + (5 * p + 4)) = _ at d4
          · refine b_iastN dX8_readPerson_96 rfl ⟨by omega, by decide⟩ ?_
            refine b_aload_n dX8_readPerson_97 rfl ?_
            refine b_getr dX8_readPerson_98 gf_X8_35 rfl rfl ?_
            refine b_iload_n dX8_readPerson_101 rfl ?_
            refine b_ialdN dX8_readPerson_102 rfl ⟨by omega, by decide⟩ ?_
            refine b_topi (y := nI d) (show k_up _ 9 p _ 9 p = _ from k_up_same _ _ _ _) ?_
            refine b_bipush (v := (-9)) dX8_readPerson_103 (by decide) ?_
            refine b_icmp_ne (tgt := 110) dX8_readPerson_105 (by decide) (fun h105 => ?_) (fun h105 => ?_)
            · refine b_iconst (v := 0) dX8_readPerson_110 (by decide) ?_
              refine b_istore dX8_readPerson_111 (by decide) ?_
              refine b_sub [2, 3, 4, 0] rfl ?_
              have hg4 : goesR (fun x => w.1 3 (S + x)) (5 * p + 3) (5 * p + 5) := hg3.up ((goes_2 hc (by omega)).mpr ((gz_4 hp).mpr ⟨d, d1, d2, d4⟩))
              refine s_rp_0 hS hc hp (kp := 2) (h := d) (fr := fun _ => 0) ⟨rfl, by omega, (((mKc.rf.row (by decide)).num (by decide)).num (by decide)).row (by decide), hr, hg4, ⟨Or.inr (Or.inr ⟨h50, rfl⟩), kset_eq w 8 p (nI 2)⟩, ⟨d1, d2, d4, kset_eq (kset (kset (kset w 8 p (nI 2)) 0 10 (nI (S + (5 * p + 3) + 1))) 0 10 (nI (S + (5 * p + 4) + 1))) 9 p (nI d)⟩, fun i hi => absurd hi (Nat.not_lt_zero _), fun q hq => ?_⟩
              refine ⟨?_, ?_, ?_, ?_⟩
              · exact (kset_ne w (c := 8) (k := p) (c' := 8) (k' := q) _ (by omega))
              · exact (kset_ne (kset (kset (kset w 8 p _) 0 10 _) 0 10 _) (c := 9) (k := p) (c' := 9) (k' := q) _ (by omega))
              · rfl
              · rfl
            · exact absurd h105 (nI_ne9 (by omega))
          · refine b_iastN dX8_readPerson_96 rfl ⟨by omega, by decide⟩ ?_
            refine b_aload_n dX8_readPerson_97 rfl ?_
            refine b_getr dX8_readPerson_98 gf_X8_35 rfl rfl ?_
            refine b_iload_n dX8_readPerson_101 rfl ?_
            refine b_ialdN dX8_readPerson_102 rfl ⟨by omega, by decide⟩ ?_
            refine b_topi (y := (-9)) (show k_up _ 9 p _ 9 p = _ from k_up_same _ _ _ _) ?_
            refine b_bipush (v := (-9)) dX8_readPerson_103 (by decide) ?_
            refine b_icmp_ne (tgt := 110) dX8_readPerson_105 (by decide) (fun h105 => absurd h105 (by decide)) (fun h105 => ?_)
            refine b_iconst (v := 0) dX8_readPerson_108 (by decide) ?_
            refine b_zret (Or.inl rfl) dX8_readPerson_109 rfl (Or.inr ⟨rfl, 5 * p + 4, by omega, by omega, by omega, hg3, fun hlt hg => ?_, rfl, ((mKc.rf.row (by decide)).num (by decide)).row (by decide)⟩)
            exact hno (by omega) ((gz_4 hp).mp ((goes_2 hc (by omega)).mp hg))
      · refine b_iconst (v := 1) dX8_readPerson_43 (by decide) ?_
        refine b_goto (tgt := 59) dX8_readPerson_44 (by decide) ?_
        refine b_iastN dX8_readPerson_59 rfl ⟨by omega, by decide⟩ ?_
        refine b_aload_n dX8_readPerson_60 rfl ?_
        refine b_getr dX8_readPerson_61 gf_X8_32 rfl rfl ?_
        refine b_iload_n dX8_readPerson_64 rfl ?_
        refine b_ialdN dX8_readPerson_65 rfl ⟨by omega, by decide⟩ ?_
        refine b_topi (y := 1) (show k_up _ 8 p _ 8 p = _ from k_up_same _ _ _ _) ?_
        refine b_bipush (v := (-9)) dX8_readPerson_66 (by decide) ?_
        refine b_icmp_ne (tgt := 73) dX8_readPerson_68 (by decide) (fun h68 => ?_) (fun h68 => absurd h68 (by decide))
        have hg3 : goesR (fun x => w.1 3 (S + x)) (5 * p + 3) (5 * p + 4) := goesR.up (f := fun x => w.1 3 (S + x)) (lo := 5 * p + 3) (hi := 5 * p + 3) (fun j a b => absurd b (by omega)) ((goes_2 hc (by omega)).mpr ((gz_3 hp).mpr (Or.inr (Or.inl h40))))
        refine b_aload_n dX8_readPerson_73 rfl ?_
        refine b_dup dX8_readPerson_74 rfl ?_
        refine b_geti dX8_readPerson_75 gf_X8_108 rfl rfl ?_
        refine b_topi (y := nI (S + (5 * p + 3))) ha ?_
        refine b_iconst (v := 1) dX8_readPerson_78 (by decide) ?_
        refine b_iadd dX8_readPerson_79 ?_
        refine b_topi (y := nI (S + (5 * p + 4))) (nI_1 _) ?_
        refine b_puti dX8_readPerson_80 gf_X8_108 gs_X8_10 rfl rfl ?_
        refine b_aload_n dX8_readPerson_83 rfl ?_
        refine b_getr dX8_readPerson_84 gf_X8_35 rfl rfl ?_
        refine b_iload_n dX8_readPerson_87 rfl ?_
        refine b_aload_n dX8_readPerson_88 rfl ?_
        refine b_iload_n dX8_readPerson_89 rfl ?_
        refine b_iconst (v := 1) dX8_readPerson_90 (by decide) ?_
        refine b_bipush (v := 9) dX8_readPerson_91 (by decide) ?_
        refine b_callV3 dX8_readPerson_93 lk_X8_138 rfl rfl rfl ⟨Nat.le_of_ble_eq_true rfl, Nat.le_of_ble_eq_true rfl⟩ (Nat.le_of_ble_eq_true rfl) (s_X8_digit (lo := 1) (hi := 9) rfl (show S + (5 * p + 4) ≤ S + n by omega) hS ⟨by omega, by omega⟩) (fun r w93 h93 => ?_)
        rcases h93 with ⟨d, d1, d2, d3, d4, rfl, rfl⟩ | ⟨hno, rfl, rfl⟩
        all_goals try change w.1 3 (S + (5 * p + 4)) = _ at d4
        · refine b_iastN dX8_readPerson_96 rfl ⟨by omega, by decide⟩ ?_
          refine b_aload_n dX8_readPerson_97 rfl ?_
          refine b_getr dX8_readPerson_98 gf_X8_35 rfl rfl ?_
          refine b_iload_n dX8_readPerson_101 rfl ?_
          refine b_ialdN dX8_readPerson_102 rfl ⟨by omega, by decide⟩ ?_
          refine b_topi (y := nI d) (show k_up _ 9 p _ 9 p = _ from k_up_same _ _ _ _) ?_
          refine b_bipush (v := (-9)) dX8_readPerson_103 (by decide) ?_
          refine b_icmp_ne (tgt := 110) dX8_readPerson_105 (by decide) (fun h105 => ?_) (fun h105 => ?_)
          · refine b_iconst (v := 0) dX8_readPerson_110 (by decide) ?_
            refine b_istore dX8_readPerson_111 (by decide) ?_
            refine b_sub [2, 3, 4, 0] rfl ?_
            have hg4 : goesR (fun x => w.1 3 (S + x)) (5 * p + 3) (5 * p + 5) := hg3.up ((goes_2 hc (by omega)).mpr ((gz_4 hp).mpr ⟨d, d1, d2, d4⟩))
            refine s_rp_0 hS hc hp (kp := 1) (h := d) (fr := fun _ => 0) ⟨rfl, by omega, (((mKc.rf.row (by decide)).num (by decide)).num (by decide)).row (by decide), hr, hg4, ⟨Or.inr (Or.inl ⟨h40, rfl⟩), kset_eq w 8 p (nI 1)⟩, ⟨d1, d2, d4, kset_eq (kset (kset (kset w 8 p (nI 1)) 0 10 (nI (S + (5 * p + 3) + 1))) 0 10 (nI (S + (5 * p + 4) + 1))) 9 p (nI d)⟩, fun i hi => absurd hi (Nat.not_lt_zero _), fun q hq => ?_⟩
            refine ⟨?_, ?_, ?_, ?_⟩
            · exact (kset_ne w (c := 8) (k := p) (c' := 8) (k' := q) _ (by omega))
            · exact (kset_ne (kset (kset (kset w 8 p _) 0 10 _) 0 10 _) (c := 9) (k := p) (c' := 9) (k' := q) _ (by omega))
            · rfl
            · rfl
          · exact absurd h105 (nI_ne9 (by omega))
        · refine b_iastN dX8_readPerson_96 rfl ⟨by omega, by decide⟩ ?_
          refine b_aload_n dX8_readPerson_97 rfl ?_
          refine b_getr dX8_readPerson_98 gf_X8_35 rfl rfl ?_
          refine b_iload_n dX8_readPerson_101 rfl ?_
          refine b_ialdN dX8_readPerson_102 rfl ⟨by omega, by decide⟩ ?_
          refine b_topi (y := (-9)) (show k_up _ 9 p _ 9 p = _ from k_up_same _ _ _ _) ?_
          refine b_bipush (v := (-9)) dX8_readPerson_103 (by decide) ?_
          refine b_icmp_ne (tgt := 110) dX8_readPerson_105 (by decide) (fun h105 => absurd h105 (by decide)) (fun h105 => ?_)
          refine b_iconst (v := 0) dX8_readPerson_108 (by decide) ?_
          refine b_zret (Or.inl rfl) dX8_readPerson_109 rfl (Or.inr ⟨rfl, 5 * p + 4, by omega, by omega, by omega, hg3, fun hlt hg => ?_, rfl, ((mKc.rf.row (by decide)).num (by decide)).row (by decide)⟩)
          exact hno (by omega) ((gz_4 hp).mp ((goes_2 hc (by omega)).mp hg))
    · refine b_iconst (v := 0) dX8_readPerson_33 (by decide) ?_
      refine b_goto (tgt := 59) dX8_readPerson_34 (by decide) ?_
      refine b_iastN dX8_readPerson_59 rfl ⟨by omega, by decide⟩ ?_
      refine b_aload_n dX8_readPerson_60 rfl ?_
      refine b_getr dX8_readPerson_61 gf_X8_32 rfl rfl ?_
      refine b_iload_n dX8_readPerson_64 rfl ?_
      refine b_ialdN dX8_readPerson_65 rfl ⟨by omega, by decide⟩ ?_
      refine b_topi (y := 0) (show k_up _ 8 p _ 8 p = _ from k_up_same _ _ _ _) ?_
      refine b_bipush (v := (-9)) dX8_readPerson_66 (by decide) ?_
      refine b_icmp_ne (tgt := 73) dX8_readPerson_68 (by decide) (fun h68 => ?_) (fun h68 => absurd h68 (by decide))
      have hg3 : goesR (fun x => w.1 3 (S + x)) (5 * p + 3) (5 * p + 4) := goesR.up (f := fun x => w.1 3 (S + x)) (lo := 5 * p + 3) (hi := 5 * p + 3) (fun j a b => absurd b (by omega)) ((goes_2 hc (by omega)).mpr ((gz_3 hp).mpr (Or.inl h30)))
      refine b_aload_n dX8_readPerson_73 rfl ?_
      refine b_dup dX8_readPerson_74 rfl ?_
      refine b_geti dX8_readPerson_75 gf_X8_108 rfl rfl ?_
      refine b_topi (y := nI (S + (5 * p + 3))) ha ?_
      refine b_iconst (v := 1) dX8_readPerson_78 (by decide) ?_
      refine b_iadd dX8_readPerson_79 ?_
      refine b_topi (y := nI (S + (5 * p + 4))) (nI_1 _) ?_
      refine b_puti dX8_readPerson_80 gf_X8_108 gs_X8_10 rfl rfl ?_
      refine b_aload_n dX8_readPerson_83 rfl ?_
      refine b_getr dX8_readPerson_84 gf_X8_35 rfl rfl ?_
      refine b_iload_n dX8_readPerson_87 rfl ?_
      refine b_aload_n dX8_readPerson_88 rfl ?_
      refine b_iload_n dX8_readPerson_89 rfl ?_
      refine b_iconst (v := 1) dX8_readPerson_90 (by decide) ?_
      refine b_bipush (v := 9) dX8_readPerson_91 (by decide) ?_
      refine b_callV3 dX8_readPerson_93 lk_X8_138 rfl rfl rfl ⟨Nat.le_of_ble_eq_true rfl, Nat.le_of_ble_eq_true rfl⟩ (Nat.le_of_ble_eq_true rfl) (s_X8_digit (lo := 1) (hi := 9) rfl (show S + (5 * p + 4) ≤ S + n by omega) hS ⟨by omega, by omega⟩) (fun r w93 h93 => ?_)
      rcases h93 with ⟨d, d1, d2, d3, d4, rfl, rfl⟩ | ⟨hno, rfl, rfl⟩
      all_goals try change w.1 3 (S + (5 * p + 4)) = _ at d4
      · refine b_iastN dX8_readPerson_96 rfl ⟨by omega, by decide⟩ ?_
        refine b_aload_n dX8_readPerson_97 rfl ?_
        refine b_getr dX8_readPerson_98 gf_X8_35 rfl rfl ?_
        refine b_iload_n dX8_readPerson_101 rfl ?_
        refine b_ialdN dX8_readPerson_102 rfl ⟨by omega, by decide⟩ ?_
        refine b_topi (y := nI d) (show k_up _ 9 p _ 9 p = _ from k_up_same _ _ _ _) ?_
        refine b_bipush (v := (-9)) dX8_readPerson_103 (by decide) ?_
        refine b_icmp_ne (tgt := 110) dX8_readPerson_105 (by decide) (fun h105 => ?_) (fun h105 => ?_)
        · refine b_iconst (v := 0) dX8_readPerson_110 (by decide) ?_
          refine b_istore dX8_readPerson_111 (by decide) ?_
          refine b_sub [2, 3, 4, 0] rfl ?_
          have hg4 : goesR (fun x => w.1 3 (S + x)) (5 * p + 3) (5 * p + 5) := hg3.up ((goes_2 hc (by omega)).mpr ((gz_4 hp).mpr ⟨d, d1, d2, d4⟩))
          refine s_rp_0 hS hc hp (kp := 0) (h := d) (fr := fun _ => 0) ⟨rfl, by omega, (((mKc.rf.row (by decide)).num (by decide)).num (by decide)).row (by decide), hr, hg4, ⟨Or.inl ⟨h30, rfl⟩, kset_eq w 8 p (nI 0)⟩, ⟨d1, d2, d4, kset_eq (kset (kset (kset w 8 p (nI 0)) 0 10 (nI (S + (5 * p + 3) + 1))) 0 10 (nI (S + (5 * p + 4) + 1))) 9 p (nI d)⟩, fun i hi => absurd hi (Nat.not_lt_zero _), fun q hq => ?_⟩
          refine ⟨?_, ?_, ?_, ?_⟩
          · exact (kset_ne w (c := 8) (k := p) (c' := 8) (k' := q) _ (by omega))
          · exact (kset_ne (kset (kset (kset w 8 p _) 0 10 _) 0 10 _) (c := 9) (k := p) (c' := 9) (k' := q) _ (by omega))
          · rfl
          · rfl
        · exact absurd h105 (nI_ne9 (by omega))
      · refine b_iastN dX8_readPerson_96 rfl ⟨by omega, by decide⟩ ?_
        refine b_aload_n dX8_readPerson_97 rfl ?_
        refine b_getr dX8_readPerson_98 gf_X8_35 rfl rfl ?_
        refine b_iload_n dX8_readPerson_101 rfl ?_
        refine b_ialdN dX8_readPerson_102 rfl ⟨by omega, by decide⟩ ?_
        refine b_topi (y := (-9)) (show k_up _ 9 p _ 9 p = _ from k_up_same _ _ _ _) ?_
        refine b_bipush (v := (-9)) dX8_readPerson_103 (by decide) ?_
        refine b_icmp_ne (tgt := 110) dX8_readPerson_105 (by decide) (fun h105 => absurd h105 (by decide)) (fun h105 => ?_)
        refine b_iconst (v := 0) dX8_readPerson_108 (by decide) ?_
        refine b_zret (Or.inl rfl) dX8_readPerson_109 rfl (Or.inr ⟨rfl, 5 * p + 4, by omega, by omega, by omega, hg3, fun hlt hg => ?_, rfl, ((mKc.rf.row (by decide)).num (by decide)).row (by decide)⟩)
        exact hno (by omega) ((gz_4 hp).mp ((goes_2 hc (by omega)).mp hg))
