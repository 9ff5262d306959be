/-! ===== what the class answers in the law's world ===== -/
/-- the sheets, the fault: what else may change -/
def gAx (g g' : kW) : Prop := (∀ j, j ≠ 0 → j ≠ 1 → j ≠ 2 → j ≠ 3 → g'.1 j = g.1 j) ∧ ∀ k, k ≠ 0 → g'.1 0 k = g.1 0 k
theorem gAx.rf {g : kW} : gAx g g := ⟨fun _ _ _ _ _ => rfl, fun _ _ => rfl⟩
theorem gAx.tr {g v u : kW} (h1 : gAx g v) (h2 : gAx v u) : gAx g u := ⟨fun j a b c d => (h2.1 j a b c d).trans (h1.1 j a b c d), fun k a => (h2.2 k a).trans (h1.2 k a)⟩
theorem gAx.peq {c : Nat} {g g' : kW} (h : gAx g g') : PEq c g g' := ⟨fun j a b => h.1 j (by omega) (by omega) (by omega) (by omega), fun j k a b _ => by rw [h.1 j (by omega) (by omega) (by omega) (by omega)], h.2 5 (by decide), h.2 15 (by decide), fun k _ => by rw [h.2 20 (by decide)]⟩
theorem gL.aux {n c n' c' q' : Nat} {W W' g g' : kW} (h : gL n c W g) (hx : gAx g g') (hr : Rel n' c' q' W' g') (e : ∀ j, 39 ≤ j → W'.1 j = W.1 j) : gL n c W' g' := by
  have hl := h.le
  obtain ⟨a5, b5⟩ := h.num
  obtain ⟨-, h2, h3, h4, h5, h6⟩ := h
  obtain ⟨rfl, rfl⟩ := hr.nn (n' := n) (c' := c) ((hx.2 5 (by decide)).trans a5) (by omega) ((hx.2 15 (by decide)).trans b5) (by omega)
  refine ⟨⟨q', hr⟩, h2.of hr.1.1 (hx.1 4 (by decide) (by decide) (by decide) (by decide)) (hx.1 5 (by decide) (by decide) (by decide) (by decide)) (hx.1 6 (by decide) (by decide) (by decide) (by decide)) (fun k _ => by rw [e 39 (by decide)]) (fun p hp => ?_), ?_, by rw [e 39 (by decide)]; exact h4, by rw [e 39 (by decide)]; exact h5, h6⟩
  · rw [e 39 (by decide), hx.1 7 (by decide) (by decide) (by decide) (by decide)]
    exact h2.2.2.2 p hp
  · unfold gIn at *
    rw [e 40 (by decide), hx.1 11 (by decide) (by decide) (by decide) (by decide), hx.1 12 (by decide) (by decide) (by decide) (by decide), hx.1 13 (by decide) (by decide) (by decide) (by decide), hx.1 14 (by decide) (by decide) (by decide) (by decide)]
    exact h3
theorem gL.ins0 {n c : Nat} {W g : kW} (h : gL n c W g) : Ins n c g ∧ Pn n g ∧ g.1 0 20 = 0 := by
  obtain ⟨⟨q, h⟩, -⟩ := h
  exact ⟨h.1.2.1, h.1.1, h.1.2.2.2.2.1⟩
theorem gL.n0 {n c : Nat} {W g : kW} (h : gL n c W g) : ¬ g.1 0 5 = 0 := by
  have := h.le
  rw [h.num.1]
  exact nI_ne0 (by have := h.2.2.2.2.2; omega) (by omega)
theorem gL.isP {n c p : Nat} {W g : kW} (h : gL n c W g) (hp : p < n) : isPr g (nI p) := by
  have := h.le
  exact ⟨nI_pos (by omega), by rw [h.num.1]; exact nI_lt hp (by omega)⟩
theorem gL.noP {n c : Nat} {W g : kW} (h : gL n c W g) : ¬ isPr g (nI n) := fun z => by
  have := z.2
  rw [h.num.1] at this
  exact Int32.lt_irrefl this
theorem gL.P0 {n c : Nat} {W g : kW} (h : gL n c W g) : isPr g 0 := h.isP (p := 0) (by have := h.2.2.2.2.2; omega)
theorem gL.P1 {n c : Nat} {W g : kW} (h : gL n c W g) : isPr g 1 := h.isP (p := 1) (by have := h.2.2.2.2.2; omega)
theorem mGo_28 {n c d : Nat} {g : kW} : (mGo n c g d).1 0 28 = (mAhead n c g d).1 0 28 := kset_ne _ _ (by decide)
theorem A_many_3 {n c : Nat} {W g : kW} (h : gL n c W g) : A_many n c g 3 = (mAhead n c g 60).1 0 28 := by
  rw [A_many, if_pos rfl, if_neg h.n0, mGo_28]
theorem A_meetings_d {n c d : Nat} {W g : kW} (h : gL n c W g) (hd : d < 60) : A_meetings n c g (nI d) = (mAhead n c g (d + 1)).1 0 28 := by
  rw [A_meetings, if_pos (dawn_in hd), if_neg h.n0, dn_nI (by omega), mGo_28]
theorem A_met_k {n c k j m : Nat} {W g : kW} (h : gL n c W g) (hm : (mAhead n c g 60).1 0 28 = nI m) (hm2 : m < 200) (hk : k < m) (hj : j < 6) : A_met n c g (nI k) (nI j) = (mAhead n c g 60).1 (20 + j) k := by
  have hm3 : (mGo n c g 60).1 0 28 = nI m := mGo_28.trans hm
  rw [A_met, if_neg, if_pos ⟨nI_pos' (by omega), nI_le (b := 5) (by omega) (by omega)⟩, dn_nI (by omega), dn_nI (by omega)]
  · unfold mGo
    rw [kset_ne _ _ (by omega)]
  · rintro (z | z | z)
    · exact nI_pos (by omega) z
    · rw [hm3] at z; exact nI_ge hk (by omega) z
    · exact h.n0 z
theorem A_met_m {n c m : Nat} {W g : kW} (h : gL n c W g) (hm : (mAhead n c g 60).1 0 28 = nI m) : A_met n c g (nI m) 0 = -1 := by
  have hm3 : (mGo n c g 60).1 0 28 = nI m := mGo_28.trans hm
  rw [A_met, if_pos (Or.inr (Or.inl (by rw [hm3]; exact Int32.le_refl _)))]
theorem A_met_1 {n c : Nat} {g : kW} : A_met n c g (-1) 0 = -1 := by rw [A_met, if_pos (Or.inl (by decide))]
theorem mAhead_7 {n c d : Nat} {W g : kW} (h : gL n c W g) (hd : d ≤ 60) : (mAhead n c g d).1 7 = g.1 7 := (mAhead_inv h.ins0.2.1 h.ins0.1 d hd).2.1 7 (by decide) (by decide)
/-- free at a dawn -/
def fr1 (n c : Nat) (g : kW) (p s : Nat) : Prop := g.1 7 p = 0 ∧ (mAhead n c g s).1 15 p ≤ nI s
theorem mFree_fr1 {n c d p : Nat} {W g : kW} (h : gL n c W g) (hd : d ≤ 60) : mFree (mGo n c g d) p (nI d) ↔ fr1 n c g p d := by
  have e7 : (mGo n c g d).1 7 p = g.1 7 p := by
    show (mAhead n c g d).1 7 p = _
    rw [mAhead_7 h hd]
  have e15 : (mGo n c g d).1 15 p = (mAhead n c g d).1 15 p := rfl
  have e22 : (mGo n c g d).1 0 22 = 0 := kset_eq _ _ _ _
  unfold mFree fr1
  rw [e7, e15, e22, b_0]
  simp
theorem A_free_p {n c d p : Nat} {W g : kW} (h : gL n c W g) (hd : d < 60) (hp : p < n) (b : Bool) (hb : b = true ↔ fr1 n c g p d) : A_free n c g (nI p) (nI d) = if b = true then 1 else 0 := by
  have := h.le
  rw [A_free, if_pos (h.isP hp), if_pos (dawn_in hd), dn_nI (by omega), dn_nI (by omega)]
  by_cases z : fr1 n c g p d
  · rw [if_pos ((mFree_fr1 h (by omega)).mpr z), if_pos (hb.mpr z)]
  · rw [if_neg (fun y => z ((mFree_fr1 h (by omega)).mp y)), if_neg (fun y => z (hb.mp y))]
theorem gPn.go {n c d : Nat} {W g : kW} (h : gL n c W g) (hd : d ≤ 60) : gPn n W (mGo n c g d) := h.2.1.keep rfl (mGo_keep h.ins0.2.1 h.ins0.1 hd)
theorem A_second_p {n c d p o : Nat} {W g : kW} (h : gL n c W g) (hd : d < 60) (hp : p < n) (ho : o < n) (hpo : p ≠ o) (hr : ∀ p, p < n → W.1 41 (8 + p) = (mAhead n c g d).1 15 p) : A_second n c g (nI p) (nI o) (nI d) = oI (lSec W (mGo n c g d) p (nI o) 0 (nI d)) := by
  have := h.le
  rw [A_second, if_pos ⟨h.isP hp, h.isP ho, fun z => hpo (nI_inj (by omega) (by omega) z)⟩, if_pos (dawn_in hd), dn_nI (by omega), dn_nI (by omega)]
  rw [lsec1 (gPn.go h (by omega)) ho hp (kset_eq _ _ _ _).symm (fun p hp => hr p hp)]
theorem A_second_e {n c d p : Nat} {W g : kW} (h : gL n c W g) : A_second n c g (nI p) (nI p) (nI d) = -1 := by
  rw [A_second, if_neg (fun z => z.2.2 rfl)]
theorem gL.un {n c : Nat} {x : Int32} {W g : kW} (h : gL n c W g) : gPn n W (kset g 0 20 x) ∧ gIn c W (kset g 0 20 x) ∧ Ins n c (kset g 0 20 x) := ⟨h.2.1.of (h.ins0.2.1.un) rfl rfl rfl (fun _ _ => rfl) h.2.1.2.2.2, h.2.2.1, h.ins0.1.un⟩
theorem i32_w (a x y : Int32) : a + x - y = x - y + a := by
  rw [Int32.sub_eq_add_neg, Int32.sub_eq_add_neg, Int32.add_assoc, Int32.add_comm]
theorem A_worth_k {n c k : Nat} {W g : kW} (h : gL n c W g) (hk : k < c) : A_worth n c g (nI k) = (1000 : Int32) + (mAhead n c g 60).1 0 28 - (mAhead n c (kset g 0 20 (1 <<< (nI k &&& 31))) 60).1 0 28 := by
  have := h.le
  rw [A_worth, if_pos ⟨nI_pos (by omega), by rw [h.num.2]; exact nI_lt hk (by omega)⟩, i32_w, mGo_28, mGo_28]
/-! wrong calls -/
theorem x_of1 {n c : Nat} {W g : kW} (h : gL n c W g) : R_ofPerson g (nI n) 0 = (-1, g) := by rw [R_ofPerson, if_neg h.noP]
theorem x_of2 {n c : Nat} {W g : kW} (h : gL n c W g) : R_ofPerson g 0 6 = (-2, g) := by rw [R_ofPerson, if_pos h.P0, if_neg (by decide)]
theorem x_in1 {n c : Nat} {W g : kW} (h : gL n c W g) : R_insult g (nI n) 0 0 1 = (-1, g) := by rw [R_insult, if_neg (fun z => h.noP z.1)]
theorem x_in2 {n c : Nat} {W g : kW} (h : gL n c W g) : R_insult g 0 0 0 1 = (-1, g) := by rw [R_insult, if_neg (fun z => z.2.2 rfl)]
theorem x_in3 {n c : Nat} {d e : Int32} {W g : kW} (h : gL n c W g) (hd : ¬ isDayDeg d e) : R_insult g 0 1 d e = (-2, g) := by rw [R_insult, if_pos ⟨h.P0, h.P1, by decide⟩, if_neg hd]
theorem x_so1 {n c : Nat} {W g : kW} (h : gL n c W g) : R_sorry g (nI (c + 1)) = (-2, g) := by
  have := h.le
  rw [R_sorry, h.num.2, if_neg (fun z => nI_ge (Nat.lt_succ_self c) (by omega) z.2)]
theorem x_so2 {g : kW} : R_sorry g (-1) = (-2, g) := by rw [R_sorry, if_neg (fun z => absurd z.1 (by decide))]
theorem x_ar {n c : Nat} {W g : kW} (h : gL n c W g) : R_arrest g (nI n) 1 = (-1, g) := by rw [R_arrest, if_neg h.noP]
theorem x_me {n c : Nat} {d : Int32} {g : kW} (h : ¬ isDw d) : A_meetings n c g d = -2 := by rw [A_meetings, if_neg h]
theorem x_fr1 {n c : Nat} {W g : kW} (h : gL n c W g) : A_free n c g (nI n) 0 = -1 := by rw [A_free, if_neg h.noP]
theorem x_fr2 {n c : Nat} {W g : kW} (h : gL n c W g) : A_free n c g 0 60 = -2 := by rw [A_free, if_pos h.P0, if_neg (by decide)]
theorem x_se1 {n c : Nat} {g : kW} : A_second n c g 0 0 0 = -1 := by rw [A_second, if_neg (fun z => z.2.2 rfl)]
theorem x_se2 {n c : Nat} {W g : kW} (h : gL n c W g) : A_second n c g 0 (nI n) 0 = -1 := by rw [A_second, if_neg (fun z => h.noP z.2.1)]
theorem x_se3 {n c : Nat} {W g : kW} (h : gL n c W g) : A_second n c g 0 1 60 = -2 := by rw [A_second, if_pos ⟨h.P0, h.P1, by decide⟩, if_neg (by decide)]
theorem x_wo {n c : Nat} {W g : kW} (h : gL n c W g) : A_worth n c g (nI c) = -1 := by rw [A_worth, if_neg (fun z => by have := z.2; rw [h.num.2] at this; exact Int32.lt_irrefl this)]
/-! persons -/
theorem o_p {n c p : Nat} {W g : kW} {x : Int32} (h : gL n c W g) (hp : p < n) (hx : 0 ≤ x ∧ x ≤ 5) : R_ofPerson g (nI p) x = (if x = 0 then g.1 4 p else if x = 1 then g.1 5 p else if x = 2 then g.1 6 (2 * p) else if x = 3 then g.1 6 (2 * p + 1) else if x = 4 then mTouch g p else if g.1 7 p = 0 then 0 else 1, g) := by
  have := h.le
  rw [R_ofPerson, if_pos (h.isP hp), if_pos hx, dn_nI (by omega)]
/-! rows of seconds -/
theorem up_R {n c q : Nat} {k s i m : Int32} {W W' g : kW} {r : Option Value} (hh : Rel n c q W g) (h : ∃ w1, (∃ v f, RowA n c g k s i m v f ∧ r = some (.int v) ∧ cK2 (kset W 0 6 f) w1) ∧ W' = k_mix shC w1 W) : ∃ v f, RowA n c g k s i m v f ∧ r = some (.int v) ∧ Rel n c q W' (kset g 0 0 f) ∧ ∀ j, 39 ≤ j → W'.1 j = W.1 j := by
  obtain ⟨w1, ⟨v, f, h1, h2, h3⟩, rfl⟩ := h
  exact ⟨v, f, h1, h2, (hh.flt.k2 h3).cg (fun j hj => mix_lt hj), fun j hj => mix_ge hj⟩
theorem gAx.flt {g : kW} {f : Int32} : gAx g (kset g 0 0 f) := ⟨fun j a _ _ _ => kset_row _ _ _ _ a, fun k a => kset_ne _ _ (Or.inr a)⟩
theorem rowU {n c : Nat} {g : kW} {k s i m v f : Int32} (h : RowA n c g k s i m v f) (hk : ¬ isS k) : v = -1 := by
  rcases h with ⟨-, h, -⟩ | ⟨a, -⟩ | ⟨a, -⟩ | ⟨a, -⟩ | ⟨a, -⟩ | ⟨a, -⟩
  · exact h
  all_goals exact absurd a hk
theorem rowO {n c : Nat} {g : kW} {k s i m v f : Int32} (h : RowA n c g k s i m v f) (hk : isS k) (hs : ¬ isT s) : v = -2 := by
  rcases h with ⟨a, -⟩ | ⟨-, -, h, -⟩ | ⟨-, a, -⟩ | ⟨-, a, -⟩ | ⟨-, a, -⟩ | ⟨-, a, -⟩
  · exact absurd hk a
  · exact h
  all_goals exact absurd a hs
theorem rowF {n c : Nat} {g : kW} {k s i m v f : Int32} (h : RowA n c g k s i m v f) (hk : isS k) (hs : isT s) (hm : ¬ mAg g (dn k) s i m = 0) : v = -10 - mAg g (dn k) s i m := by
  rcases h with ⟨a, -⟩ | ⟨-, a, -⟩ | ⟨-, -, -, h, -⟩ | ⟨-, -, a, -⟩ | ⟨-, -, a, -⟩ | ⟨-, -, a, -⟩
  · exact absurd hk a
  · exact absurd hs a
  · exact h
  all_goals exact absurd a hm
theorem rowP {n c s0 : Nat} {g : kW} {k s i m v f : Int32} (h : RowA n c g k s i m v f) (hk : isS k) (hs : isT s) (hm : mAg g (dn k) s i m = 0) (h0 : ¬ g.1 0 5 = 0) (h1 : s0 < dn m) (h2 : ¬ isPr g (txt g k i s0)) : v = -1 := by
  rcases h with ⟨a, -⟩ | ⟨-, a, -⟩ | ⟨-, -, a, -⟩ | ⟨-, -, -, a, -⟩ | ⟨-, -, -, -, -, h, -⟩ | ⟨-, -, -, -, a, -⟩
  · exact absurd hk a
  · exact absurd hs a
  · exact absurd hm a
  · exact absurd a h0
  · exact h
  · exact absurd (a s0 h1) h2
theorem rowT {n c t : Nat} {g : kW} {k s i m v f : Int32} (h : RowA n c g k s i m v f) (hk : isS k) (hs : isT s) (hm : mAg g (dn k) s i m = 0) (h0 : ¬ g.1 0 5 = 0) (h1 : ∀ s, s < dn m → isPr g (txt g k i s)) (h2 : FstP (frAt n c g (txt g k i)) (dn m) t) : v = nI t := by
  rcases h with ⟨a, -⟩ | ⟨-, a, -⟩ | ⟨-, -, a, -⟩ | ⟨-, -, -, a, -⟩ | ⟨-, -, -, -, ⟨s0, a, b⟩, -⟩ | ⟨-, -, -, -, -, ⟨t', a, b⟩, -⟩
  · exact absurd hk a
  · exact absurd hs a
  · exact absurd hm a
  · exact absurd a h0
  · exact absurd (h1 s0 a) b
  · rw [FstP_inj h2 a]; exact b
/-- sheet 1 is of shorts, twelve of them; sheet 2 has nothing -/
def gS1 (g : kW) : Prop := g.1 1 1 = 1 ∧ g.1 2 1 = nI 12 ∧ g.1 1 2 = -9
theorem R_sheet_1 {g : kW} : R_sheet g 1 1 12 = (1, zeroC (kset (kset (kset g 0 0 0) 1 1 1) 2 1 12) 1 50) := by
  rw [R_sheet, if_pos (show isS 1 from ⟨by decide, by decide⟩), if_pos ⟨show isT 1 from ⟨by decide, by decide⟩, by decide⟩, if_pos (by decide)]
  rfl
theorem gS1.of {g : kW} (h : g.1 1 2 = -9) : gS1 (zeroC (kset (kset (kset g 0 0 0) 1 1 1) 2 1 12) 1 50) ∧ gAx g (zeroC (kset (kset (kset g 0 0 0) 1 1 1) 2 1 12) 1 50) := by
  refine ⟨⟨?_, ?_, ?_⟩, fun j a b c d => ?_, fun k a => ?_⟩
  · rw [zeroC_row (by decide)]; rfl
  · rw [zeroC_row (by decide)]; rfl
  · rw [zeroC_row (by decide)]; exact h
  · rw [zeroC_row d, kset_row _ _ _ _ c, kset_row _ _ _ _ b, kset_row _ _ _ _ a]
  · rw [zeroC_row (by decide), kset_row _ _ _ _ (by decide), kset_row _ _ _ _ (by decide), kset_ne _ _ (Or.inr a)]
theorem mCut_1 : ∀ v, v < 128 → mCut 1 (nI v) = nI v := by decide +kernel
theorem R_put_1 {g : kW} {i v : Nat} (h : gS1 g) (hi : i < 12) (hv : v < 128) : R_put g 1 (nI i) (nI v) = (1, kset (kset g 0 0 0) 3 (50 + i) (nI v)) := by
  have e0 : dn 1 = 1 := rfl
  rw [R_put, if_pos (show isS 1 from ⟨by decide, by decide⟩), e0, h.1, if_neg (by decide), h.2.1, if_pos ⟨nI_pos' (by omega), by rw [show nI 12 - 1 = nI 11 from nI_pred 11]; exact nI_le (by omega) (by omega)⟩, mCut_1 v hv, dn_nI (by omega)]
theorem gS1.put {g : kW} {i : Nat} {v : Int32} (h : gS1 g) : gS1 (kset (kset g 0 0 0) 3 i v) ∧ gAx g (kset (kset g 0 0 0) 3 i v) := ⟨⟨h.1, h.2.1, h.2.2⟩, fun j a b c d => by rw [kset_row _ _ _ _ d, kset_row _ _ _ _ a], fun k a => by rw [kset_ne _ _ (Or.inl (by decide)), kset_ne _ _ (Or.inr a)]⟩
theorem mAg_1 {g : kW} {m : Nat} (h : gS1 g) (hm : m ≤ 10) : mAg g (dn 1) 1 2 (nI m) = 0 := by
  have e0 : dn 1 = 1 := rfl
  rw [mAg, e0, h.1, if_neg (by decide), if_neg (by decide), if_pos (nI_pos' (by omega)), h.2.1, if_pos ⟨by decide, by decide, by rw [show nI 12 - 2 = nI 10 from by decide]; exact nI_le hm (by omega)⟩]
theorem txt_1 {g : kW} {x : Nat} : txt g 1 2 x = g.1 3 (52 + x) := rfl
theorem fr1_ax {n c p s : Nat} {W g g' : kW} (h : gL n c W g) (hx : gAx g g') (hp : p < n) (hs : s ≤ 60) : fr1 n c g' p s ↔ fr1 n c g p s := by
  obtain ⟨t, m, -, -, -, -, -, -, hq⟩ := mAhead_sq h.ins0.2.1 h.ins0.1 (hx.peq (c := c)) s hs
  unfold fr1
  rw [hx.1 7 (by decide) (by decide) (by decide) (by decide), hq.2.1 p hp]
