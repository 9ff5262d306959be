/-! ===== the text that the law lays ===== -/
def gSh (W g : kW) : Prop := (∃ n c q, Rel n c q W g) ∧ g.1 1 0 = 0 ∧ g.1 2 0 = nI 50 ∧ g.1 1 2 = -9
theorem R_sheet_0 {g : kW} : R_sheet g 0 0 50 = (1, zeroC (kset (kset (kset g 0 0 0) 1 0 0) 2 0 50) 0 50) := by
  rw [R_sheet, if_pos (show isS 0 from ⟨by decide, by decide⟩), if_pos ⟨show isT 0 from ⟨by decide, by decide⟩, by decide⟩, if_pos (by decide)]
  rfl
theorem gSh.of0 {W' g : kW} (h9 : g.1 1 2 = -9) (h : ∃ n c q, Rel n c q W' (R_sheet g 0 0 50).2) : gSh W' (zeroC (kset (kset (kset g 0 0 0) 1 0 0) 2 0 50) 0 50) := by
  rw [R_sheet_0] at h
  refine ⟨h, ?_, ?_, ?_⟩
  · rw [zeroC_row (by decide)]; rfl
  · rw [zeroC_row (by decide)]; rfl
  · rw [zeroC_row (by decide)]; exact h9
theorem mCut_0 : ∀ v, v < 128 → mCut 0 (nI v) = nI v := by decide +kernel
theorem R_put_0 {W g : kW} {i v : Nat} (h : gSh W g) (hi : i < 50) (hv : v < 128) : R_put g 0 (nI i) (nI v) = (1, kset (kset g 0 0 0) 3 i (nI v)) := by
  have e0 : dn 0 = 0 := rfl
  rw [R_put, if_pos (show isS 0 from ⟨by decide, by decide⟩), e0, h.2.1, if_neg (by decide), h.2.2.1, if_pos ⟨nI_pos' (by omega), by rw [show nI 50 - 1 = nI 49 from nI_pred 49]; exact nI_le (by omega) (by omega)⟩, mCut_0 v hv, dn_nI (by omega)]
  simp
theorem gSh.put {W g W' : kW} {i : Nat} {v : Int32} (h : gSh W g) (hr : ∃ n c q, Rel n c q W' (kset (kset g 0 0 0) 3 i v)) : gSh W' (kset (kset g 0 0 0) 3 i v) := ⟨hr, h.2.1, h.2.2.1, h.2.2.2⟩
/-- what is laid for a person -/
def gTp (n p : Nat) (W g : kW) : Prop := g.1 3 (5 * p + 2) = 59 ∧ ∃ k h a b, TP (g.1 3) n p k h a b ∧ W.1 39 (3 + p) = nI k ∧ W.1 39 (9 + p) = nI h ∧ W.1 39 (15 + 2 * p) = nI a ∧ W.1 39 (16 + 2 * p) = nI b
/-- the text so far -/
def gTx (n p : Nat) (W g : kW) : Prop := gSh W g ∧ 2 ≤ n ∧ n ≤ 6 ∧ g.1 3 0 = 100 ∧ g.1 3 1 = nI (48 + n) ∧ W.1 39 0 = nI n ∧ W.1 39 1 = 0 ∧ W.1 39 2 = 0 ∧ ∀ j, j < p → gTp n j W g
theorem TP.cg {f f' : Nat → Int32} {n p k h a b : Nat} (t : TP f n p k h a b) (e : ∀ j, 2 < j → j < 7 → f' (5 * p + j) = f (5 * p + j)) : TP f' n p k h a b := by
  obtain ⟨t1, ⟨t2, t3, t4⟩, ⟨t5, t6, t7⟩, t8, t9, t10⟩ := t
  exact ⟨by rw [e 3 (by decide) (by decide)]; exact t1, ⟨t2, t3, by rw [e 4 (by decide) (by decide)]; exact t4⟩, ⟨t5, t6, by rw [e 5 (by decide) (by decide)]; exact t7⟩, t8, t9, by rw [e 6 (by decide) (by decide)]; exact t10⟩
theorem gTp.cg {n p : Nat} {W W' g g' : kW} (h : gTp n p W g) (e1 : ∀ j, 1 < j → j < 7 → g'.1 3 (5 * p + j) = g.1 3 (5 * p + j)) (e2 : W'.1 39 (3 + p) = W.1 39 (3 + p)) (e3 : W'.1 39 (9 + p) = W.1 39 (9 + p)) (e4 : W'.1 39 (15 + 2 * p) = W.1 39 (15 + 2 * p)) (e5 : W'.1 39 (16 + 2 * p) = W.1 39 (16 + 2 * p)) : gTp n p W' g' := by
  obtain ⟨h1, k, hh, a, b, t, r1, r2, r3, r4⟩ := h
  exact ⟨(e1 2 (by decide) (by decide)).trans h1, k, hh, a, b, t.cg (fun j a b => e1 j (by omega) b), e2.trans r1, e3.trans r2, e4.trans r3, e5.trans r4⟩
/-- one more person laid -/
def gP5 (g : kW) (p : Nat) (v1 v2 v3 v4 : Int32) : kW := kset (kset (kset (kset (kset (kset (kset (kset (kset (kset g 0 0 0) 3 (2 + 5 * p) 59) 0 0 0) 3 (2 + 5 * p + 1) v1) 0 0 0) 3 (2 + 5 * p + 2) v2) 0 0 0) 3 (2 + 5 * p + 3) v3) 0 0 0) 3 (2 + 5 * p + 4) v4
theorem gP5_out {g : kW} {p j : Nat} {v1 v2 v3 v4 : Int32} (h : j < 2 + 5 * p ∨ 7 + 5 * p ≤ j) : (gP5 g p v1 v2 v3 v4).1 3 j = g.1 3 j := by
  unfold gP5
  rw [kset_ne _ _ (by omega), kset_ne _ _ (by omega), kset_ne _ _ (by omega), kset_ne _ _ (by omega), kset_ne _ _ (by omega), kset_ne _ _ (by omega), kset_ne _ _ (by omega), kset_ne _ _ (by omega), kset_ne _ _ (by omega), kset_ne _ _ (by omega)]
theorem gTx.next {n p k h a b : Nat} {v1 : Int32} {W W' g : kW} (hT : gTx n p W g) (hp : p < n) (hk : kcode v1 k) (h1 : 1 ≤ h) (h9 : h ≤ 9) (ha : a < n) (hap : a ≠ p) (hb : b < n) (hbp : b ≠ p) (e3 : W.1 39 (3 + p) = nI k) (e9 : W.1 39 (9 + p) = nI h) (e15 : W.1 39 (15 + 2 * p) = nI a) (e16 : W.1 39 (16 + 2 * p) = nI b) (ew : ∀ j, 39 ≤ j → W'.1 j = W.1 j) (hS : gSh W' (gP5 g p v1 (nI (48 + h)) (nI (48 + a)) (nI (48 + b)))) : gTx n (p + 1) W' (gP5 g p v1 (nI (48 + h)) (nI (48 + a)) (nI (48 + b))) := by
  obtain ⟨-, t2, t3, t4, t5, t6, t7, t8, t9⟩ := hT
  have e39 := ew 39 (by decide)
  refine ⟨hS, t2, t3, ?_, ?_, by rw [e39]; exact t6, by rw [e39]; exact t7, by rw [e39]; exact t8, fun j hj => ?_⟩
  · rw [gP5_out (by omega)]; exact t4
  · rw [gP5_out (by omega)]; exact t5
  · by_cases e : j = p
    · subst e
      refine ⟨?_, k, h, a, b, ⟨?_, ⟨h1, h9, ?_⟩, ⟨ha, hap, ?_⟩, ⟨hb, hbp, ?_⟩⟩, by rw [e39]; exact e3, by rw [e39]; exact e9, by rw [e39]; exact e15, by rw [e39]; exact e16⟩
      · rw [show 5 * j + 2 = 2 + 5 * j by omega]; unfold gP5
        rw [kset_ne _ _ (by omega), kset_ne _ _ (by omega), kset_ne _ _ (by omega), kset_ne _ _ (by omega), kset_ne _ _ (by omega), kset_ne _ _ (by omega), kset_ne _ _ (by omega), kset_ne _ _ (by omega), kset_eq]
      · rw [show 5 * j + 3 = 2 + 5 * j + 1 by omega]; unfold gP5
        rw [kset_ne _ _ (by omega), kset_ne _ _ (by omega), kset_ne _ _ (by omega), kset_ne _ _ (by omega), kset_ne _ _ (by omega), kset_ne _ _ (by omega), kset_eq]
        exact hk
      · rw [show 5 * j + 4 = 2 + 5 * j + 2 by omega]; unfold gP5
        rw [kset_ne _ _ (by omega), kset_ne _ _ (by omega), kset_ne _ _ (by omega), kset_ne _ _ (by omega), kset_eq]
      · rw [show 5 * j + 5 = 2 + 5 * j + 3 by omega]; unfold gP5
        rw [kset_ne _ _ (by omega), kset_ne _ _ (by omega), kset_eq]
      · rw [show 5 * j + 6 = 2 + 5 * j + 4 by omega]; unfold gP5
        rw [kset_eq]
    · exact (t9 j (by omega)).cg (fun i h1 h2 => gP5_out (by omega)) (by rw [e39]) (by rw [e39]) (by rw [e39]) (by rw [e39])
/-- the whole text is one -/
theorem gTx.ok {n : Nat} {W g : kW} (h : gTx n n W g) : OKT (g.1 3) (2 + 5 * n) n := by
  obtain ⟨-, t2, t3, t4, t5, -, -, -, t9⟩ := h
  have hc : cnt (g.1 3) n := ⟨t2, t3, t5⟩
  refine ⟨hc, rfl, fun pl hpl => ?_⟩
  by_cases e0 : pl = 0
  · subst e0; exact goes_0.mpr t4
  · by_cases e1 : pl = 1
    · subst e1; exact goes_1.mpr ⟨n, hc⟩
    · rw [goes_2 hc (by omega)]
      obtain ⟨s1, k, hh, a, b, ⟨y1, ⟨y2, y3, y4⟩, ⟨y5, y6, y7⟩, y8, y9, y10⟩, -⟩ := t9 ((pl - 2) / 5) (by omega)
      refine ⟨by omega, ?_⟩
      have em : pl = 5 * ((pl - 2) / 5) + 2 + (pl - 2) % 5 := by omega
      have hm : (pl - 2) % 5 < 5 := Nat.mod_lt _ (by decide)
      generalize hq : (pl - 2) / 5 = q at *
      generalize hr : (pl - 2) % 5 = r at *
      rcases (show r = 0 ∨ r = 1 ∨ r = 2 ∨ r = 3 ∨ r = 4 by omega) with rfl | rfl | rfl | rfl | rfl
      · exact Or.inl ⟨rfl, by rw [em]; exact s1⟩
      · refine Or.inr (Or.inl ⟨rfl, ?_⟩)
        rw [em]
        rcases y1 with ⟨z, _⟩ | ⟨z, _⟩ | ⟨z, _⟩
        · exact Or.inl z
        · exact Or.inr (Or.inl z)
        · exact Or.inr (Or.inr z)
      · exact Or.inr (Or.inr (Or.inl ⟨rfl, hh, y2, y3, by rw [em]; exact y4⟩))
      · exact Or.inr (Or.inr (Or.inr ⟨by decide, a, y5, y6, by rw [em]; exact y7⟩))
      · exact Or.inr (Or.inr (Or.inr ⟨by decide, b, y8, y9, by rw [em]; exact y10⟩))
/-- the world that the text tells -/
def gCst (n : Nat) (W g : kW) : kW := (fun c => if c = 0 then (fun k => if k = 5 then nI n else if k = 15 ∨ k = 35 ∨ k = 0 then 0 else g.1 0 k) else if c = 4 then (fun p => W.1 39 (3 + p)) else if c = 5 then (fun p => W.1 39 (9 + p)) else if c = 6 then (fun k => W.1 39 (15 + k)) else if c = 7 then (fun _ => 0) else g.1 c, g.2)
theorem gCst.ok {n : Nat} {W g : kW} (h : gTx n n W g) : CoOK (txt g 0 0) n g (gCst n W g) := by
  obtain ⟨-, t2, t3, t4, t5, -, -, -, t9⟩ := h
  have et : txt g 0 0 = g.1 3 := by
    funext x
    show g.1 3 (50 * 0 + 0 + x) = g.1 3 x
    simp
  rw [et]
  refine ⟨rfl, rfl, rfl, rfl, rfl, rfl, rfl, rfl, rfl, fun p hp => ?_⟩
  obtain ⟨s1, k, hh, a, b, t, r1, r2, r3, r4⟩ := t9 p hp
  exact ⟨k, hh, a, b, t, r1, r2, r3, (show W.1 39 (15 + (2 * p + 1)) = nI b by rw [show 15 + (2 * p + 1) = 16 + 2 * p by omega]; exact r4), rfl⟩
/-- the coast is taken -/
theorem up_C {n n0 c0 q0 : Nat} {W g W' : kW} {r : Option Value} (hT : gTx n n W g) (hq : Rel n0 c0 q0 W g) (h : ∃ w1, CCo W g 0 0 0 (nI (2 + 5 * n)) r w1 ∧ W' = k_mix shC w1 W) : r = some (.int (nI n)) ∧ Rel n 0 0 W' (gCst n W g) ∧ ∀ j, 39 ≤ j → W'.1 j = W.1 j := by
  obtain ⟨w1, hc, rfl⟩ := h
  have hT' := hT
  obtain ⟨hS, t2, t3, -⟩ := hT'
  have et : txt g 0 0 = g.1 3 := by
    funext x
    show g.1 3 (50 * 0 + 0 + x) = g.1 3 x
    simp
  have ag : mAg g (dn 0) 0 0 (nI (2 + 5 * n)) = 0 := by
    have e0 : dn 0 = 0 := rfl
    rw [mAg, e0, hS.2.1, if_neg (by decide), if_neg (by decide), if_pos (nI_pos' (by omega)), hS.2.2.1, if_pos ⟨by decide, nI_pos' (by decide), by rw [show nI 50 - 0 = nI 50 from by rw [Int32.sub_zero]]; exact nI_le (by omega) (by omega)⟩]
  have ok : OKT (txt g 0 0) (dn (nI (2 + 5 * n))) n := by
    rw [et, dn_nI (by omega)]; exact hT.ok
  rcases hc with ⟨a1, -⟩ | ⟨-, a2, -⟩ | ⟨-, -, a3, -⟩ | ⟨-, -, -, ⟨t, a4, -⟩ | ⟨nn, a4, rfl, a6⟩⟩
  · exact absurd (show isS 0 from ⟨by decide, by decide⟩) a1
  · exact absurd (show isT 0 from ⟨by decide, by decide⟩) a2
  · exact absurd ag a3
  · exact (FF_OKT a4 ok).elim
  · have e := cnt_inj a4.1 ok.1
    subst e
    exact ⟨rfl, (coast_ok hq t3 a6 (gCst.ok hT)).cg (fun j hj => mix_lt hj), fun j hj => mix_ge hj⟩
theorem gCst_gL {n : Nat} {W g W' V : kW} (hT : gTx n n W g) (hr : Rel n 0 0 W' (gCst n W g)) (e : ∀ j, 39 ≤ j → W'.1 j = W.1 j) (hV : ∀ j, j < 40 → V.1 j = W'.1 j) : gL n 0 V (gCst n W g) := by
  obtain ⟨hS, t2, t3, t4, t5, t6, t7, t8, t9⟩ := hT
  have e39 : V.1 39 = W.1 39 := (hV 39 (by decide)).trans (e 39 (by decide))
  refine ⟨⟨0, hr.cg (fun j hj => hV j (by omega))⟩, ⟨hr.1.1, fun p hp => ⟨by rw [e39]; rfl, by rw [e39]; rfl⟩, fun k hk => by rw [e39]; rfl, fun p hp => ?_⟩, fun k hk => absurd hk (Nat.not_lt_zero _), by rw [e39]; exact t6, by rw [e39]; exact t7, t2⟩
  rw [e39, t8, b_0]
  exact iff_of_true rfl rfl
