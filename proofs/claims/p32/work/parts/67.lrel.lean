/-! ===== the class's calls in the law's world ===== -/
theorem mix_lt {w1 W : kW} {j : Nat} (h : j < 39) : (k_mix shC w1 W).1 j = w1.1 j := if_pos h
theorem mix_ge {w1 W : kW} {j : Nat} (h : 39 ≤ j) : (k_mix shC w1 W).1 j = W.1 j := if_neg (Nat.not_lt.mpr h)
theorem Rel.cg {n c q : Nat} {w w' g : kW} (h : Rel n c q w g) (e : ∀ j, j < 39 → w'.1 j = w.1 j) : Rel n c q w' g := by
  obtain ⟨h1, h2, h3, h4, h5, h6, h7⟩ := h
  refine ⟨h1, ?_, ?_, ?_, ?_, fun k hk => (h6 k hk).of (e _ (by omega)) (e _ (by omega)) rfl rfl (fun _ _ => rfl), ?_⟩
  · unfold RP at *
    rw [e 1 (by decide), e 2 (by decide), e 3 (by decide), e 4 (by decide), e 5 (by decide)]
    exact h2
  · unfold RI at *
    rw [e 6 (by decide), e 7 (by decide), e 8 (by decide), e 9 (by decide), e 10 (by decide)]
    exact h3
  · unfold RA at *
    rw [e 1 (by decide)]
    exact h4
  · unfold RR at *
    rw [e 11 (by decide), e 12 (by decide), e 13 (by decide), e 14 (by decide)]
    exact h5
  · unfold RN at *
    rw [e 0 (by decide)]
    exact h7
theorem Rel.nn {n c q n' c' : Nat} {w g : kW} (h : Rel n c q w g) (e5 : g.1 0 5 = nI n') (h6 : n' ≤ 100) (e15 : g.1 0 15 = nI c') (h8 : c' ≤ 100) : n = n' ∧ c = c' := by
  have a1 := h.1.1.1
  have a2 := h.1.1.le
  have a3 := h.1.2.1.1
  have a4 := h.1.2.2.1
  exact ⟨nI_inj (by omega) (by omega) (a1.symm.trans e5), nI_inj (by omega) (by omega) (a3.symm.trans e15)⟩
/-- a call that changes -/
theorem up_Q {R : Int32 × kW} {W W' : kW} {r : Option Value} (h : ∃ w1, RQ R r w1 ∧ W' = k_mix shC w1 W) : r = some (.int R.1) ∧ (∃ n c q, Rel n c q W' R.2) ∧ ∀ j, 39 ≤ j → W'.1 j = W.1 j := by
  obtain ⟨w1, ⟨e, n, c, q, hr⟩, rfl⟩ := h
  exact ⟨e, ⟨n, c, q, hr.cg (fun j hj => mix_lt hj)⟩, fun j hj => mix_ge hj⟩
/-- a call that asks -/
theorem up_K {n c q : Nat} {A : Int32} {W W' g : kW} {r : Option Value} (hh : Rel n c q W g) (h : ∃ w1, (r = some (.int A) ∧ cK2 W w1) ∧ W' = k_mix shC w1 W) : r = some (.int A) ∧ Rel n c q W' g ∧ ∀ j, 39 ≤ j → W'.1 j = W.1 j := by
  obtain ⟨w1, ⟨e, hk⟩, rfl⟩ := h
  exact ⟨e, (hh.k2 hk).cg (fun j hj => mix_lt hj), fun j hj => mix_ge hj⟩
theorem gPn.of {n : Nat} {W W' u u' : kW} (h : gPn n W u) (hP : Pn n u') (e4 : u'.1 4 = u.1 4) (e5 : u'.1 5 = u.1 5) (e6 : u'.1 6 = u.1 6) (e : ∀ k, 3 ≤ k → W'.1 39 k = W.1 39 k) (ha : ∀ p, p < n → (bt (W'.1 39 2) p = false ↔ u'.1 7 p = 0)) : gPn n W' u' := by
  refine ⟨hP, fun p hp => ?_, fun k hk => ?_, ha⟩
  · rw [e4, e5, e _ (by omega), e _ (by omega)]; exact h.2.1 p hp
  · rw [e6, e _ (by omega)]; exact h.2.2.1 k hk
/-- the law's two rows, and the class's world, beside a world of the reference's form -/
def gL (n c : Nat) (W g : kW) : Prop := (∃ q, Rel n c q W g) ∧ gPn n W g ∧ gIn c W g ∧ W.1 39 0 = nI n ∧ W.1 39 1 = nI c ∧ 2 ≤ n
theorem gL.le {n c : Nat} {W g : kW} (h : gL n c W g) : n ≤ 6 ∧ c ≤ 8 := by
  obtain ⟨⟨q, h⟩, -⟩ := h
  exact ⟨h.1.1.le, h.1.2.2.1⟩
theorem gL.num {n c : Nat} {W g : kW} (h : gL n c W g) : g.1 0 5 = nI n ∧ g.1 0 15 = nI c := by
  obtain ⟨⟨q, h⟩, -⟩ := h
  exact ⟨h.1.1.1, h.1.2.1.1⟩
/-- asked: nothing that is told changes -/
theorem gL.ask {n c q : Nat} {W W' g : kW} (h : gL n c W g) (hr : Rel n c q W' g) (e : ∀ j, 39 ≤ j → W'.1 j = W.1 j) : gL n c W' g := by
  obtain ⟨-, h2, h3, h4, h5, h6⟩ := h
  refine ⟨⟨q, hr⟩, h2.of h2.1 rfl rfl rfl (fun k _ => by rw [e 39 (by decide)]) (by rw [e 39 (by decide)]; exact h2.2.2.2), ?_, by rw [e 39 (by decide)]; exact h4, by rw [e 39 (by decide)]; exact h5, h6⟩
  unfold gIn at *
  rw [e 40 (by decide)]
  exact h3
/-- the rows of a season written -/
theorem gL.sea {n c : Nat} {W W' g : kW} (h : gL n c W g) (hk : gKp W W') : gL n c W' g := by
  obtain ⟨⟨q, h1⟩, h2, h3, h4, h5, h6⟩ := h
  exact ⟨⟨q, h1.cg (fun j hj => hk.1 j (by omega) (by omega))⟩, h2.keep (hk.1 39 (by decide) (by decide)) sKeep.rf, h3.keep (hk.1 40 (by decide) (by decide)) sKeep.rf, by rw [hk.1 39 (by decide) (by decide)]; exact h4, by rw [hk.1 39 (by decide) (by decide)]; exact h5, h6⟩
theorem R_sorry_k {n c k : Nat} {W g : kW} (h : gL n c W g) (hk : k ≤ c) : R_sorry g (nI k) = (nI (c - k), kset g 0 15 (nI (c - k))) := by
  obtain ⟨a, b⟩ := h.num
  have := h.le
  rw [R_sorry, b, if_pos ⟨nI_pos' (by omega), nI_le hk (by omega)⟩, nI_sub hk]
theorem gL.sor {n c k n' c' q' : Nat} {W W' g : kW} (h : gL n c W g) (hk : k ≤ c) (hr : Rel n' c' q' W' (kset g 0 15 (nI (c - k)))) (e : ∀ j, 39 ≤ j → W'.1 j = W.1 j) : gL n (c - k) (kset W' 39 1 (nI (c - k))) (kset g 0 15 (nI (c - k))) := by
  have hl := h.le
  obtain ⟨a, b⟩ := h.num
  obtain ⟨-, h2, h3, h4, h5, h6⟩ := h
  obtain ⟨rfl, rfl⟩ := hr.nn (n' := n) (c' := c - k) a (by omega) (kset_eq _ _ _ _) (by omega)
  refine ⟨⟨q', hr.cg (fun j hj => kset_row _ _ _ _ (by omega))⟩, h2.of hr.1.1 rfl rfl rfl (fun k hk => by rw [kset_ne _ _ (by omega), e 39 (by decide)]) ?_, fun k hk => ?_, ?_, kset_eq _ _ _ _, h6⟩
  · rw [kset_ne _ _ (by omega), e 39 (by decide)]; exact h2.2.2.2
  · rw [kset_row _ _ _ _ (by decide), e 40 (by decide)]; exact h3 k (by omega)
  · rw [kset_ne _ _ (by omega), e 39 (by decide)]; exact h4
def gInsW (g : kW) (c a b d e : Nat) : kW := kset (kset (kset (kset (kset g 11 c (nI a)) 12 c (nI b)) 13 c (nI d)) 14 c (nI e)) 0 15 (nI (c + 1))
theorem R_insult_k {n c a b d e : Nat} {W g : kW} (h : gL n c W g) (hc : c < 8) (ha : a < n) (hb : b < n) (hab : a ≠ b) (hd : d < 30) (h1 : 1 ≤ e) (h9 : e ≤ 9) : R_insult g (nI a) (nI b) (nI d) (nI e) = (nI c, gInsW g c a b d e) := by
  obtain ⟨z, y⟩ := h.num
  have := h.le
  have p : ∀ x, x < n → isPr g (nI x) := fun x hx => ⟨nI_pos (by omega), by rw [z]; exact nI_lt hx (by omega)⟩
  rw [R_insult, if_pos ⟨p a ha, p b hb, fun z => hab (nI_inj (by omega) (by omega) z)⟩, if_pos ⟨⟨nI_pos' (by omega), nI_le (b := 29) (by omega) (by omega)⟩, nI_le (a := 1) h1 (by omega), nI_le (b := 9) h9 (by omega)⟩, y, if_neg (show ¬ nI c = (8 : Int32) from fun z => absurd (nI_inj (b := 8) (by omega) (by omega) z) (by omega)), dn_nI (by omega), nI_1]
  rfl
theorem gL.ins {n c a b d e n' c' q' : Nat} {W W' g : kW} (h : gL n c W g) (hc : c < 8) (hr : Rel n' c' q' W' (gInsW g c a b d e)) (ew : ∀ j, 39 ≤ j → W'.1 j = W.1 j) : gL n (c + 1) (kset (kset (kset (kset (kset W' 40 (4 * c) (nI a)) 40 (4 * c + 1) (nI b)) 40 (4 * c + 2) (nI d)) 40 (4 * c + 3) (nI e)) 39 1 (nI (c + 1))) (gInsW g c a b d e) := by
  have hl := h.le
  obtain ⟨a5, b5⟩ := h.num
  obtain ⟨-, h2, h3, h4, h5, h6⟩ := h
  obtain ⟨rfl, rfl⟩ := hr.nn (n' := n) (c' := c + 1) a5 (by omega) (kset_eq _ _ _ _) (by omega)
  have e39 : ∀ k, k ≠ 1 → (kset (kset (kset (kset (kset W' 40 (4 * c) (nI a)) 40 (4 * c + 1) (nI b)) 40 (4 * c + 2) (nI d)) 40 (4 * c + 3) (nI e)) 39 1 (nI (c + 1))).1 39 k = W.1 39 k := fun k hk => by
    rw [kset_ne _ _ (by omega), kset_ne _ _ (by omega), kset_ne _ _ (by omega), kset_ne _ _ (by omega), kset_ne _ _ (by omega), ew 39 (by decide)]
  refine ⟨⟨q', hr.cg (fun j hj => ?_)⟩, h2.of hr.1.1 rfl rfl rfl (fun k hk => e39 k (by omega)) ?_, fun k hk => ?_, ?_, kset_eq _ _ _ _, h6⟩
  · rw [kset_row _ _ _ _ (by omega), kset_row _ _ _ _ (by omega), kset_row _ _ _ _ (by omega), kset_row _ _ _ _ (by omega), kset_row _ _ _ _ (by omega)]
  · rw [e39 2 (by decide)]; exact h2.2.2.2
  · by_cases z : k = c
    · subst z
      refine ⟨?_, ?_, ?_, ?_⟩ <;> simp [kset_1, gInsW]
    · obtain ⟨r1, r2, r3, r4⟩ := h3 k (by omega)
      refine ⟨?_, ?_, ?_, ?_⟩
      · rw [kset_ne _ _ (by omega), kset_ne _ _ (by omega), kset_ne _ _ (by omega), kset_ne _ _ (by omega), kset_ne _ _ (by omega), ew 40 (by decide), r1]; simp [kset_1, gInsW, z]
      · rw [kset_ne _ _ (by omega), kset_ne _ _ (by omega), kset_ne _ _ (by omega), kset_ne _ _ (by omega), kset_ne _ _ (by omega), ew 40 (by decide), r2]; simp [kset_1, gInsW, z]
      · rw [kset_ne _ _ (by omega), kset_ne _ _ (by omega), kset_ne _ _ (by omega), kset_ne _ _ (by omega), kset_ne _ _ (by omega), ew 40 (by decide), r3]; simp [kset_1, gInsW, z]
      · rw [kset_ne _ _ (by omega), kset_ne _ _ (by omega), kset_ne _ _ (by omega), kset_ne _ _ (by omega), kset_ne _ _ (by omega), ew 40 (by decide), r4]; simp [kset_1, gInsW, z]
  · rw [e39 0 (by decide)]; exact h4
theorem R_arrest_k {n c p : Nat} {b : Int32} {W g : kW} (h : gL n c W g) (hp : p < n) : R_arrest g (nI p) b = (if g.1 7 p = b then 0 else 1, kset g 7 p b) := by
  obtain ⟨z, y⟩ := h.num
  have := h.le
  rw [R_arrest, if_pos ⟨nI_pos (by omega), by rw [z]; exact nI_lt hp (by omega)⟩, dn_nI (by omega)]
theorem gL.arr {n c p n' c' q' : Nat} {b s : Int32} {W W' g : kW} (h : gL n c W g) (hp : p < n) (hr : Rel n' c' q' W' (kset g 7 p b)) (ew : ∀ j, 39 ≤ j → W'.1 j = W.1 j) (hs : ∀ k, k < n → (bt s k = false ↔ (if k = p then b else g.1 7 k) = 0)) : gL n c (kset W' 39 2 s) (kset g 7 p b) := by
  have hl := h.le
  obtain ⟨a5, b5⟩ := h.num
  obtain ⟨-, h2, h3, h4, h5, h6⟩ := h
  obtain ⟨rfl, rfl⟩ := hr.nn (n' := n) (c' := c) a5 (by omega) b5 (by omega)
  refine ⟨⟨q', hr.cg (fun j hj => kset_row _ _ _ _ (by omega))⟩, h2.of hr.1.1 rfl rfl rfl (fun k hk => by rw [kset_ne _ _ (by omega), ew 39 (by decide)]) (fun k hk => ?_), fun k hk => ?_, ?_, ?_, h6⟩
  · rw [kset_eq, hs k hk, kset_1, if_pos rfl]
  · rw [kset_row _ _ _ _ (by decide), ew 40 (by decide)]; exact h3 k hk
  · rw [kset_ne _ _ (by omega), ew 39 (by decide)]; exact h4
  · rw [kset_ne _ _ (by omega), ew 39 (by decide)]; exact h5
