/-! ===== the class's answers beside the reference's ===== -/
def PairI (Ψ1 Ψ2 : Option Value → kW → Prop) : Prop := (∀ r w', Ψ1 r w' → ∃ v : Int32, r = some (.int v)) ∧ ∀ r w' r' g', Ψ1 r w' → Ψ2 r' g' → r = r' ∧ ∃ n c q, Rel n c q w' g'
def PairL (Ψ1 Ψ2 : Option Value → kW → Prop) : Prop := (∀ r w', Ψ1 r w' → ∃ v : Int64, r = some (.long v)) ∧ ∀ r w' r' g', Ψ1 r w' → Ψ2 r' g' → r = r' ∧ ∃ n c q, Rel n c q w' g'
theorem pairQ {n c q : Nat} {w g : kW} {A : Int32} (h : Rel n c q w g) : PairI (fun r w' => r = some (.int A) ∧ cK2 w w') (fun r w' => r = some (.int A) ∧ mKp c g w') :=
  ⟨fun r w' z => ⟨_, z.1⟩, fun r w' r' g' z y => ⟨z.1.trans y.1.symm, n, c, q, (h.k2 z.2).mk y.2⟩⟩
theorem pairQL {n c q : Nat} {w g : kW} {A : Int64} (h : Rel n c q w g) : PairL (fun r w' => r = some (.long A) ∧ cK2 w w') (fun r w' => r = some (.long A) ∧ mKp c g w') :=
  ⟨fun r w' z => ⟨_, z.1⟩, fun r w' r' g' z y => ⟨z.1.trans y.1.symm, n, c, q, (h.k2 z.2).mk y.2⟩⟩
theorem pairR {R : Int32 × kW} : PairI (fun r w' => RQ R r w') (fun r w' => r = some (.int R.1) ∧ R.2 = w') :=
  ⟨fun r w' z => ⟨_, z.1⟩, fun r w' r' g' z y => ⟨z.1.trans y.1.symm, by rw [← y.2]; exact z.2⟩⟩
theorem pairRL {R : Int64 × kW} : PairL (fun r w' => RQL R r w') (fun r w' => r = some (.long R.1) ∧ R.2 = w') :=
  ⟨fun r w' z => ⟨_, z.1⟩, fun r w' r' g' z y => ⟨z.1.trans y.1.symm, by rw [← y.2]; exact z.2⟩⟩
theorem pairP {n c q : Nat} {w g : kW} {A : Option Value → Prop} (h : Rel n c q w g) (h1 : ∀ r, A r → ∃ v : Int32, r = some (.int v)) (h2 : ∀ r r', A r → A r' → r = r') : PairI (fun r w' => A r ∧ cK2 w w') (fun r w' => A r ∧ mKp c g w') :=
  ⟨fun r w' z => h1 r z.1, fun r w' r' g' z y => ⟨h2 r r' z.1 y.1, n, c, q, (h.k2 z.2).mk y.2⟩⟩
theorem pairPt {n c q : Nat} {w g : kW} {A : Option Value → Prop} (h : Rel n c q w g) (h1 : ∀ r, A r → ∃ v : Int32, r = some (.int v)) (h2 : ∀ r r', A r → A r' → r = r') : PairI (fun r w' => A r ∧ cKt c w w') (fun r w' => A r ∧ mKp c g w') :=
  ⟨fun r w' z => h1 r z.1, fun r w' r' g' z y => ⟨h2 r r' z.1 y.1, n, c, q, (h.kt z.2).mk y.2⟩⟩
theorem nev_1 {n c : Nat} {g : kW} (r : Option Value) (h : PA_never n c g r) : ∃ v : Int32, r = some (.int v) := by
  rcases h with ⟨_, h⟩ | ⟨_, s, h, _⟩
  · exact ⟨_, h⟩
  · exact ⟨_, h⟩
theorem nev_2 {n c : Nat} {g : kW} (r r' : Option Value) (h : PA_never n c g r) (h' : PA_never n c g r') : r = r' := by
  rcases h with ⟨a, h⟩ | ⟨a, s, h, hs⟩ <;> rcases h' with ⟨b, h'⟩ | ⟨b, s', h', hs'⟩
  · rw [h, h']
  · exact absurd a b
  · exact absurd b a
  · have : s = s' := b_ext (fun i hi => by
      have := (hs i hi).trans (hs' i hi).symm
      cases h1 : bt s i <;> cases h2 : bt s' i <;> simp_all)
    rw [h, h', this]
theorem cau_1 {n c : Nat} {g : kW} (r : Option Value) (h : PA_caught n c g r) : ∃ v : Int32, r = some (.int v) := by
  rcases h with ⟨_, h⟩ | ⟨_, s, h, _⟩
  · exact ⟨_, h⟩
  · exact ⟨_, h⟩
theorem cau_2 {n c : Nat} {g : kW} (r r' : Option Value) (h : PA_caught n c g r) (h' : PA_caught n c g r') : r = r' := by
  rcases h with ⟨a, h⟩ | ⟨a, s, h, hs⟩ <;> rcases h' with ⟨b, h'⟩ | ⟨b, s', h', hs'⟩
  · rw [h, h']
  · exact absurd a b
  · exact absurd b a
  · have : s = s' := b_ext (fun i hi => by
      have := (hs i hi).trans (hs' i hi).symm
      cases h1 : bt s i <;> cases h2 : bt s' i <;> simp_all)
    rw [h, h', this]
theorem arr_1 {n c : Nat} {g : kW} {d : Int32} (r : Option Value) (h : PA_arr n c g d r) : ∃ v : Int32, r = some (.int v) := by
  unfold PA_arr at h
  split at h
  · split at h
    · exact ⟨_, h⟩
    · rcases h with ⟨h, _⟩ | ⟨b, h, _⟩
      · exact ⟨_, h⟩
      · exact ⟨_, h⟩
  · exact ⟨_, h⟩
theorem arr_2 {n c : Nat} {g : kW} {d : Int32} (r r' : Option Value) (h : PA_arr n c g d r) (h' : PA_arr n c g d r') : r = r' := by
  unfold PA_arr at h h'
  by_cases c1 : isDw d
  · rw [if_pos c1] at h h'
    by_cases c2 : g.1 0 5 = 0
    · rw [if_pos c2] at h h'; rw [h, h']
    · rw [if_neg c2] at h h'
      rcases h with ⟨h, k⟩ | ⟨b, h, k1, k2, k3, k4⟩ <;> rcases h' with ⟨h', k'⟩ | ⟨b', h', k1', k2', k3', k4'⟩
      · rw [h, h']
      · exact absurd k3' (k b' k1' k2')
      · exact absurd k3 (k' b k1 k2)
      · have x1 := k4 b' k1' k2' k3'
        have x2 := k4' b k1 k2 k3
        have : b = b' := by omega
        rw [h, h', this]
  · rw [if_neg c1] at h h'; rw [h, h']
theorem pro_1 {n c : Nat} {g : kW} {p o d : Int32} (r : Option Value) (h : PA_prov n c g p o d r) : ∃ v : Int32, r = some (.int v) := by
  unfold PA_prov at h
  split at h
  · split at h
    · rcases h with ⟨h, _⟩ | ⟨a, b, e, _, h, _⟩
      · exact ⟨_, h⟩
      · exact ⟨_, h⟩
    · exact ⟨_, h⟩
  · exact ⟨_, h⟩
theorem pro_2 {n c : Nat} {g : kW} {p o d : Int32} (hn : n ≤ 6) (r r' : Option Value) (h : PA_prov n c g p o d r) (h' : PA_prov n c g p o d r') : r = r' := by
  unfold PA_prov at h h'
  by_cases c1 : isPr g p ∧ isPr g o ∧ ¬ p = o
  · rw [if_pos c1] at h h'
    by_cases c2 : 0 ≤ d ∧ d ≤ 29
    · rw [if_pos c2] at h h'
      rcases h with ⟨h, k⟩ | ⟨a, b, e, hv, h, k1, k2⟩ <;> rcases h' with ⟨h', k'⟩ | ⟨a', b', e', hv', h', k1', k2'⟩
      · rw [h, h']
      · exact absurd k1' (k a' b' e' hv' (by obtain ⟨v1, v2, v3, v4, v5⟩ := hv'; omega))
      · exact absurd k1 (k' a b e hv (by obtain ⟨v1, v2, v3, v4, v5⟩ := hv; omega))
      · rcases Nat.lt_trichotomy (100 * a + 10 * b + e) (100 * a' + 10 * b' + e') with z | z | z
        · exact absurd k1 (k2' a b e hv z)
        · rw [h, h', z]
        · exact absurd k1' (k2 a' b' e' hv' z)
    · rw [if_neg c2] at h h'; rw [h, h']
  · rw [if_neg c1] at h h'; rw [h, h']
theorem pair_row {n c q : Nat} {w g : kW} {x sort i m : Int32} (h : Rel n c q w g) : PairI (fun r w' => ∃ v f, RowA n c g x sort i m v f ∧ r = some (.int v) ∧ cK2 (kset w 0 6 f) w') (fun r w' => PRow n c g x sort i m r w') :=
  ⟨fun r w' ⟨v, f, _, z, _⟩ => ⟨v, z⟩, fun r w' r' g' ⟨v, f, a1, a2, a3⟩ y => by
    obtain ⟨v', f', b1, b2, b3⟩ := PRow.a y
    obtain ⟨rfl, rfl⟩ := a1.inj b1
    exact ⟨a2.trans b2.symm, n, c, q, (h.flt.k2 a3).mk b3⟩⟩
theorem pair_coast {n c q : Nat} {w g : kW} {x sort i m : Int32} (h : Rel n c q w g) : PairI (fun r w' => CCo w g x sort i m r w') (fun r w' => PCo g x sort i m r w') :=
  ⟨fun r w' z => by
    rcases z with ⟨_, z, _⟩ | ⟨_, _, z, _⟩ | ⟨_, _, _, z, _⟩ | ⟨_, _, _, ⟨t, _, z, _⟩ | ⟨nn, _, z, _⟩⟩
    all_goals exact ⟨_, z⟩, fun r w' r' g' z y => coast_pair h z y⟩
