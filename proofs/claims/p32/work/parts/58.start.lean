def kw0 : kW := (fun _ _ => 0, fun _ _ => 0)
def sort0 : Nat → Int32 := upd (upd (upd (upd (fun _ => 0) (Int32.toNatClampNeg 0) (-9)) (Int32.toNatClampNeg 1) (-9)) (Int32.toNatClampNeg 2) (-9)) (Int32.toNatClampNeg 3) (-9)
def kg0 : kW := (fun c => if c = 1 then sort0 else fun _ => 0, fun _ _ => 0)
theorem rel0 : Rel 0 0 0 kw0 kg0 := by
  have hs : ∀ k, k < 4 → kg0.1 1 k = -9 := by decide +kernel
  have hP : Pn 0 kg0 := ⟨rfl, by decide, fun p hp => absurd hp (Nat.not_lt_zero _), fun p hp => absurd hp (Nat.not_lt_zero _), fun p hp => absurd hp (Nat.not_lt_zero _), fun p hp => absurd hp (Nat.not_lt_zero _)⟩
  refine ⟨⟨hP, ⟨rfl, by decide, fun p hp => absurd hp (Nat.not_lt_zero _)⟩, by decide, ⟨rfl, by decide, fun p hp => absurd hp (Nat.not_lt_zero _)⟩, rfl, fun k hk => ⟨Or.inl (hs k hk), 0, by decide, rfl⟩⟩, ⟨hP, rfl, fun p hp => absurd hp (Nat.not_lt_zero _)⟩, ⟨rfl, fun p hp => absurd hp (Nat.not_lt_zero _)⟩, fun p hp => absurd hp (Nat.not_lt_zero _), ⟨rfl, fun p hp => absurd hp (Nat.not_lt_zero _)⟩, fun k hk => ⟨Or.inl ⟨rfl, hs k hk⟩, rfl, fun x hx => rfl⟩, rfl, rfl⟩
theorem k_of_W {D : va_G} {A : Nat → Prop} {ca : Nat → ClassId} {ad : Nat → Nat} {sh : List kE} {w : kW} {W : va_W} {H : Heap} (hP : va_P D vwCl W H) (hD : va_D A W) (h : ∀ k e, sh[k]? = some e → W[k]? = some (ad k, k_ent ad ca w k e)) : va_P D vwCl (k_wd ad ca sh w) H ∧ va_D A (k_wd ad ca sh w) := by
  have key : ∀ (k : Nat) (q : Nat × va_E), (k_wd ad ca sh w)[k]? = some q → W[k]? = some q := fun k q hk => by
    obtain ⟨hl, he⟩ := k_wd_addr hk
    have h1 := List.getElem?_eq_getElem hl
    rw [k_wd_get h1] at hk
    rw [← hk]
    exact h k _ h1
  exact ⟨fun k q hk => hP k q (key k q hk), fun i j p q hi hj => hD.1 i j p q (key i p hi) (key j q hj), fun k q hk => hD.2 k q (key k q hk)⟩
theorem k_ob {ad : Nat → Nat} {ca : Nat → ClassId} {w : kW} {c ci : Nat} {fs : List kF} {vs : List Value} (h : fs.mapIdx (fun j f => k_val ad w c j f) = vs) : k_ent ad ca w c (.inl (ci, fs)) = .inr (ci, vs) := by
  rw [← h]; rfl
def Wc7 (ca : Nat → ClassId) (h0 : Nat) (q1 : Nat) (q2 : Nat) (q3 : Nat) (q4 : Nat) (q5 : Nat) (q6 : Nat) (q7 : Nat) (q8 : Nat) (q9 : Nat) (q10 : Nat) (q11 : Nat) (q12 : Nat) (q13 : Nat) (q14 : Nat) (q15 : Nat) (q16 : Nat) (q17 : Nat) (r18 : Nat → Nat) (q19 : Nat) (q20 : Nat) (q21 : Nat) (q22 : Nat) (q23 : Nat) (q24 : Nat) (q25 : Nat) (q26 : Nat) (q27 : Nat) (q28 : Nat) (q29 : Nat) (q30 : Nat) (q31 : Nat) (q32 : Nat) (q33 : Nat) : va_W := [(h0, .inr (6, [.ref q1, .ref q6, .ref q11, .ref q15, .ref q25, .int 0, .int 0])), (q1, .inr (2, [.int 0, .int 0, .ref q2, .ref q3, .ref q4, .ref q5])), (q2, .inl (ca 0, 6, .inl (fun _ => 0))), (q3, .inl (ca 0, 6, .inl (fun _ => 0))), (q4, .inl (ca 0, 6, .inl (fun _ => 0))), (q5, .inl (ca 0, 6, .inl (fun _ => 0))), (q6, .inr (0, [.int 0, .ref q7, .ref q8, .ref q9, .ref q10])), (q7, .inl (ca 0, 9, .inl (fun _ => 0))), (q8, .inl (ca 0, 9, .inl (fun _ => 0))), (q9, .inl (ca 0, 9, .inl (fun _ => 0))), (q10, .inl (ca 0, 9, .inl (fun _ => 0))), (q11, .inr (3, [.int 0, .ref q12, .ref q13, .ref q14])), (q12, .inl (ca 0, 8, .inl (fun _ => 0))), (q13, .inl (ca 0, 8, .inl (fun _ => 0))), (q14, .inl (ca 1, 8, .inl (fun _ => 0))), (q15, .inr (4, [.ref q16, .int 0, .ref q1, .ref q6, .ref q19, .int 0, .ref q24, .int 0, .long 0, .int 0, .int 0])), (q16, .inr (1, [.int 0, .ref q17])), (q17, .inl (ca 3, 6, .inr (.inr (.inr (.inr (fun i => if i < 6 then some (r18 i) else none)))))), (r18 0, .inl (ca 0, 180, .inl (fun _ => 0))), (r18 1, .inl (ca 0, 180, .inl (fun _ => 0))), (r18 2, .inl (ca 0, 180, .inl (fun _ => 0))), (r18 3, .inl (ca 0, 180, .inl (fun _ => 0))), (r18 4, .inl (ca 0, 180, .inl (fun _ => 0))), (r18 5, .inl (ca 0, 180, .inl (fun _ => 0))), (q19, .inr (0, [.int 0, .ref q20, .ref q21, .ref q22, .ref q23])), (q20, .inl (ca 0, 180, .inl (fun _ => 0))), (q21, .inl (ca 0, 180, .inl (fun _ => 0))), (q22, .inl (ca 0, 180, .inl (fun _ => 0))), (q23, .inl (ca 0, 180, .inl (fun _ => 0))), (q24, .inl (ca 0, 6, .inl (fun _ => 0))), (q25, .inl (ca 2, 4, .inr (.inr (.inr (.inr (va_up (va_up (va_up (va_up (fun _ => none) (Int32.toNatClampNeg 0) (some q26)) (Int32.toNatClampNeg 1) (some q28)) (Int32.toNatClampNeg 2) (some q30)) (Int32.toNatClampNeg 3) (some q32))))))), (q26, .inr (5, [.int 0, .int 0, .int 0, .ref q27])), (q28, .inr (5, [.int 0, .int 0, .int 0, .ref q29])), (q30, .inr (5, [.int 0, .int 0, .int 0, .ref q31])), (q32, .inr (5, [.int 0, .int 0, .int 0, .ref q33])), (q27, .inl (ca 0, 50, .inl (fun _ => 0))), (q29, .inl (ca 0, 50, .inl (fun _ => 0))), (q31, .inl (ca 0, 50, .inl (fun _ => 0))), (q33, .inl (ca 0, 50, .inl (fun _ => 0)))]
def adc7 (h0 : Nat) (q1 : Nat) (q2 : Nat) (q3 : Nat) (q4 : Nat) (q5 : Nat) (q6 : Nat) (q7 : Nat) (q8 : Nat) (q9 : Nat) (q10 : Nat) (q11 : Nat) (q12 : Nat) (q13 : Nat) (q14 : Nat) (q15 : Nat) (q16 : Nat) (q17 : Nat) (r18 : Nat → Nat) (q19 : Nat) (q20 : Nat) (q21 : Nat) (q22 : Nat) (q23 : Nat) (q24 : Nat) (q25 : Nat) (q26 : Nat) (q27 : Nat) (q28 : Nat) (q29 : Nat) (q30 : Nat) (q31 : Nat) (q32 : Nat) (q33 : Nat) : Nat → Nat := fun c => match c with
  | 0 => h0
  | 1 => q1
  | 2 => q2
  | 3 => q3
  | 4 => q4
  | 5 => q5
  | 6 => q6
  | 7 => q7
  | 8 => q8
  | 9 => q9
  | 10 => q10
  | 11 => q11
  | 12 => q12
  | 13 => q13
  | 14 => q14
  | 15 => q15
  | 16 => q16
  | 17 => q17
  | 18 => r18 0
  | 19 => r18 1
  | 20 => r18 2
  | 21 => r18 3
  | 22 => r18 4
  | 23 => r18 5
  | 24 => q19
  | 25 => q20
  | 26 => q21
  | 27 => q22
  | 28 => q23
  | 29 => q24
  | 30 => q25
  | 31 => q26
  | 32 => q28
  | 33 => q30
  | 34 => q32
  | 35 => q27
  | 36 => q29
  | 37 => q31
  | 38 => q33
  | _ => 0
set_option maxRecDepth 100000 in
set_option maxHeartbeats 400000 in
theorem wc7_0 (ca : Nat → ClassId) (h0 : Nat) (q1 : Nat) (q2 : Nat) (q3 : Nat) (q4 : Nat) (q5 : Nat) (q6 : Nat) (q7 : Nat) (q8 : Nat) (q9 : Nat) (q10 : Nat) (q11 : Nat) (q12 : Nat) (q13 : Nat) (q14 : Nat) (q15 : Nat) (q16 : Nat) (q17 : Nat) (r18 : Nat → Nat) (q19 : Nat) (q20 : Nat) (q21 : Nat) (q22 : Nat) (q23 : Nat) (q24 : Nat) (q25 : Nat) (q26 : Nat) (q27 : Nat) (q28 : Nat) (q29 : Nat) (q30 : Nat) (q31 : Nat) (q32 : Nat) (q33 : Nat) : k_ent (adc7 h0 q1 q2 q3 q4 q5 q6 q7 q8 q9 q10 q11 q12 q13 q14 q15 q16 q17 r18 q19 q20 q21 q22 q23 q24 q25 q26 q27 q28 q29 q30 q31 q32 q33) ca kw0 0 (.inl (6, [some (some 1), some (some 6), some (some 11), some (some 15), some (some 30), none, none])) = .inr (6, [.ref q1, .ref q6, .ref q11, .ref q15, .ref q25, .int 0, .int 0]) := by
  refine k_ob ?_
  simp only [List.mapIdx_cons, List.mapIdx_nil]
  rfl
set_option maxRecDepth 100000 in
set_option maxHeartbeats 400000 in
theorem wc7_1 (ca : Nat → ClassId) (h0 : Nat) (q1 : Nat) (q2 : Nat) (q3 : Nat) (q4 : Nat) (q5 : Nat) (q6 : Nat) (q7 : Nat) (q8 : Nat) (q9 : Nat) (q10 : Nat) (q11 : Nat) (q12 : Nat) (q13 : Nat) (q14 : Nat) (q15 : Nat) (q16 : Nat) (q17 : Nat) (r18 : Nat → Nat) (q19 : Nat) (q20 : Nat) (q21 : Nat) (q22 : Nat) (q23 : Nat) (q24 : Nat) (q25 : Nat) (q26 : Nat) (q27 : Nat) (q28 : Nat) (q29 : Nat) (q30 : Nat) (q31 : Nat) (q32 : Nat) (q33 : Nat) : k_ent (adc7 h0 q1 q2 q3 q4 q5 q6 q7 q8 q9 q10 q11 q12 q13 q14 q15 q16 q17 r18 q19 q20 q21 q22 q23 q24 q25 q26 q27 q28 q29 q30 q31 q32 q33) ca kw0 1 (.inl (2, [none, none, some (some 2), some (some 3), some (some 4), some (some 5)])) = .inr (2, [.int 0, .int 0, .ref q2, .ref q3, .ref q4, .ref q5]) := by
  refine k_ob ?_
  simp only [List.mapIdx_cons, List.mapIdx_nil]
  rfl
set_option maxRecDepth 100000 in
set_option maxHeartbeats 400000 in
theorem wc7_6 (ca : Nat → ClassId) (h0 : Nat) (q1 : Nat) (q2 : Nat) (q3 : Nat) (q4 : Nat) (q5 : Nat) (q6 : Nat) (q7 : Nat) (q8 : Nat) (q9 : Nat) (q10 : Nat) (q11 : Nat) (q12 : Nat) (q13 : Nat) (q14 : Nat) (q15 : Nat) (q16 : Nat) (q17 : Nat) (r18 : Nat → Nat) (q19 : Nat) (q20 : Nat) (q21 : Nat) (q22 : Nat) (q23 : Nat) (q24 : Nat) (q25 : Nat) (q26 : Nat) (q27 : Nat) (q28 : Nat) (q29 : Nat) (q30 : Nat) (q31 : Nat) (q32 : Nat) (q33 : Nat) : k_ent (adc7 h0 q1 q2 q3 q4 q5 q6 q7 q8 q9 q10 q11 q12 q13 q14 q15 q16 q17 r18 q19 q20 q21 q22 q23 q24 q25 q26 q27 q28 q29 q30 q31 q32 q33) ca kw0 6 (.inl (0, [none, some (some 7), some (some 8), some (some 9), some (some 10)])) = .inr (0, [.int 0, .ref q7, .ref q8, .ref q9, .ref q10]) := by
  refine k_ob ?_
  simp only [List.mapIdx_cons, List.mapIdx_nil]
  rfl
set_option maxRecDepth 100000 in
set_option maxHeartbeats 400000 in
theorem wc7_11 (ca : Nat → ClassId) (h0 : Nat) (q1 : Nat) (q2 : Nat) (q3 : Nat) (q4 : Nat) (q5 : Nat) (q6 : Nat) (q7 : Nat) (q8 : Nat) (q9 : Nat) (q10 : Nat) (q11 : Nat) (q12 : Nat) (q13 : Nat) (q14 : Nat) (q15 : Nat) (q16 : Nat) (q17 : Nat) (r18 : Nat → Nat) (q19 : Nat) (q20 : Nat) (q21 : Nat) (q22 : Nat) (q23 : Nat) (q24 : Nat) (q25 : Nat) (q26 : Nat) (q27 : Nat) (q28 : Nat) (q29 : Nat) (q30 : Nat) (q31 : Nat) (q32 : Nat) (q33 : Nat) : k_ent (adc7 h0 q1 q2 q3 q4 q5 q6 q7 q8 q9 q10 q11 q12 q13 q14 q15 q16 q17 r18 q19 q20 q21 q22 q23 q24 q25 q26 q27 q28 q29 q30 q31 q32 q33) ca kw0 11 (.inl (3, [none, some (some 12), some (some 13), some (some 14)])) = .inr (3, [.int 0, .ref q12, .ref q13, .ref q14]) := by
  refine k_ob ?_
  simp only [List.mapIdx_cons, List.mapIdx_nil]
  rfl
set_option maxRecDepth 100000 in
set_option maxHeartbeats 400000 in
theorem wc7_15 (ca : Nat → ClassId) (h0 : Nat) (q1 : Nat) (q2 : Nat) (q3 : Nat) (q4 : Nat) (q5 : Nat) (q6 : Nat) (q7 : Nat) (q8 : Nat) (q9 : Nat) (q10 : Nat) (q11 : Nat) (q12 : Nat) (q13 : Nat) (q14 : Nat) (q15 : Nat) (q16 : Nat) (q17 : Nat) (r18 : Nat → Nat) (q19 : Nat) (q20 : Nat) (q21 : Nat) (q22 : Nat) (q23 : Nat) (q24 : Nat) (q25 : Nat) (q26 : Nat) (q27 : Nat) (q28 : Nat) (q29 : Nat) (q30 : Nat) (q31 : Nat) (q32 : Nat) (q33 : Nat) : k_ent (adc7 h0 q1 q2 q3 q4 q5 q6 q7 q8 q9 q10 q11 q12 q13 q14 q15 q16 q17 r18 q19 q20 q21 q22 q23 q24 q25 q26 q27 q28 q29 q30 q31 q32 q33) ca kw0 15 (.inl (4, [some (some 16), none, some (some 1), some (some 6), some (some 24), none, some (some 29), none, some none, none, none])) = .inr (4, [.ref q16, .int 0, .ref q1, .ref q6, .ref q19, .int 0, .ref q24, .int 0, .long 0, .int 0, .int 0]) := by
  refine k_ob ?_
  simp only [List.mapIdx_cons, List.mapIdx_nil]
  rfl
set_option maxRecDepth 100000 in
set_option maxHeartbeats 400000 in
theorem wc7_16 (ca : Nat → ClassId) (h0 : Nat) (q1 : Nat) (q2 : Nat) (q3 : Nat) (q4 : Nat) (q5 : Nat) (q6 : Nat) (q7 : Nat) (q8 : Nat) (q9 : Nat) (q10 : Nat) (q11 : Nat) (q12 : Nat) (q13 : Nat) (q14 : Nat) (q15 : Nat) (q16 : Nat) (q17 : Nat) (r18 : Nat → Nat) (q19 : Nat) (q20 : Nat) (q21 : Nat) (q22 : Nat) (q23 : Nat) (q24 : Nat) (q25 : Nat) (q26 : Nat) (q27 : Nat) (q28 : Nat) (q29 : Nat) (q30 : Nat) (q31 : Nat) (q32 : Nat) (q33 : Nat) : k_ent (adc7 h0 q1 q2 q3 q4 q5 q6 q7 q8 q9 q10 q11 q12 q13 q14 q15 q16 q17 r18 q19 q20 q21 q22 q23 q24 q25 q26 q27 q28 q29 q30 q31 q32 q33) ca kw0 16 (.inl (1, [none, some (some 17)])) = .inr (1, [.int 0, .ref q17]) := by
  refine k_ob ?_
  simp only [List.mapIdx_cons, List.mapIdx_nil]
  rfl
set_option maxRecDepth 100000 in
set_option maxHeartbeats 400000 in
theorem wc7_17 (h0 : Nat) (q1 : Nat) (q2 : Nat) (q3 : Nat) (q4 : Nat) (q5 : Nat) (q6 : Nat) (q7 : Nat) (q8 : Nat) (q9 : Nat) (q10 : Nat) (q11 : Nat) (q12 : Nat) (q13 : Nat) (q14 : Nat) (q15 : Nat) (q16 : Nat) (q17 : Nat) (r18 : Nat → Nat) (q19 : Nat) (q20 : Nat) (q21 : Nat) (q22 : Nat) (q23 : Nat) (q24 : Nat) (q25 : Nat) (q26 : Nat) (q27 : Nat) (q28 : Nat) (q29 : Nat) (q30 : Nat) (q31 : Nat) (q32 : Nat) (q33 : Nat) : (fun i => if i < 6 then some (r18 i) else none : Nat → Option Nat) = (fun i => Option.map (adc7 h0 q1 q2 q3 q4 q5 q6 q7 q8 q9 q10 q11 q12 q13 q14 q15 q16 q17 r18 q19 q20 q21 q22 q23 q24 q25 q26 q27 q28 q29 q30 q31 q32 q33) (if i < 6 then some (18 + i) else none)) := by
  funext i
  by_cases h : i < 6
  · rcases (show i = 0 ∨ i = 1 ∨ i = 2 ∨ i = 3 ∨ i = 4 ∨ i = 5 by omega) with rfl | rfl | rfl | rfl | rfl | rfl <;> rfl
  · rw [if_neg h, if_neg h]; rfl
set_option maxRecDepth 100000 in
set_option maxHeartbeats 400000 in
theorem wc7_24 (ca : Nat → ClassId) (h0 : Nat) (q1 : Nat) (q2 : Nat) (q3 : Nat) (q4 : Nat) (q5 : Nat) (q6 : Nat) (q7 : Nat) (q8 : Nat) (q9 : Nat) (q10 : Nat) (q11 : Nat) (q12 : Nat) (q13 : Nat) (q14 : Nat) (q15 : Nat) (q16 : Nat) (q17 : Nat) (r18 : Nat → Nat) (q19 : Nat) (q20 : Nat) (q21 : Nat) (q22 : Nat) (q23 : Nat) (q24 : Nat) (q25 : Nat) (q26 : Nat) (q27 : Nat) (q28 : Nat) (q29 : Nat) (q30 : Nat) (q31 : Nat) (q32 : Nat) (q33 : Nat) : k_ent (adc7 h0 q1 q2 q3 q4 q5 q6 q7 q8 q9 q10 q11 q12 q13 q14 q15 q16 q17 r18 q19 q20 q21 q22 q23 q24 q25 q26 q27 q28 q29 q30 q31 q32 q33) ca kw0 24 (.inl (0, [none, some (some 25), some (some 26), some (some 27), some (some 28)])) = .inr (0, [.int 0, .ref q20, .ref q21, .ref q22, .ref q23]) := by
  refine k_ob ?_
  simp only [List.mapIdx_cons, List.mapIdx_nil]
  rfl
set_option maxRecDepth 100000 in
set_option maxHeartbeats 400000 in
theorem wc7_30 (h0 : Nat) (q1 : Nat) (q2 : Nat) (q3 : Nat) (q4 : Nat) (q5 : Nat) (q6 : Nat) (q7 : Nat) (q8 : Nat) (q9 : Nat) (q10 : Nat) (q11 : Nat) (q12 : Nat) (q13 : Nat) (q14 : Nat) (q15 : Nat) (q16 : Nat) (q17 : Nat) (r18 : Nat → Nat) (q19 : Nat) (q20 : Nat) (q21 : Nat) (q22 : Nat) (q23 : Nat) (q24 : Nat) (q25 : Nat) (q26 : Nat) (q27 : Nat) (q28 : Nat) (q29 : Nat) (q30 : Nat) (q31 : Nat) (q32 : Nat) (q33 : Nat) : (va_up (va_up (va_up (va_up (fun _ => none) (Int32.toNatClampNeg 0) (some q26)) (Int32.toNatClampNeg 1) (some q28)) (Int32.toNatClampNeg 2) (some q30)) (Int32.toNatClampNeg 3) (some q32) : Nat → Option Nat) = (fun i => Option.map (adc7 h0 q1 q2 q3 q4 q5 q6 q7 q8 q9 q10 q11 q12 q13 q14 q15 q16 q17 r18 q19 q20 q21 q22 q23 q24 q25 q26 q27 q28 q29 q30 q31 q32 q33) (if i < 4 then some (31 + i) else none)) := by
  funext i
  by_cases h : i < 4
  · rcases (show i = 0 ∨ i = 1 ∨ i = 2 ∨ i = 3 by omega) with rfl | rfl | rfl | rfl <;> rfl
  · rw [if_neg h]
    have z0 : ¬ i = 0 := by omega
    have z1 : ¬ i = 1 := by omega
    have z2 : ¬ i = 2 := by omega
    have z3 : ¬ i = 3 := by omega
    have t1 : Int32.toNatClampNeg 1 = 1 := by decide
    have t2 : Int32.toNatClampNeg 2 = 2 := by decide
    have t3 : Int32.toNatClampNeg 3 = 3 := by decide
    have t0 : Int32.toNatClampNeg 0 = 0 := by decide
    simp only [va_up, t0, t1, t2, t3, if_neg z0, if_neg z1, if_neg z2, if_neg z3]
    rfl
set_option maxRecDepth 100000 in
set_option maxHeartbeats 400000 in
theorem wc7_31 (ca : Nat → ClassId) (h0 : Nat) (q1 : Nat) (q2 : Nat) (q3 : Nat) (q4 : Nat) (q5 : Nat) (q6 : Nat) (q7 : Nat) (q8 : Nat) (q9 : Nat) (q10 : Nat) (q11 : Nat) (q12 : Nat) (q13 : Nat) (q14 : Nat) (q15 : Nat) (q16 : Nat) (q17 : Nat) (r18 : Nat → Nat) (q19 : Nat) (q20 : Nat) (q21 : Nat) (q22 : Nat) (q23 : Nat) (q24 : Nat) (q25 : Nat) (q26 : Nat) (q27 : Nat) (q28 : Nat) (q29 : Nat) (q30 : Nat) (q31 : Nat) (q32 : Nat) (q33 : Nat) : k_ent (adc7 h0 q1 q2 q3 q4 q5 q6 q7 q8 q9 q10 q11 q12 q13 q14 q15 q16 q17 r18 q19 q20 q21 q22 q23 q24 q25 q26 q27 q28 q29 q30 q31 q32 q33) ca kw0 31 (.inl (5, [none, none, none, some (some 35)])) = .inr (5, [.int 0, .int 0, .int 0, .ref q27]) := by
  refine k_ob ?_
  simp only [List.mapIdx_cons, List.mapIdx_nil]
  rfl
set_option maxRecDepth 100000 in
set_option maxHeartbeats 400000 in
theorem wc7_32 (ca : Nat → ClassId) (h0 : Nat) (q1 : Nat) (q2 : Nat) (q3 : Nat) (q4 : Nat) (q5 : Nat) (q6 : Nat) (q7 : Nat) (q8 : Nat) (q9 : Nat) (q10 : Nat) (q11 : Nat) (q12 : Nat) (q13 : Nat) (q14 : Nat) (q15 : Nat) (q16 : Nat) (q17 : Nat) (r18 : Nat → Nat) (q19 : Nat) (q20 : Nat) (q21 : Nat) (q22 : Nat) (q23 : Nat) (q24 : Nat) (q25 : Nat) (q26 : Nat) (q27 : Nat) (q28 : Nat) (q29 : Nat) (q30 : Nat) (q31 : Nat) (q32 : Nat) (q33 : Nat) : k_ent (adc7 h0 q1 q2 q3 q4 q5 q6 q7 q8 q9 q10 q11 q12 q13 q14 q15 q16 q17 r18 q19 q20 q21 q22 q23 q24 q25 q26 q27 q28 q29 q30 q31 q32 q33) ca kw0 32 (.inl (5, [none, none, none, some (some 36)])) = .inr (5, [.int 0, .int 0, .int 0, .ref q29]) := by
  refine k_ob ?_
  simp only [List.mapIdx_cons, List.mapIdx_nil]
  rfl
set_option maxRecDepth 100000 in
set_option maxHeartbeats 400000 in
theorem wc7_33 (ca : Nat → ClassId) (h0 : Nat) (q1 : Nat) (q2 : Nat) (q3 : Nat) (q4 : Nat) (q5 : Nat) (q6 : Nat) (q7 : Nat) (q8 : Nat) (q9 : Nat) (q10 : Nat) (q11 : Nat) (q12 : Nat) (q13 : Nat) (q14 : Nat) (q15 : Nat) (q16 : Nat) (q17 : Nat) (r18 : Nat → Nat) (q19 : Nat) (q20 : Nat) (q21 : Nat) (q22 : Nat) (q23 : Nat) (q24 : Nat) (q25 : Nat) (q26 : Nat) (q27 : Nat) (q28 : Nat) (q29 : Nat) (q30 : Nat) (q31 : Nat) (q32 : Nat) (q33 : Nat) : k_ent (adc7 h0 q1 q2 q3 q4 q5 q6 q7 q8 q9 q10 q11 q12 q13 q14 q15 q16 q17 r18 q19 q20 q21 q22 q23 q24 q25 q26 q27 q28 q29 q30 q31 q32 q33) ca kw0 33 (.inl (5, [none, none, none, some (some 37)])) = .inr (5, [.int 0, .int 0, .int 0, .ref q31]) := by
  refine k_ob ?_
  simp only [List.mapIdx_cons, List.mapIdx_nil]
  rfl
set_option maxRecDepth 100000 in
set_option maxHeartbeats 400000 in
theorem wc7_34 (ca : Nat → ClassId) (h0 : Nat) (q1 : Nat) (q2 : Nat) (q3 : Nat) (q4 : Nat) (q5 : Nat) (q6 : Nat) (q7 : Nat) (q8 : Nat) (q9 : Nat) (q10 : Nat) (q11 : Nat) (q12 : Nat) (q13 : Nat) (q14 : Nat) (q15 : Nat) (q16 : Nat) (q17 : Nat) (r18 : Nat → Nat) (q19 : Nat) (q20 : Nat) (q21 : Nat) (q22 : Nat) (q23 : Nat) (q24 : Nat) (q25 : Nat) (q26 : Nat) (q27 : Nat) (q28 : Nat) (q29 : Nat) (q30 : Nat) (q31 : Nat) (q32 : Nat) (q33 : Nat) : k_ent (adc7 h0 q1 q2 q3 q4 q5 q6 q7 q8 q9 q10 q11 q12 q13 q14 q15 q16 q17 r18 q19 q20 q21 q22 q23 q24 q25 q26 q27 q28 q29 q30 q31 q32 q33) ca kw0 34 (.inl (5, [none, none, none, some (some 38)])) = .inr (5, [.int 0, .int 0, .int 0, .ref q33]) := by
  refine k_ob ?_
  simp only [List.mapIdx_cons, List.mapIdx_nil]
  rfl
set_option maxRecDepth 100000 in
set_option maxHeartbeats 400000 in
theorem wc7_all (ca : Nat → ClassId) (h0 : Nat) (q1 : Nat) (q2 : Nat) (q3 : Nat) (q4 : Nat) (q5 : Nat) (q6 : Nat) (q7 : Nat) (q8 : Nat) (q9 : Nat) (q10 : Nat) (q11 : Nat) (q12 : Nat) (q13 : Nat) (q14 : Nat) (q15 : Nat) (q16 : Nat) (q17 : Nat) (r18 : Nat → Nat) (q19 : Nat) (q20 : Nat) (q21 : Nat) (q22 : Nat) (q23 : Nat) (q24 : Nat) (q25 : Nat) (q26 : Nat) (q27 : Nat) (q28 : Nat) (q29 : Nat) (q30 : Nat) (q31 : Nat) (q32 : Nat) (q33 : Nat) : ∀ k e, shC[k]? = some e → (Wc7 ca h0 q1 q2 q3 q4 q5 q6 q7 q8 q9 q10 q11 q12 q13 q14 q15 q16 q17 r18 q19 q20 q21 q22 q23 q24 q25 q26 q27 q28 q29 q30 q31 q32 q33)[k]? = some ((adc7 h0 q1 q2 q3 q4 q5 q6 q7 q8 q9 q10 q11 q12 q13 q14 q15 q16 q17 r18 q19 q20 q21 q22 q23 q24 q25 q26 q27 q28 q29 q30 q31 q32 q33) k, k_ent (adc7 h0 q1 q2 q3 q4 q5 q6 q7 q8 q9 q10 q11 q12 q13 q14 q15 q16 q17 r18 q19 q20 q21 q22 q23 q24 q25 q26 q27 q28 q29 q30 q31 q32 q33) ca kw0 k e) := by
  intro k e he
  have hk : k < 39 := (List.getElem?_eq_some_iff.mp he).1
  rcases (show k = 0 ∨ k = 1 ∨ k = 2 ∨ k = 3 ∨ k = 4 ∨ k = 5 ∨ k = 6 ∨ k = 7 ∨ k = 8 ∨ k = 9 ∨ k = 10 ∨ k = 11 ∨ k = 12 ∨ k = 13 ∨ k = 14 ∨ k = 15 ∨ k = 16 ∨ k = 17 ∨ k = 18 ∨ k = 19 ∨ k = 20 ∨ k = 21 ∨ k = 22 ∨ k = 23 ∨ k = 24 ∨ k = 25 ∨ k = 26 ∨ k = 27 ∨ k = 28 ∨ k = 29 ∨ k = 30 ∨ k = 31 ∨ k = 32 ∨ k = 33 ∨ k = 34 ∨ k = 35 ∨ k = 36 ∨ k = 37 ∨ k = 38 by omega) with rfl | rfl | rfl | rfl | rfl | rfl | rfl | rfl | rfl | rfl | rfl | rfl | rfl | rfl | rfl | rfl | rfl | rfl | rfl | rfl | rfl | rfl | rfl | rfl | rfl | rfl | rfl | rfl | rfl | rfl | rfl | rfl | rfl | rfl | rfl | rfl | rfl | rfl | rfl
  · cases he; exact congrArg (fun x : va_E => some (h0, x)) (wc7_0 ca h0 q1 q2 q3 q4 q5 q6 q7 q8 q9 q10 q11 q12 q13 q14 q15 q16 q17 r18 q19 q20 q21 q22 q23 q24 q25 q26 q27 q28 q29 q30 q31 q32 q33).symm
  · cases he; exact congrArg (fun x : va_E => some (q1, x)) (wc7_1 ca h0 q1 q2 q3 q4 q5 q6 q7 q8 q9 q10 q11 q12 q13 q14 q15 q16 q17 r18 q19 q20 q21 q22 q23 q24 q25 q26 q27 q28 q29 q30 q31 q32 q33).symm
  · cases he; rfl
  · cases he; rfl
  · cases he; rfl
  · cases he; rfl
  · cases he; exact congrArg (fun x : va_E => some (q6, x)) (wc7_6 ca h0 q1 q2 q3 q4 q5 q6 q7 q8 q9 q10 q11 q12 q13 q14 q15 q16 q17 r18 q19 q20 q21 q22 q23 q24 q25 q26 q27 q28 q29 q30 q31 q32 q33).symm
  · cases he; rfl
  · cases he; rfl
  · cases he; rfl
  · cases he; rfl
  · cases he; exact congrArg (fun x : va_E => some (q11, x)) (wc7_11 ca h0 q1 q2 q3 q4 q5 q6 q7 q8 q9 q10 q11 q12 q13 q14 q15 q16 q17 r18 q19 q20 q21 q22 q23 q24 q25 q26 q27 q28 q29 q30 q31 q32 q33).symm
  · cases he; rfl
  · cases he; rfl
  · cases he; rfl
  · cases he; exact congrArg (fun x : va_E => some (q15, x)) (wc7_15 ca h0 q1 q2 q3 q4 q5 q6 q7 q8 q9 q10 q11 q12 q13 q14 q15 q16 q17 r18 q19 q20 q21 q22 q23 q24 q25 q26 q27 q28 q29 q30 q31 q32 q33).symm
  · cases he; exact congrArg (fun x : va_E => some (q16, x)) (wc7_16 ca h0 q1 q2 q3 q4 q5 q6 q7 q8 q9 q10 q11 q12 q13 q14 q15 q16 q17 r18 q19 q20 q21 q22 q23 q24 q25 q26 q27 q28 q29 q30 q31 q32 q33).symm
  · cases he; exact congrArg (fun F : Nat → Option Nat => (some (q17, .inl (ca 3, 6, .inr (.inr (.inr (.inr F))))) : Option (Nat × va_E))) (wc7_17 h0 q1 q2 q3 q4 q5 q6 q7 q8 q9 q10 q11 q12 q13 q14 q15 q16 q17 r18 q19 q20 q21 q22 q23 q24 q25 q26 q27 q28 q29 q30 q31 q32 q33)
  · cases he; rfl
  · cases he; rfl
  · cases he; rfl
  · cases he; rfl
  · cases he; rfl
  · cases he; rfl
  · cases he; exact congrArg (fun x : va_E => some (q19, x)) (wc7_24 ca h0 q1 q2 q3 q4 q5 q6 q7 q8 q9 q10 q11 q12 q13 q14 q15 q16 q17 r18 q19 q20 q21 q22 q23 q24 q25 q26 q27 q28 q29 q30 q31 q32 q33).symm
  · cases he; rfl
  · cases he; rfl
  · cases he; rfl
  · cases he; rfl
  · cases he; rfl
  · cases he; exact congrArg (fun F : Nat → Option Nat => (some (q25, .inl (ca 2, 4, .inr (.inr (.inr (.inr F))))) : Option (Nat × va_E))) (wc7_30 h0 q1 q2 q3 q4 q5 q6 q7 q8 q9 q10 q11 q12 q13 q14 q15 q16 q17 r18 q19 q20 q21 q22 q23 q24 q25 q26 q27 q28 q29 q30 q31 q32 q33)
  · cases he; exact congrArg (fun x : va_E => some (q26, x)) (wc7_31 ca h0 q1 q2 q3 q4 q5 q6 q7 q8 q9 q10 q11 q12 q13 q14 q15 q16 q17 r18 q19 q20 q21 q22 q23 q24 q25 q26 q27 q28 q29 q30 q31 q32 q33).symm
  · cases he; exact congrArg (fun x : va_E => some (q28, x)) (wc7_32 ca h0 q1 q2 q3 q4 q5 q6 q7 q8 q9 q10 q11 q12 q13 q14 q15 q16 q17 r18 q19 q20 q21 q22 q23 q24 q25 q26 q27 q28 q29 q30 q31 q32 q33).symm
  · cases he; exact congrArg (fun x : va_E => some (q30, x)) (wc7_33 ca h0 q1 q2 q3 q4 q5 q6 q7 q8 q9 q10 q11 q12 q13 q14 q15 q16 q17 r18 q19 q20 q21 q22 q23 q24 q25 q26 q27 q28 q29 q30 q31 q32 q33).symm
  · cases he; exact congrArg (fun x : va_E => some (q32, x)) (wc7_34 ca h0 q1 q2 q3 q4 q5 q6 q7 q8 q9 q10 q11 q12 q13 q14 q15 q16 q17 r18 q19 q20 q21 q22 q23 q24 q25 q26 q27 q28 q29 q30 q31 q32 q33).symm
  · cases he; rfl
  · cases he; rfl
  · cases he; rfl
  · cases he; rfl
