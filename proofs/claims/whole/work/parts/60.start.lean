section LMK
variable {p : Program} {l : Launch} {e : Env} {s : State} {m : MethodId} {below : List Frame} {meth : Method} {c : Code} {b L0 : Nat} {xs : Nat → Int32}
/-- the law makes an object: new, dup, its constructor -/
theorem lw_make {D : va_G} {ca : Nat → ClassId} {W2 : va_W} {H : Heap} {locs : List Loc} {ls : Array Slot} {L : List (Nat × Value)} {pc ix1 ix2 ci N k j zn zf zl zmc zms : Nat} {C : String} {T : u_T} {ty : Nat → FieldType} {fs : List Value} {z : MethodName} {zc : ByteArray} {Ψz : (Nat → ClassId) → Nat → va_W → Prop} {Q : State → Prop}
    (C0 : lw_At p s m meth c b L0 xs) (hKK : k_K D ca s) (hO : k_O s) (hP2 : va_P D vwCl W2 H) (hD2 : va_D (lw_B s) W2) (hS : va_S (lw_B s) s.heap H locs) (hl : lv_has ls 4 L)
    (d1 : decode code pc = .ok (.new ix1, 3)) (d2 : decode code (pc + 3) = .ok (.dup, 1)) (d3 : decode code (pc + 3 + 1) = .ok (.invokespecial ix2, 3)) (hc : vwCl[ci]? = some (C, T, N)) (hin : ∀ w ∈ u_ws C T N, w ∈ cw) (hty : ∀ k, k < N → parseFieldDescriptor (T k).2.2.1 = some (ty k)) (h1 : Cond.classLink RL ix1 C ∈ cw) (h2 : Cond.instantiable C N ∈ cw) (h3 : Cond.initialized C ∈ cw) (hfs : ∀ j, j < N → defaultValue (ty j) = vp_V fs j)
    (g1 : Cond.methodLink RL ix2 z ∈ cw) (g2 : Cond.initialized z.cls ∈ cw) (g3 : Cond.code z zc zn none ∈ cw) (g4 : z.cls ≠ "java/lang/invoke/MethodHandle" ∧ z.cls ≠ "java/lang/invoke/VarHandle" ∧ (parseMethodDescriptor z.desc).map (fun d => d.parameters.length) = some 0) (g5 : Cond.instanceMethod z ∈ cw) (hzn : z.name = "<init>") (hR : zf + 1 ≤ 10 ∧ 8 + (zn + 11) + zl ≤ 398) (hk : k + 1 + zmc ≤ 600000) (hj : j + N + zms ≤ 7302250)
    (hM : ISpec z zc zn zf zl zmc zms ci fs [] Ψz)
    (kk : ∀ (q : Nat) (W1 : va_W) (H1 : Heap) (locs1 : List Loc), Ψz ca q W1 → va_P D vwCl W1 H1 → va_D (lw_B s) W1 → va_P D vwCl W2 H1 → (∀ (i j : Nat) (x y : Nat × va_E), W1[i]? = some x → W2[j]? = some y → x.1 ≠ y.1) → va_S (lw_B s) s.heap H1 locs1 → W p l e room_1 s m #[Value.ref b] below meth c H1 locs1 (k + 1 + zmc) (j + N + zms) Q (F0 m (pc + 3 + 1 + 3) ls [.ref q])) : W p l e room_1 s m #[Value.ref b] below meth c H locs k j Q (F0 m pc ls []) := by
  obtain ⟨hx, hb, hr, hml, hown, hts0, hX, hbl, hlocks, hgv⟩ := C0
  have hts : ∀ w ∈ cw, w.before #[Value.ref b] s = true := fun w hw => hts0 w (cw_in hw)
  refine va_new hx hb hts hin ty hty hown (hts _ h1) (hts _ h2) (hts _ h3) hKK.1 hP2 hD2 hS (fun q h => h) hc hfs (by show k + 1 ≤ 600000; omega) (by show j + N ≤ 7302250; omega) d1 (fun q H hP hD hS => ?_)
  refine lv_dup hx hb d2 rfl ?_
  have hq : (W2 ++ [(q, (.inr (ci, fs) : va_E))])[W2.length]? = some (q, .inr (ci, fs)) := by simp
  have hPc : va_P D vwCl [(q, .inr (ci, fs))] H := hP.sub [W2.length] (by simp)
  have hDc : va_D (lw_B s) [(q, .inr (ci, fs))] := hD.sub [W2.length] (by rfl) (by simp)
  have hA0 : ∀ x, i_A q H.size x → lw_B s x := fun x h => h.elim (fun e => by subst e; exact hD.2 _ _ hq) (fun h => Nat.le_trans hS.1 h)
  refine va_callv (va_runI (As := []) (rest := [.ref q]) (b := q) ⟨hx, hb, hml, hown, hts⟩ (hM l D ca q H.size) ⟨callB_of 0 hts (k_goodIn g3) rfl rfl rfl (hts _ g2) (hts _ g1) g4 hR, hzn, hts _ g5⟩ ⟨fun a U g mk q => ?_, fun U hU hW => ⟨rfl, by rw [hU], by rw [hU]; exact hPc, ⟨k_K.warm hW hKK, k_O.warm hW hO⟩, hDc.weaken (fun _ _ _ _ => trivial)⟩⟩ rfl rfl hl.1 rfl (lv_room (Nat.le_of_ble_eq_true rfl)) d3 ⟨hk, hj⟩) hS (fun x _ h => hA0 x h) (fun x h => hA0 x h) (fun W1 t H1 locs1 ht hvm hw hB hz1 hk1 hS1 => ?_)
  · obtain ⟨q0, q1, qP, qK, qD⟩ := q
    exact ⟨q0, q1, qP, ⟨⟨va_K.moved (u := U) (U := U.calling g mk a) (Vm.Alike.refl U.vm) qK.1.1, k_N.same (s := U) (U := U.calling g mk a) rfl qK.1.2⟩, ⟨va_AO.moved (u := U) (U := U.calling g mk a) (Vm.Alike.refl U.vm) qK.2.1, va_AOA.moved (u := U) (U := U.calling g mk a) (Vm.Alike.refl U.vm) qK.2.2⟩⟩, qD⟩
  · obtain ⟨hP1, hK1, hD1⟩ := hB
    rw [ht] at hP1
    have hat : ∀ (j : Nat) (y : Nat × va_E), W2[j]? = some y → (W2 ++ [(q, (.inr (ci, fs) : va_E))])[j]? = some y := fun j y hy => by
      rw [List.getElem?_append_left (List.getElem?_eq_some_iff.mp hy).1]; exact hy
    have hno : ∀ (j : Nat) (y : Nat × va_E), W2[j]? = some y → y.1 < H.size ∧ ¬ i_A q H.size y.1 := fun j y hy => by
      have h9 := (hP j y (hat j y hy)).lt
      refine ⟨h9, fun h => h.elim (fun e => ?_) (fun h => absurd h9 (Nat.not_lt.mpr h))⟩
      have := hD.1 j W2.length y _ (hat j y hy) hq e
      have := (List.getElem?_eq_some_iff.mp hy).1
      omega
    exact kk q W1 H1 locs1 hw hP1 (hD1.weaken (fun _ _ _ h => hA0 _ h)) (fun j y hy => (hP j y (hat j y hy)).kept (hk1 y.1 (hno j y hy).1 (hno j y hy).2)) (fun i j x y hx1 hy he => (hno j y hy).2 (he ▸ hD1.2 i x hx1)) hS1
end LMK

set_option maxRecDepth 100000 in
set_option maxHeartbeats 4000000 in
/-- THE LAW, from its entry -/
theorem whole_start {p : Program} {e : Env} {s : State} {m : MethodId} {below : List Frame} {meth : Method} {c : Code} (l : Launch) (hflags : l.flags = flags0) {b L : Nat} {xs : Nat → Int32} (hL : L ≤ 3072) (C0 : lw_At p s m meth c b L xs) : W p l e room_1 s m #[Value.ref b] below meth c s.heap [] 0 0 (lw_Z below #[Value.ref b] s) (entryFrame m ([Value.ref b] : List Value).toArray 4) := by
  obtain ⟨D, ca, hKK, hO⟩ := lw_known C0
  have hS : va_S (lw_B s) s.heap s.heap [] := va_S.rf
  have hP : va_P D vwCl [] s.heap := fun k q h => by simp at h
  have hD : va_D (lw_B s) [] := ⟨fun i j p q h => by simp at h, fun k q h => by simp at h⟩
  have hl := lv_entry ([.ref b]) (n := 4) (Nat.le_of_ble_eq_true rfl)
  rw [lg_entry_eq]
  generalize (lg_sl ([.ref b]) ++ List.replicate (4 - (lg_sl ([.ref b])).length) Slot.unset).toArray = ls at hl ⊢
  have hl : lv_has ls 4 [(0, .ref b)] := hl
  have hx := C0.1
  have hb := C0.2.1
  refine lw_make (ci := 6) (C := RX7) (T := TX7) (N := 7) (fs := [.null, .null, .null, .null, .null, .int 0, .int 0]) (ty := tyX7) C0 hKK hO hP hD hS hl dL_law_0 dL_law_3 dL_law_4 rfl in_X7 tyX7_ok (cw_1 14 rfl rfl) (cw_1 15 rfl rfl) (cw_1 1 rfl rfl) (fun j hj => by rcases (show j = 0 ∨ j = 1 ∨ j = 2 ∨ j = 3 ∨ j = 4 ∨ j = 5 ∨ j = 6 by omega) with rfl | rfl | rfl | rfl | rfl | rfl | rfl <;> rfl) (cw_1 16 rfl rfl) (cw_1 1 rfl rfl) (cw_1 18 rfl rfl) ⟨by decide +kernel, by decide +kernel, by decide +kernel⟩ (cw_1 17 rfl rfl) rfl ⟨by decide, by decide⟩ (by decide) (by decide) s_X7_init (fun q0 W1 H1 locs1 hw hP1 hD1 _ _ hS1 => ?_)
  obtain ⟨q1, q2, q3, q4, q5, q6, q7, q8, q9, q10, q11, q12, q13, q14, q15, q16, q17, r18, q19, q20, q21, q22, q23, q24, q25, q26, q27, q28, q29, q30, q31, q32, q33, rfl⟩ := hw
  have hP2 : va_P D vwCl (Wc7 ca q0 q1 q2 q3 q4 q5 q6 q7 q8 q9 q10 q11 q12 q13 q14 q15 q16 q17 r18 q19 q20 q21 q22 q23 q24 q25 q26 q27 q28 q29 q30 q31 q32 q33) H1 := hP1.sub [0, 1, 2, 3, 4, 5, 6, 7, 8, 9, 10, 11, 12, 13, 14, 15, 16, 17, 18, 19, 20, 21, 22, 23, 24, 25, 26, 27, 28, 29, 30, 31, 33, 35, 37, 32, 34, 36, 38] rfl
  have hD2 : va_D (lw_B s) (Wc7 ca q0 q1 q2 q3 q4 q5 q6 q7 q8 q9 q10 q11 q12 q13 q14 q15 q16 q17 r18 q19 q20 q21 q22 q23 q24 q25 q26 q27 q28 q29 q30 q31 q32 q33) := hD1.sub [0, 1, 2, 3, 4, 5, 6, 7, 8, 9, 10, 11, 12, 13, 14, 15, 16, 17, 18, 19, 20, 21, 22, 23, 24, 25, 26, 27, 28, 29, 30, 31, 33, 35, 37, 32, 34, 36, 38] (by decide) rfl
  obtain ⟨hP3, hD3⟩ := k_of_W hP2 hD2 (wc7_all ca q0 q1 q2 q3 q4 q5 q6 q7 q8 q9 q10 q11 q12 q13 q14 q15 q16 q17 r18 q19 q20 q21 q22 q23 q24 q25 q26 q27 q28 q29 q30 q31 q32 q33)
  refine lv_astore_n (lv' := [(1, .ref q0), (0, .ref b)]) hx hb dL_law_7 rfl hl (by decide) rfl (fun ls hl => ?_)
  refine lw_make (ci := 7) (C := RX8) (T := TX8) (N := 39) (ty := tyX8) C0 hKK hO hP3 hD3 hS1 hl dL_law_8 dL_law_11 dL_law_12 rfl in_X8 tyX8_ok (cw_3 55 rfl rfl) (cw_3 56 rfl rfl) (cw_1 8 rfl rfl) (fun j hj => by rcases (show j = 0 ∨ j = 1 ∨ j = 2 ∨ j = 3 ∨ j = 4 ∨ j = 5 ∨ j = 6 ∨ j = 7 ∨ j = 8 ∨ j = 9 ∨ j = 10 ∨ j = 11 ∨ j = 12 ∨ j = 13 ∨ j = 14 ∨ j = 15 ∨ j = 16 ∨ j = 17 ∨ j = 18 ∨ j = 19 ∨ j = 20 ∨ j = 21 ∨ j = 22 ∨ j = 23 ∨ j = 24 ∨ j = 25 ∨ j = 26 ∨ j = 27 ∨ j = 28 ∨ j = 29 ∨ j = 30 ∨ j = 31 ∨ j = 32 ∨ j = 33 ∨ j = 34 ∨ j = 35 ∨ j = 36 ∨ j = 37 ∨ j = 38 by omega) with rfl | rfl | rfl | rfl | rfl | rfl | rfl | rfl | rfl | rfl | rfl | rfl | rfl | rfl | rfl | rfl | rfl | rfl | rfl | rfl | rfl | rfl | rfl | rfl | rfl | rfl | rfl | rfl | rfl | rfl | rfl | rfl | rfl | rfl | rfl | rfl | rfl | rfl | rfl <;> rfl) (cw_3 57 rfl rfl) (cw_1 8 rfl rfl) (cw_3 59 rfl rfl) ⟨by decide +kernel, by decide +kernel, by decide +kernel⟩ (cw_3 58 rfl rfl) rfl ⟨by decide, by decide⟩ (by decide) (by decide) s_X8_init (fun u0 W3 H2 locs2 hw hP4 hD4 hP5 hne hS2 => ?_)
  obtain ⟨u1, u2, u3, u4, u5, u6, u7, u8, u9, u10, u11, u12, u13, u14, u15, u16, u17, u18, u19, u20, u21, u22, u23, u24, u25, u26, u27, u28, rfl⟩ := hw
  obtain ⟨hP6, hD6⟩ := k_of_W (W := Wm8 ca u0 u1 u2 u3 u4 u5 u6 u7 u8 u9 u10 u11 u12 u13 u14 u15 u16 u17 u18 u19 u20 u21 u22 u23 u24 u25 u26 u27 u28) hP4 hD4 (wm8_all ca u0 u1 u2 u3 u4 u5 u6 u7 u8 u9 u10 u11 u12 u13 u14 u15 u16 u17 u18 u19 u20 u21 u22 u23 u24 u25 u26 u27 u28)
  refine lv_astore_n (lv' := [(2, .ref u0), (1, .ref q0), (0, .ref b)]) hx hb dL_law_15 rfl hl (by decide) rfl (fun ls hl => ?_)
  refine lv_iconst (v := 0) hx hb dL_law_16 (by decide) ?_
  refine lv_istore_n (lv' := [(3, .int 0), (2, .ref u0), (1, .ref q0), (0, .ref b)]) hx hb dL_law_17 rfl hl (by decide) rfl (fun ls hl => ?_)
  refine W.widen (k := 1000) (n := 10000) (by decide) (by decide) ?_
  exact law_loop C0 hL L 0 (by omega) (Nat.zero_le L) kw0 kg0 0 0 0 rel0 D ca (adc7 q0 q1 q2 q3 q4 q5 q6 q7 q8 q9 q10 q11 q12 q13 q14 q15 q16 q17 r18 q19 q20 q21 q22 q23 q24 q25 q26 q27 q28 q29 q30 q31 q32 q33) (adm8 u0 u1 u2 u3 u4 u5 u6 u7 u8 u9 u10 u11 u12 u13 u14 u15 u16 u17 u18 u19 u20 u21 u22 u23 u24 u25 u26 u27 u28) H2 locs2 ls ⟨hKK, hP5, hP6, hD3, hD6, fun i j hi hj z => hne j i _ _ (wm8_all ca u0 u1 u2 u3 u4 u5 u6 u7 u8 u9 u10 u11 u12 u13 u14 u15 u16 u17 u18 u19 u20 u21 u22 u23 u24 u25 u26 u27 u28 j _ (List.getElem?_eq_getElem hj)) (k_wd_get (List.getElem?_eq_getElem (show i < shC.length from hi))) z.symm, hS2⟩ (lv_sub hl [3, 2, 1, 0] rfl)
