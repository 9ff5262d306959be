set_option maxRecDepth 100000 in
set_option maxHeartbeats 4000000 in
theorem nst_in : ∀ q ∈ nst, Cond.methodLinkNest q.1 q.2.1 q.2.2.1 q.2.2.2 ∈ lw_tbl := List.forall_mem_cons.mpr ⟨(List.mem_append_right _ (show _ ∈ tables_1 from List.mem_append_left _ (List.mem_of_getElem? (i := 21) rfl))), List.forall_mem_cons.mpr ⟨(List.mem_append_right _ (show _ ∈ tables_1 from List.mem_append_left _ (List.mem_of_getElem? (i := 89) rfl))), List.forall_mem_cons.mpr ⟨(List.mem_append_right _ (show _ ∈ tables_1 from List.mem_append_left _ (List.mem_of_getElem? (i := 115) rfl))), List.forall_mem_cons.mpr ⟨(List.mem_append_right _ (show _ ∈ tables_1 from List.mem_append_left _ (List.mem_of_getElem? (i := 171) rfl))), List.forall_mem_cons.mpr ⟨(List.mem_append_right _ (show _ ∈ tables_1 from List.mem_append_right _ (List.mem_of_getElem? (i := 82) rfl))), List.forall_mem_cons.mpr ⟨(List.mem_append_right _ (show _ ∈ tables_1 from List.mem_append_right _ (List.mem_of_getElem? (i := 94) rfl))), List.forall_mem_cons.mpr ⟨(List.mem_append_right _ (show _ ∈ tables_1 from List.mem_append_right _ (List.mem_of_getElem? (i := 104) rfl))), fun _ h => absurd h List.not_mem_nil⟩⟩⟩⟩⟩⟩⟩

theorem ao_in : Cond.arrayOver (.object "DuelSeconds$Sheet") ∈ lw_tbl := (List.mem_append_right _ (show _ ∈ tables_1 from List.mem_append_left _ (List.mem_of_getElem? (i := 169) rfl)))

theorem aoa_in : Cond.arrayOver (.array .int) ∈ lw_tbl := (List.mem_append_right _ (show _ ∈ tables_1 from List.mem_append_left _ (List.mem_of_getElem? (i := 120) rfl)))

set_option maxRecDepth 100000 in
set_option maxHeartbeats 4000000 in
theorem lw_known {p : Program} {s : State} {m : MethodId} {meth : Method} {c : Code} {b L0 : Nat} {xs : Nat → Int32} (C0 : lw_At p s m meth c b L0 xs) : ∃ (D : va_G) (ca : Nat → ClassId), k_K D ca s ∧ k_O s := by
  obtain ⟨hx, hb, hr, hml, hown, hts0, hX, hbl, hlocks, hgv⟩ := C0
  have hts : ∀ w ∈ cw, w.before #[Value.ref b] s = true := fun w hw => hts0 w (cw_in hw)
  obtain ⟨c0, i0, K0⟩ := u_known (C := RX0) (T := TX0) (N := 5) (n := 5) hts in_X0 (hts _ (cw_1 60 rfl rfl))
  obtain ⟨c1, i1, K1⟩ := u_known (C := RX1) (T := TX1) (N := 2) (n := 2) hts in_X1 (hts _ (cw_1 114 rfl rfl))
  obtain ⟨c2, i2, K2⟩ := u_known (C := RX2) (T := TX2) (N := 6) (n := 6) hts in_X2 (hts _ (cw_1 20 rfl rfl))
  obtain ⟨c3, i3, K3⟩ := u_known (C := RX3) (T := TX3) (N := 4) (n := 4) hts in_X3 (hts _ (cw_1 88 rfl rfl))
  obtain ⟨c4, i4, K4⟩ := u_known (C := RX4) (T := TX4) (N := 11) (n := 11) hts in_X4 (hts _ (cw_1 108 rfl rfl))
  obtain ⟨c5, i5, K5⟩ := u_known (C := RX5) (T := TX5) (N := 4) (n := 4) hts in_X5 (hts _ (cw_1 170 rfl rfl))
  obtain ⟨c6, i6, K6⟩ := u_known (C := RX7) (T := TX7) (N := 7) (n := 7) hts in_X7 (hts _ (cw_1 12 rfl rfl))
  obtain ⟨dC, dI, hKc⟩ : ∃ (dC : Nat → ClassId) (dI : Nat → Nat → Nat), ∀ (k : Nat) (q : vw_C), vwCl[k]? = some q → u_Kn s q.1 q.2.1 q.2.2 (dC k) (dI k) := by
    refine ⟨fun k => match k with | 0 => c0 | 1 => c1 | 2 => c2 | 3 => c3 | 4 => c4 | 5 => c5 | 6 => c6 | _ => c0, fun k => match k with | 0 => i0 | 1 => i1 | 2 => i2 | 3 => i3 | 4 => i4 | 5 => i5 | 6 => i6 | _ => i0, ?_⟩
    intro k q hq
    match k, hq with
    | 0, hq => cases hq; exact K0
    | 1, hq => cases hq; exact K1
    | 2, hq => cases hq; exact K2
    | 3, hq => cases hq; exact K3
    | 4, hq => cases hq; exact K4
    | 5, hq => cases hq; exact K5
    | 6, hq => cases hq; exact K6
    | k + 7, hq => simp [vwCl] at hq
  have hAO : va_AO "DuelSeconds$Sheet" s := hts0 _ ao_in
  have hAA : va_AOA .int s := hts0 _ aoa_in
  obtain ⟨a0, k0, m0, f0, g0, e0⟩ := Cond.arrayClass_spec (hts _ aw_int)
  obtain ⟨a1, k1, m1, f1, g1, e1⟩ := Cond.arrayClass_spec (hts _ aw_bool)
  obtain ⟨m2, a2, k2, f2, _, g2, e2, j2⟩ := Cond.arrayOver_spec hAO
  obtain ⟨m3, a3, k3, f3, _, g3, e3, j3⟩ := arrayOverA_spec hAA
  refine ⟨(dC, dI), fun t => match t with | 0 => a0 | 1 => a1 | 2 => a2 | _ => a3, ⟨⟨hKc, fun k q hk => ?_⟩, fun q hq => va_Nw.of rfl (hts0 _ (nst_in q hq))⟩, hAO, hAA⟩
  match k, hk with
  | 0, hk => cases hk; exact ⟨fun n z => ⟨fun k h => (by cases h), k0, g0, m0, e0⟩, f0⟩
  | 1, hk => cases hk; exact ⟨fun n z => ⟨fun k h => (by cases h), k1, g1, m1, e1⟩, f1⟩
  | 2, hk => cases hk; exact ⟨fun n z => ⟨fun k h => (by cases h), k2, g2, m2, e2⟩, k2, m2, g2, e2, f2, j2⟩
  | 3, hk => cases hk; exact ⟨fun n z => ⟨fun k h => (by cases h), k3, g3, m3, e3⟩, j3⟩
  | k + 4, hk => simp [k_tys] at hk

def lw_B (s : State) : Nat → Prop := fun q => s.heap.size ≤ q

section LMK
variable {p : Program} {l : Launch} {e : Env} {s : State} {m : MethodId} {below : List Frame} {meth : Method} {c : Code} {b L0 : Nat} {xs : Nat → Int32}
/-- the law makes an object: new, dup, its constructor -/
theorem lw_make {D : va_G} {ca : Nat → ClassId} {W2 : va_W} {H : Heap} {locs : List Loc} {ls : Array Slot} {L : List (Nat × Value)} {pc ix1 ix2 ci N k j zn zf zl zmc zms : Nat} {C : String} {T : u_T} {ty : Nat → FieldType} {fs : List Value} {z : MethodName} {zc : ByteArray} {Ψz : (Nat → ClassId) → Nat → va_W → Prop} {Q : State → Prop}
    (C0 : lw_At p s m meth c b L0 xs) (hKK : k_K D ca s) (hO : k_O s) (hP2 : va_P D vwCl W2 H) (hD2 : va_D (lw_B s) W2) (hS : va_S (lw_B s) s.heap H locs) (hl : lv_has ls 15 L)
    (d1 : decode code pc = .ok (.new ix1, 3)) (d2 : decode code (pc + 3) = .ok (.dup, 1)) (d3 : decode code (pc + 3 + 1) = .ok (.invokespecial ix2, 3)) (hc : vwCl[ci]? = some (C, T, N)) (hin : ∀ w ∈ u_ws C T N, w ∈ cw) (hty : ∀ k, k < N → parseFieldDescriptor (T k).2.2.1 = some (ty k)) (h1 : Cond.classLink RL ix1 C ∈ cw) (h2 : Cond.instantiable C N ∈ cw) (h3 : Cond.initialized C ∈ cw) (hfs : ∀ j, j < N → defaultValue (ty j) = vp_V fs j)
    (g1 : Cond.methodLink RL ix2 z ∈ cw) (g2 : Cond.initialized z.cls ∈ cw) (g3 : Cond.code z zc zn none ∈ cw) (g4 : z.cls ≠ "java/lang/invoke/MethodHandle" ∧ z.cls ≠ "java/lang/invoke/VarHandle" ∧ (parseMethodDescriptor z.desc).map (fun d => d.parameters.length) = some 0) (g5 : Cond.instanceMethod z ∈ cw) (hzn : z.name = "<init>") (hR : zf + 1 ≤ 8 ∧ 8 + (zn + 11) + zl ≤ 312) (hk : k + 1 + zmc ≤ 600000) (hj : j + N + zms ≤ 7302250)
    (hM : ISpec z zc zn zf zl zmc zms ci fs [] Ψz)
    (kk : ∀ (q : Nat) (W1 : va_W) (H1 : Heap) (locs1 : List Loc), Ψz ca q W1 → va_P D vwCl W1 H1 → va_D (lw_B s) W1 → va_P D vwCl W2 H1 → (∀ (i j : Nat) (x y : Nat × va_E), W1[i]? = some x → W2[j]? = some y → x.1 ≠ y.1) → va_S (lw_B s) s.heap H1 locs1 → W p l e room_1 s m #[Value.ref b] below meth c H1 locs1 (k + 1 + zmc) (j + N + zms) Q (F0 m (pc + 3 + 1 + 3) ls [.ref q])) : W p l e room_1 s m #[Value.ref b] below meth c H locs k j Q (F0 m pc ls []) := by
  obtain ⟨hx, hb, hr, hml, hown, hts0, hX, hbl, hlocks, hgv⟩ := C0
  have hts : ∀ w ∈ cw, w.before #[Value.ref b] s = true := fun w hw => hts0 w (cw_in hw)
  refine va_new hx hb hts hin ty hty hown (hts _ h1) (hts _ h2) (hts _ h3) hKK.1 hP2 hD2 hS (fun q h => h) hc hfs (by show k + 1 ≤ 600000; omega) (by show j + N ≤ 7302250; omega) d1 (fun q H hP hD hS => ?_)
  refine lv_dup hx hb d2 rfl ?_
  have hq : (W2 ++ [(q, (.inr (ci, fs) : va_E))])[W2.length]? = some (q, .inr (ci, fs)) := by simp
  have hPc : va_P D vwCl [(q, .inr (ci, fs))] H := hP.sub [W2.length] (by simp)
  have hDc : va_D (lw_B s) [(q, .inr (ci, fs))] := hD.sub [W2.length] (by rfl) (by simp)
  have hA0 : ∀ x, i_A q H.size x → lw_B s x := fun x h => h.elim (fun e => by subst e; exact hD.2 _ _ hq) (fun h => Nat.le_trans hS.1 h)
  refine va_callv (va_runI (As := []) (rest := [.ref q]) (b := q) ⟨hx, hb, hml, hown, hts⟩ (hM l D ca q H.size) ⟨callB_of 0 hts (k_goodIn g3) rfl rfl rfl (hts _ g2) (hts _ g1) g4 hR, hzn, hts _ g5⟩ ⟨fun a U g mk q => ?_, fun U hU hW => ⟨rfl, by rw [hU], by rw [hU]; exact hPc, ⟨k_K.warm hW hKK, k_O.warm hW hO⟩, hDc.weaken (fun _ _ _ _ => trivial)⟩⟩ rfl rfl hl.1 rfl (lv_room (Nat.le_of_ble_eq_true rfl)) d3 ⟨hk, hj⟩) hS (fun x _ h => hA0 x h) (fun x h => hA0 x h) (fun W1 t H1 locs1 ht hvm hw hB hz1 hk1 hS1 => ?_)
  · obtain ⟨q0, q1, qP, qK, qD⟩ := q
    exact ⟨q0, q1, qP, ⟨⟨va_K.moved (u := U) (U := U.calling g mk a) (Vm.Alike.refl U.vm) qK.1.1, k_N.same (s := U) (U := U.calling g mk a) rfl qK.1.2⟩, ⟨va_AO.moved (u := U) (U := U.calling g mk a) (Vm.Alike.refl U.vm) qK.2.1, va_AOA.moved (u := U) (U := U.calling g mk a) (Vm.Alike.refl U.vm) qK.2.2⟩⟩, qD⟩
  · obtain ⟨hP1, hK1, hD1⟩ := hB
    rw [ht] at hP1
    have hat : ∀ (j : Nat) (y : Nat × va_E), W2[j]? = some y → (W2 ++ [(q, (.inr (ci, fs) : va_E))])[j]? = some y := fun j y hy => by
      rw [List.getElem?_append_left (List.getElem?_eq_some_iff.mp hy).1]; exact hy
    have hno : ∀ (j : Nat) (y : Nat × va_E), W2[j]? = some y → y.1 < H.size ∧ ¬ i_A q H.size y.1 := fun j y hy => by
      have h9 := (hP j y (hat j y hy)).lt
      refine ⟨h9, fun h => h.elim (fun e => ?_) (fun h => absurd h9 (Nat.not_lt.mpr h))⟩
      have := hD.1 j W2.length y _ (hat j y hy) hq e
      have := (List.getElem?_eq_some_iff.mp hy).1
      omega
    exact kk q W1 H1 locs1 hw hP1 (hD1.weaken (fun _ _ _ h => hA0 _ h)) (fun j y hy => (hP j y (hat j y hy)).kept (hk1 y.1 (hno j y hy).1 (hno j y hy).2)) (fun i j x y hx1 hy he => (hno j y hy).2 (he ▸ hD1.2 i x hx1)) hS1
end LMK

theorem k_ok_app {N : Nat} {sh : List kE} {q : Nat × Nat} (h : ∀ e ∈ sh, k_ok N e) : ∀ e ∈ sh ++ [(.inr (.inl q) : kE)], k_ok N e := fun e he => by
  rcases List.mem_append.mp he with z | z
  · exact h e z
  · rw [List.mem_singleton] at z
    subst z
    exact trivial
theorem shL_eq : (((shC ++ [(.inr (.inl (0, 27)) : kE)]) ++ [.inr (.inl (0, 36))]) ++ [.inr (.inl (0, 19))]) ++ [.inr (.inl (0, 24))] = shL := by
  rw [List.append_assoc, List.append_assoc, List.append_assoc]
  rfl

set_option maxRecDepth 100000 in
set_option maxHeartbeats 4000000 in
theorem law_7 : LJ room_1 1000 10000 true lawQ shC RL code 15 (some .boolean) 7 [(0, .ref 1000)] [.ref 0] kw0 := by
  have hq0 : Rel 0 0 0 (k_zr 39 kw0) kg0 := rel0.cg (fun j hj => if_neg (by omega))
  refine l_astore_n dL_law_7 (by decide) ?_
  refine l_bipush (v := 27) dL_law_8 (by decide) ?_
  refine l_newa (N := 27) (M := 39) rfl (by decide) (by decide) shC_ok rfl rfl dL_law_10 ⟨by decide, by decide⟩ (by decide) (by decide) (by decide) ?_
  refine l_astore_n dL_law_12 (by decide) ?_
  refine l_aload_n dL_law_13 rfl ?_
  refine l_aload_n dL_law_14 rfl ?_
  refine l_iconst (v := 0) dL_law_15 (by decide) ?_
  refine l_bipush (v := 6) dL_law_16 (by decide) ?_
  refine l_aload_n dL_law_18 rfl ?_
  refine l_callX5 ⟨Nat.le_of_ble_eq_true rfl, Nat.le_of_ble_eq_true rfl⟩ dL_law_19 lk_L_48 ⟨Nat.le_of_ble_eq_true rfl, Nat.le_of_ble_eq_true rfl⟩ (Nat.le_of_ble_eq_true rfl) (s_L_put hq0 (by decide +kernel)) (fun r w19 h19 => ?_)
  obtain ⟨n, g1, rfl, hT⟩ := h19
  obtain ⟨⟨n0, c0, q0, hq1⟩, -⟩ := id hT.1
  have hn2 := hT.2.1
  have hn6 := hT.2.2.1
  refine l_istore_n dL_law_22 (by decide) ?_
  refine l_aload_n dL_law_23 rfl ?_
  refine l_iconst (v := 0) dL_law_24 (by decide) ?_
  refine l_ialdN dL_law_25 rfl ⟨by decide, by decide⟩ ?_
  refine l_topi (y := nI n) hT.2.2.2.2.2.1 ?_
  refine l_istore dL_law_26 (by decide) ?_
  refine l_iload_n dL_law_28 rfl ?_
  refine l_bipush (v := 12) dL_law_29 (by decide) ?_
  refine l_icmp_lt (tgt := 47) dL_law_31 (by decide) (fun h31 => ?_) (fun h31 => ?_)
  · exact absurd h31 (nI_nlt (b := 12) (by omega) (by omega))
  · refine l_aload_n dL_law_34 rfl ?_
    refine l_iconst (v := 0) dL_law_35 (by decide) ?_
    refine l_iconst (v := 0) dL_law_36 (by decide) ?_
    refine l_iconst (v := 0) dL_law_37 (by decide) ?_
    refine l_iload_n dL_law_38 rfl ?_
    refine l_callV4 ⟨Nat.le_of_ble_eq_true rfl, Nat.le_of_ble_eq_true rfl⟩ dL_law_39 lk_L_51 rfl rfl rfl ⟨Nat.le_of_ble_eq_true rfl, Nat.le_of_ble_eq_true rfl⟩ (Nat.le_of_ble_eq_true rfl) (Spec.up (sx := [.inr (.inl (0, 27))]) (s_X7_coast hq1)) (fun r w39 h39 => ?_)
    obtain ⟨rfl, hr9, hk9⟩ := up_C hT hq1 h39
    refine l_iload dL_law_42 rfl ?_
    refine l_icmp_eq (tgt := 49) dL_law_44 (by decide) (fun h44 => ?_) (fun h44 => ?_)
    · refine l_bipush (v := 36) dL_law_49 (by decide) ?_
      refine l_newa (N := 36) (M := 40) rfl (by decide) (by decide) (k_ok_app shC_ok) rfl rfl dL_law_51 ⟨by decide, by decide⟩ (by decide) (by decide) (by decide) ?_
      refine l_astore dL_law_53 (by decide) ?_
      refine l_bipush (v := 19) dL_law_55 (by decide) ?_
      refine l_newa (N := 19) (M := 41) rfl (by decide) (by decide) (k_ok_app (k_ok_app shC_ok)) rfl rfl dL_law_57 ⟨by decide, by decide⟩ (by decide) (by decide) (by decide) ?_
      refine l_astore dL_law_59 (by decide) ?_
      refine l_bipush (v := 24) dL_law_61 (by decide) ?_
      refine l_newa (N := 24) (M := 42) rfl (by decide) (by decide) (k_ok_app (k_ok_app (k_ok_app shC_ok))) rfl rfl dL_law_63 ⟨by decide, by decide⟩ (by decide) (by decide) (by decide) ?_
      refine l_astore dL_law_65 (by decide) ?_
      refine l_iconst (v := 0) dL_law_67 (by decide) ?_
      refine l_istore dL_law_68 (by decide) ?_
      refine l_sub [8, 7, 6, 4, 3, 2, 1, 0] rfl ?_
      rw [shL_eq]
      refine law_70 (n := n) 4 0 (by decide) 0 _ (gCst n w19 g1) (gCst_gL hT hr9 hk9 (fun j hj => ?_)) hT.1.2.2.2 (fun z => absurd z (Nat.lt_irrefl _))
      show (if j = 42 then _ else if j = 41 then _ else if j = 40 then _ else w39.1 j) = w39.1 j
      rw [if_neg (by omega), if_neg (by omega), if_neg (by omega)]
    · exact absurd rfl h44

set_option maxRecDepth 100000 in
set_option maxHeartbeats 4000000 in
/-- THE LAW, from its entry -/
theorem whole_start {p : Program} {e : Env} {s : State} {m : MethodId} {below : List Frame} {meth : Method} {c : Code} (l : Launch) (hflags : l.flags = flags0) {b L : Nat} {xs : Nat → Int32} (hL : L ≤ 260) (C0 : lw_At p s m meth c b L xs) : W p l e room_1 s m #[Value.ref b] below meth c s.heap [] 0 0 (lw_Z below #[Value.ref b] s) (entryFrame m ([Value.ref b] : List Value).toArray 15) := by
  obtain ⟨D, ca, hKK, hO⟩ := lw_known C0
  have hS : va_S (lw_B s) s.heap s.heap [] := va_S.rf
  have hP : va_P D vwCl [] s.heap := fun k q h => by simp at h
  have hD : va_D (lw_B s) [] := ⟨fun i j p q h => by simp at h, fun k q h => by simp at h⟩
  have hl := lv_entry ([.ref b]) (n := 15) (Nat.le_of_ble_eq_true rfl)
  rw [lg_entry_eq]
  generalize (lg_sl ([.ref b]) ++ List.replicate (15 - (lg_sl ([.ref b])).length) Slot.unset).toArray = ls at hl ⊢
  have hl : lv_has ls 15 [(0, .ref b)] := hl
  have hx := C0.1
  have hb := C0.2.1
  refine lw_make (ci := 6) (C := RX7) (T := TX7) (N := 7) (fs := [.null, .null, .null, .null, .null, .int 0, .int 0]) (ty := tyX7) C0 hKK hO hP hD hS hl dL_law_0 dL_law_3 dL_law_4 rfl in_X7 tyX7_ok (cw_1 11 rfl rfl) (cw_1 12 rfl rfl) (cw_1 1 rfl rfl) (fun j hj => by rcases (show j = 0 ∨ j = 1 ∨ j = 2 ∨ j = 3 ∨ j = 4 ∨ j = 5 ∨ j = 6 by omega) with rfl | rfl | rfl | rfl | rfl | rfl | rfl <;> rfl) (cw_1 13 rfl rfl) (cw_1 1 rfl rfl) (cw_1 15 rfl rfl) ⟨by decide +kernel, by decide +kernel, by decide +kernel⟩ (cw_1 14 rfl rfl) rfl ⟨by decide, by decide⟩ (by decide) (by decide) s_X7_init (fun q0 W1 H1 locs1 hw hP1 hD1 _ _ hS1 => ?_)
  obtain ⟨q1, q2, q3, q4, q5, q6, q7, q8, q9, q10, q11, q12, q13, q14, q15, q16, q17, r18, q19, q20, q21, q22, q23, q24, q25, q26, q27, q28, q29, q30, q31, q32, q33, rfl⟩ := hw
  have hP2 : va_P D vwCl (Wc7 ca q0 q1 q2 q3 q4 q5 q6 q7 q8 q9 q10 q11 q12 q13 q14 q15 q16 q17 r18 q19 q20 q21 q22 q23 q24 q25 q26 q27 q28 q29 q30 q31 q32 q33) H1 := hP1.sub [0, 1, 2, 3, 4, 5, 6, 7, 8, 9, 10, 11, 12, 13, 14, 15, 16, 17, 18, 19, 20, 21, 22, 23, 24, 25, 26, 27, 28, 29, 30, 31, 33, 35, 37, 32, 34, 36, 38] rfl
  have hD2 : va_D (lw_B s) (Wc7 ca q0 q1 q2 q3 q4 q5 q6 q7 q8 q9 q10 q11 q12 q13 q14 q15 q16 q17 r18 q19 q20 q21 q22 q23 q24 q25 q26 q27 q28 q29 q30 q31 q32 q33) := hD1.sub [0, 1, 2, 3, 4, 5, 6, 7, 8, 9, 10, 11, 12, 13, 14, 15, 16, 17, 18, 19, 20, 21, 22, 23, 24, 25, 26, 27, 28, 29, 30, 31, 33, 35, 37, 32, 34, 36, 38] (by decide) rfl
  obtain ⟨hP3, hD3⟩ := k_of_W hP2 hD2 (wc7_all ca q0 q1 q2 q3 q4 q5 q6 q7 q8 q9 q10 q11 q12 q13 q14 q15 q16 q17 r18 q19 q20 q21 q22 q23 q24 q25 q26 q27 q28 q29 q30 q31 q32 q33)
  have hq0 : adc7 q0 q1 q2 q3 q4 q5 q6 q7 q8 q9 q10 q11 q12 q13 q14 q15 q16 q17 r18 q19 q20 q21 q22 q23 q24 q25 q26 q27 q28 q29 q30 q31 q32 q33 0 = q0 := rfl
  generalize adc7 q0 q1 q2 q3 q4 q5 q6 q7 q8 q9 q10 q11 q12 q13 q14 q15 q16 q17 r18 q19 q20 q21 q22 q23 q24 q25 q26 q27 q28 q29 q30 q31 q32 q33 = ad at hP3 hD3 hq0
  have e9 : (fun c => if c = 1000 then b else ad c) 1000 = b := if_pos rfl
  have ewd : k_wd (fun c => if c = 1000 then b else ad c) ca shC kw0 = k_wd ad ca shC kw0 := k_wd_ad (N := 39) shC_ok (Nat.le_refl _) (fun r hr => if_neg (by have h39 : r < 39 := hr; omega))
  have hfr : ∀ c, c < shC.length → s.heap.size ≤ (fun c => if c = 1000 then b else ad c) c := fun c hc => by
    have h39 : c < 39 := hc
    show s.heap.size ≤ (if c = 1000 then b else ad c)
    rw [if_neg (by omega)]
    exact hD3.2 c _ (k_wd_get (List.getElem?_eq_getElem hc))
  obtain ⟨_, _, hr, hml, hown, hts0, hX, hbl, hlocks, hgv⟩ := id C0
  refine W.widen (k := 1000) (n := 10000) (by decide) (by decide) ?_
  have key := law_7 p l e s m #[Value.ref b] below meth c D ca (fun c => if c = 1000 then b else ad c) H1 locs1 ls ⟨hx, hb, hml, hown, fun w hw => hts0 w (cw_in hw), hr, hlocks, hKK⟩ ⟨⟨L, xs, hL, by rw [e9]; exact hX⟩, by rw [e9]; exact hbl, fun c hc z => by rw [e9] at z; have := hfr c hc; rw [z] at this; omega, fun _ => hfr⟩ (by rw [ewd]; exact hP3) (by rw [ewd]; exact hD3.weaken (fun _ _ _ h => Or.inr h)) ⟨hS1.1, fun x h1 h2 => hS1.2.1 x h1 (fun z => h2 (Or.inr z)), fun z hz => Or.inr (hS1.2.2 z hz)⟩ (by
    show lv_has ls 15 [(0, .ref (if 1000 = 1000 then b else ad 1000))]
    rw [if_pos rfl]; exact hl)
  intro T hT X
  have e0 : ([Value.ref 0].map (k_v (fun c => if c = 1000 then b else ad c))) = [Value.ref q0] := by
    show [Value.ref (if 0 = 1000 then b else ad 0)] = _
    rw [if_neg (by decide), hq0]
  rw [e0] at key
  obtain ⟨t, a1, b1⟩ := key T hT X
  exact ⟨t, a1, b1 ⟨b, rfl⟩⟩
