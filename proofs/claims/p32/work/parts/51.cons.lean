section IBH
variable {D : va_G} {ca : Nat → ClassId} {h0 : Nat} {own : String} {cc : ByteArray} {n fr lo mc ms : Nat} {Ψ : va_W → Prop} {pc : Nat} {L : List (Nat × Value)} {st : List Value} {ws : va_W} {k j : Nat}
theorem i_newa {at' : ArrayType} {t N : Nat} {x : Int32} (hd : decode cc pc = .ok (.newarray at', 2)) (ht : (at' = .int ∧ t = 0) ∨ (at' = .boolean ∧ t = 1)) (hw : Cond.arrayClass (newarray.typeOf at') ∈ cw) (hx : ¬ x < 0 ∧ x.toNatClampNeg = N) (hN : N ≤ 1000) (hk : k + 1 ≤ mc) (hj : j + N ≤ ms) (kk : ∀ q : Nat, IB D ca h0 own cc n fr lo mc ms Ψ (pc + 2) L (.ref q :: st) (ws ++ [(q, .inl (ca t, N, .inl (fun _ => 0)))]) (k + 1) (j + N)) : IB D ca h0 own cc n fr lo mc ms Ψ pc L (.int x :: st) ws k j := by
  intro p l e s m args below meth c H locs ls cx hP hD hS hl
  have hK := cx.2.2.2.2.2.2.2.2.1.1
  have hA : ∀ q, s.heap.size ≤ q → i_A h0 s.heap.size q := fun q h => Or.inr h
  rcases ht with ⟨rfl, rfl⟩ | ⟨rfl, rfl⟩
  · refine va_newa (ty := .int) (a0 := (N, .inl (fun _ => 0))) cx.1 cx.2.1 (cx.2.2.2.2.1 _ hw) rfl hK hP hD hS hA (fun _ => rfl) hx.1 hx.2 (by show N * 4 ≤ _; omega) hk hj hd (fun q cA H1 hK1 hP1 hD1 hS1 => ?_)
    have e1 : s.vm.findClass ("[" ++ FieldType.int.toString) = some cA := (hK1.2 4 (cA, .int) rfl).2
    have e2 : s.vm.findClass ("[" ++ FieldType.int.toString) = some (ca 0) := (hK.2 0 (ca 0, .int) rfl).2
    obtain rfl : ca 0 = cA := Option.some.inj (e2.symm.trans e1)
    exact kk q p l e s m args below meth c H1 locs ls cx hP1 hD1 hS1 hl
  · refine va_newa (ty := .boolean) (a0 := (N, .inl (fun _ => 0))) cx.1 cx.2.1 (cx.2.2.2.2.1 _ hw) rfl hK hP hD hS hA (fun _ => rfl) hx.1 hx.2 (by show N * 1 ≤ _; omega) hk hj hd (fun q cA H1 hK1 hP1 hD1 hS1 => ?_)
    have e1 : s.vm.findClass ("[" ++ FieldType.boolean.toString) = some cA := (hK1.2 4 (cA, .boolean) rfl).2
    have e2 : s.vm.findClass ("[" ++ FieldType.boolean.toString) = some (ca 1) := (hK.2 1 (ca 1, .boolean) rfl).2
    obtain rfl : ca 1 = cA := Option.some.inj (e2.symm.trans e1)
    exact kk q p l e s m args below meth c H1 locs ls cx hP1 hD1 hS1 hl
/-- a store into a final field of references -/
def k_ffs (own : String) (ci f : Nat) : Prop := ∃ (C : String) (T : u_T) (N : Nat) (t0 : Nat → FieldType) (ty : FieldType), vwCl[ci]? = some (C, T, N) ∧ (∀ a, a < N → parseFieldDescriptor (T a).2.2.1 = some (t0 a)) ∧ (∀ a, a < N → ∀ b, b < N → a ≠ b → (T a).2.1 ≠ (T b).2.1) ∧ (T f).2.2.2 = true ∧ (T f).1 = own ∧ parseFieldDescriptor (T f).2.2.1 = some ty ∧ (∀ a : Nat, narrow ty (.ref a) = .ref a ∧ fits ty (.ref a) = true)
theorem i_put {ix a b ci f i : Nat} {fs : List Value} (hd : decode cc pc = .ok (.putfield ix, 3)) (hF : k_fld own ix ci f) (hG : k_ffs own ci f) (he : ws[i]? = some (a, .inr (ci, fs))) (hl9 : f < fs.length) (kk : IB D ca h0 own cc n fr lo mc ms Ψ (pc + 3) L st (ws.set i (a, .inr (ci, fs.set f (.ref b)))) k j) : IB D ca h0 own cc n fr lo mc ms Ψ pc L (.ref b :: .ref a :: st) ws k j := by
  intro p l e s m args below meth c H locs ls cx hP hD hS hl
  obtain ⟨C, T, N, hcl, hin, hk, hlk⟩ := hF
  obtain ⟨C', T', N', t0, ty, hcl', hty, hnm, hfin, hdecl, hpd, hnf⟩ := hG
  cases hcl.symm.trans hcl'
  exact va_putF (v := .ref b) cx.1 cx.2.1 cx.2.2.2.2.1 hin t0 hty hnm cx.2.2.2.1 cx.2.2.2.2.2.2.2.2.1.1 hP hD hS i he hcl f hk (cx.2.2.2.2.1 _ hlk) (fun x h => h) hfin cx.2.2.2.2.2.2.2.1 hdecl hpd (hnf b).1 (hnf b).2 hl9 hd (fun H1 locs1 hP1 hD1 hS1 => kk p l e s m args below meth c H1 locs1 ls cx hP1 hD1 hS1 hl)
theorem i_get {ix a ci f i : Nat} {fs : List Value} {v : Value} (hd : decode cc pc = .ok (.getfield ix, 3)) (hF : k_fld own ix ci f) (he : ws[i]? = some (a, .inr (ci, fs))) (hv : fs[f]? = some v) (kk : IB D ca h0 own cc n fr lo mc ms Ψ (pc + 3) L (v :: st) ws k j) : IB D ca h0 own cc n fr lo mc ms Ψ pc L (.ref a :: st) ws k j := by
  intro p l e s m args below meth c H locs ls cx hP hD hS hl
  obtain ⟨C, T, N, hcl, hin, hk, hlk⟩ := hF
  exact va_get cx.1 cx.2.1 cx.2.2.2.2.1 hin cx.2.2.2.1 cx.2.2.2.2.2.2.2.2.1.1 hP i he hcl f hk (cx.2.2.2.2.1 _ hlk) (fun x h => h) hv hd (kk p l e s m args below meth c H locs ls cx hP hD hS hl)
theorem i_new {ix ci N : Nat} {C : String} {T : u_T} {fs : List Value} {ty : Nat → FieldType} (hd : decode cc pc = .ok (.new ix, 3)) (hc : vwCl[ci]? = some (C, T, N)) (hin : ∀ w ∈ u_ws C T N, w ∈ cw) (hty : ∀ k, k < N → parseFieldDescriptor (T k).2.2.1 = some (ty k)) (h1 : Cond.classLink own ix C ∈ cw) (h2 : Cond.instantiable C N ∈ cw) (h3 : Cond.initialized C ∈ cw) (hfs : ∀ j, j < N → defaultValue (ty j) = vp_V fs j) (hk : k + 1 ≤ mc) (hj : j + N ≤ ms) (kk : ∀ q : Nat, IB D ca h0 own cc n fr lo mc ms Ψ (pc + 3) L (.ref q :: st) (ws ++ [(q, .inr (ci, fs))]) (k + 1) (j + N)) : IB D ca h0 own cc n fr lo mc ms Ψ pc L st ws k j := by
  intro p l e s m args below meth c H locs ls cx hP hD hS hl
  exact va_new cx.1 cx.2.1 cx.2.2.2.2.1 hin ty hty cx.2.2.2.1 (cx.2.2.2.2.1 _ h1) (cx.2.2.2.2.1 _ h2) (cx.2.2.2.2.1 _ h3) cx.2.2.2.2.2.2.2.2.1.1 hP hD hS (fun q h => Or.inr h) hc hfs hk hj hd (fun q H1 hP1 hD1 hS1 => kk q p l e s m args below meth c H1 locs ls cx hP1 hD1 hS1 hl)
theorem i_newq {ix N : Nat} {x : Int32} (hd : decode cc pc = .ok (.anewarray ix, 3)) (h1 : Cond.classLink own ix "DuelSeconds$Sheet" ∈ cw) (hx : ¬ x < 0 ∧ x.toNatClampNeg = N) (hN : N ≤ 1000) (hk : k + 1 ≤ mc) (hj : j + N ≤ ms) (kk : ∀ q : Nat, IB D ca h0 own cc n fr lo mc ms Ψ (pc + 3) L (.ref q :: st) (ws ++ [(q, .inl (ca 2, N, .inr (.inr (.inr (.inr (fun _ => none))))))]) (k + 1) (j + N)) : IB D ca h0 own cc n fr lo mc ms Ψ pc L (.int x :: st) ws k j := by
  intro p l e s m args below meth c H locs ls cx hP hD hS hl
  have hK := cx.2.2.2.2.2.2.2.2.1.1
  refine va_newq cx.1 cx.2.1 cx.2.2.2.1 (cx.2.2.2.2.1 _ h1) cx.2.2.2.2.2.2.2.2.2.1 hK hP hD hS (fun q h => Or.inr h) hx.1 hx.2 (by omega) hk hj hd (fun q cA H1 hK1 hP1 hD1 hS1 => ?_)
  obtain ⟨_, _, _, _, _, e1⟩ := (hK1.2 4 (cA, .object "DuelSeconds$Sheet") rfl).2
  obtain ⟨_, _, _, _, _, e2⟩ := (hK.2 2 (ca 2, .object "DuelSeconds$Sheet") rfl).2
  obtain rfl : ca 2 = cA := Option.some.inj (e2.symm.trans e1)
  exact kk q p l e s m args below meth c H1 locs ls cx hP1 hD1 hS1 hl
theorem i_astq {a b i i2 N : Nat} {g : Nat → Option Nat} {x : Int32} {vs : List Value} {q : vw_C} {ci : Nat} (hd : decode cc pc = .ok (.aastore, 1)) (ha : ws[i]? = some (a, .inl (ca 2, N, .inr (.inr (.inr (.inr g)))))) (hv : ws[i2]? = some (b, .inr (ci, vs))) (hc : vwCl[ci]? = some q) (hq : q.1 = "DuelSeconds$Sheet") (hin : vp_in x N) (kk : IB D ca h0 own cc n fr lo mc ms Ψ (pc + 1) L st (ws.set i (a, .inl (ca 2, N, .inr (.inr (.inr (.inr (va_up g x.toNatClampNeg (some b)))))))) k j) : IB D ca h0 own cc n fr lo mc ms Ψ pc L (.ref b :: .int x :: .ref a :: st) ws k j := by
  intro p l e s m args below meth c H locs ls cx hP hD hS hl
  exact va_astq cx.1 cx.2.1 cx.2.2.2.2.2.2.2.2.1.1 hP hD hS i 2 i2 ci ha (by rw [hq]; rfl) hv hc hin hd (fun H1 locs1 hP1 hD1 hS1 => kk p l e s m args below meth c H1 locs1 ls cx hP1 hD1 hS1 hl)
theorem i_mna {ix : Nat} (hd : decode cc pc = .ok (.multianewarray ix 2, 4)) (h1 : Cond.classLink own ix "[[I" ∈ cw) (hw : Cond.arrayClass .int ∈ cw) (hk : k + 7 ≤ mc) (hj : j + (6 + 6 * 180) ≤ ms) (kk : ∀ (q : Nat) (r : Nat → Nat), IB D ca h0 own cc n fr lo mc ms Ψ (pc + 4) L (.ref q :: st) (ws ++ ((q, .inl (ca 3, 6, .inr (.inr (.inr (.inr (fun i => if i < 6 then some (r i) else none)))))) :: [(r 0, .inl (ca 0, 180, .inl (fun _ => 0))), (r 1, .inl (ca 0, 180, .inl (fun _ => 0))), (r 2, .inl (ca 0, 180, .inl (fun _ => 0))), (r 3, .inl (ca 0, 180, .inl (fun _ => 0))), (r 4, .inl (ca 0, 180, .inl (fun _ => 0))), (r 5, .inl (ca 0, 180, .inl (fun _ => 0)))])) (k + 7) (j + (6 + 6 * 180))) : IB D ca h0 own cc n fr lo mc ms Ψ pc L (.int 180 :: .int 6 :: st) ws k j := by
  intro p l e s m args below meth c H locs ls cx hP hD hS hl
  have hK := cx.2.2.2.2.2.2.2.2.1.1
  have e2 : s.vm.findClass (FieldType.array .int).toString = some (ca 0) := (hK.2 0 (ca 0, .int) rfl).2
  refine va_mna (X := ws) (L := []) (f := fun _ => .inr (0, [])) (ty := .int) (cy := ca 0) (z := (180, .inl (fun _ => 0))) cx.1 cx.2.1 cx.2.2.2.1 (cx.2.2.2.2.1 _ h1) cx.2.2.2.2.2.2.2.2.2.2 (cx.2.2.2.2.1 _ hw) e2 hK (by rw [show va_pl [] (fun _ => (.inr (0, []) : va_E)) = [] from rfl, List.append_nil]; exact hP) (by rw [show va_pl [] (fun _ => (.inr (0, []) : va_E)) = [] from rfl, List.append_nil]; exact hD) hS (fun q h => Or.inr h) (n := 6) (k := 180) (N' := 6) (K' := 180) (by decide) (by decide) (by decide) (by decide) (by decide) (by decide) (by decide) rfl rfl (by omega) (by omega) (fun c => ?_) hd (fun q r cA H1 hr1 hr2 hK1 hP1 hD1 hS1 => ?_)
  · show ({ cls := c, slots := Array.replicate 180 (.int 0), vm := .none } : Cell) = arrV c 180 (fun _ => .int 0)
    exact arrV_new ..
  · have e1 : s.vm.findClass ("[" ++ (FieldType.array .int).toString) = some cA := (hK1.2 4 (cA, .array .int) rfl).2
    have e3 : s.vm.findClass ("[" ++ (FieldType.array .int).toString) = some (ca 3) := (hK.2 3 (ca 3, .array .int) rfl).2
    obtain rfl : ca 3 = cA := Option.some.inj (e3.symm.trans e1)
    have el : va_pl ([] ++ (List.range 6).map r) (vr_up (fun _ => (.inr (0, []) : va_E)) ((List.range 6).map r) (.inl (ca 0, 180, .inl (fun _ => 0)))) = [(r 0, .inl (ca 0, 180, .inl (fun _ => 0))), (r 1, .inl (ca 0, 180, .inl (fun _ => 0))), (r 2, .inl (ca 0, 180, .inl (fun _ => 0))), (r 3, .inl (ca 0, 180, .inl (fun _ => 0))), (r 4, .inl (ca 0, 180, .inl (fun _ => 0))), (r 5, .inl (ca 0, 180, .inl (fun _ => 0)))] := by
      have hm : ∀ i, i < 6 → vr_up (fun _ => (.inr (0, []) : va_E)) ((List.range 6).map r) (.inl (ca 0, 180, .inl (fun _ => 0))) (r i) = .inl (ca 0, 180, .inl (fun _ => 0)) := fun i hi => vr_up_in (List.mem_map.mpr ⟨i, List.mem_range.mpr hi, rfl⟩)
      show [(r 0, vr_up _ _ _ (r 0)), (r 1, vr_up _ _ _ (r 1)), (r 2, vr_up _ _ _ (r 2)), (r 3, vr_up _ _ _ (r 3)), (r 4, vr_up _ _ _ (r 4)), (r 5, vr_up _ _ _ (r 5))] = _
      rw [hm 0 (by decide), hm 1 (by decide), hm 2 (by decide), hm 3 (by decide), hm 4 (by decide), hm 5 (by decide)]
    rw [el, List.append_assoc] at hP1 hD1
    exact kk q r p l e s m args below meth c H1 locs ls cx hP1 hD1 hS1 hl
theorem i_istore {i : Fin 4} {x : Int32} {L' : List (Nat × Value)} (hd : decode cc pc = .ok (.istore_n i, 1)) (hi : (i : Nat) < n) (hL : ((i : Nat), Value.int x) :: L.filter (fun q => !(q.1 == (i : Nat)) && !(q.1 + 1 == (i : Nat) && q.2.category == 2)) = L') (kk : IB D ca h0 own cc n fr lo mc ms Ψ (pc + 1) L' st ws k j) : IB D ca h0 own cc n fr lo mc ms Ψ pc L (.int x :: st) ws k j := by
  intro p l e s m args below meth c H locs ls cx hP hD hS hl
  exact lv_istore_n (lv' := L') cx.1 cx.2.1 hd rfl hl hi hL (fun ls hl => kk p l e s m args below meth c H locs ls cx hP hD hS hl)
theorem i_iinc {i a : Nat} {d : Int} {x v : Int32} {L' : List (Nat × Value)} (hd : decode cc pc = .ok (.iinc i d, 3)) (ha : L[a]? = some (i, .int x)) (hv : x + Int32.ofInt d = v) (hi : i < n) (hL : (i, Value.int v) :: L.filter (fun q => !(q.1 == i) && !(q.1 + 1 == i && q.2.category == 2)) = L') (kk : IB D ca h0 own cc n fr lo mc ms Ψ (pc + 3) L' st ws k j) : IB D ca h0 own cc n fr lo mc ms Ψ pc L st ws k j := by
  intro p l e s m args below meth c H locs ls cx hP hD hS hl
  exact lv_iinc (lv' := L') cx.1 cx.2.1 hd hl ha hv hi hL (fun ls hl => kk p l e s m args below meth c H locs ls cx hP hD hS hl)
theorem i_icmp_ge {x y : Int32} {off : Int} {tgt : Nat} (hd : decode cc pc = .ok (.if_icmp .ge off, 3)) (ht : (pc : Int) + off = (tgt : Int)) (kt : y ≤ x → IB D ca h0 own cc n fr lo mc ms Ψ tgt L st ws k j) (kf : ¬ y ≤ x → IB D ca h0 own cc n fr lo mc ms Ψ (pc + 3) L st ws k j) : IB D ca h0 own cc n fr lo mc ms Ψ pc L (.int y :: .int x :: st) ws k j := by
  intro p l e s m args below meth c H locs ls cx hP hD hS hl
  exact lv_icmp_ge cx.1 cx.2.1 hd ht (fun h => kt h p l e s m args below meth c H locs ls cx hP hD hS hl) (fun h => kf h p l e s m args below meth c H locs ls cx hP hD hS hl)
theorem i_call {z : MethodName} {zc : ByteArray} {zn zf zl zmc zms ix a q ci i : Nat} {fs As : List Value} {wr : va_W} {Ψz : (Nat → ClassId) → Nat → va_W → Prop} (isR : List Nat) (hd : decode cc pc = .ok (.invokespecial ix, 3)) (hlk : Cond.methodLink own ix z ∈ cw) (h2 : Cond.initialized z.cls ∈ cw) (h3 : Cond.code z zc zn none ∈ cw) (h4 : z.cls ≠ "java/lang/invoke/MethodHandle" ∧ z.cls ≠ "java/lang/invoke/VarHandle" ∧ (parseMethodDescriptor z.desc).map (fun d => d.parameters.length) = some a) (h5 : Cond.instanceMethod z ∈ cw) (hzn : z.name = "<init>") (hn : As.length = a) (hR : zf + 1 ≤ fr ∧ 8 + (zn + 11) + zl ≤ lo) (hs : (st.map fun v => v.category).sum ≤ 8) (hkj : k + zmc ≤ mc ∧ j + zms ≤ ms)
    (hM : ISpec z zc zn zf zl zmc zms ci fs As Ψz) (hC : ws[i]? = some (q, .inr (ci, fs))) (hRr : isR.map (fun i => ws[i]?) = wr.map some) (hnd : va_nd isR = true) (hdis : i ∉ isR) (kk : ∀ W : va_W, Ψz ca q W → IB D ca h0 own cc n fr lo mc ms Ψ (pc + 3) L st (wr ++ W) (k + zmc) (j + zms)) : IB D ca h0 own cc n fr lo mc ms Ψ pc L (As.reverse ++ .ref q :: st) ws k j := by
  intro p l e s m args below meth c H locs ls cx hP hD hS hl
  have hK := cx.2.2.2.2.2.2.2.2.1
  have hts := cx.2.2.2.2.1
  have hPc : va_P D vwCl [(q, .inr (ci, fs))] H := hP.sub [i] (by simp [hC])
  have hDc : va_D (i_A h0 s.heap.size) [(q, .inr (ci, fs))] := hD.sub [i] (by rfl) (by simp [hC])
  have hA0 : ∀ x, i_A q H.size x → i_A h0 s.heap.size x := fun x h => h.elim (fun e => by subst e; exact hD.2 i _ hC) (fun h => Or.inr (Nat.le_trans hS.1 h))
  have hAv : ∀ x, va_A [(q, .inr (ci, fs))] H.size x ↔ i_A q H.size x := fun x => ⟨fun h => h.elim (fun ⟨k9, e9, h9⟩ => by
    have hz : k9 < 1 := (List.getElem?_eq_some_iff.mp h9).1
    rw [show k9 = 0 by omega] at h9
    cases h9
    exact Or.inl rfl) Or.inr, fun h => h.elim (fun e => Or.inl ⟨0, _, by subst e; rfl⟩) Or.inr⟩
  refine va_callv (va_runI (As := As) (rest := st) (b := q) ⟨cx.1, cx.2.1, cx.2.2.1, cx.2.2.2.1, hts⟩ (hM l D ca q H.size) ⟨callB_of a hts (k_goodIn h3) rfl rfl rfl (hts _ h2) (hts _ hlk) h4 hR, hzn, hts _ h5⟩ ⟨fun a U g mk q => ?_, fun U hU hW => ⟨rfl, by rw [hU], by rw [hU]; exact hPc, ⟨k_K.warm hW hK, k_O.warm hW cx.2.2.2.2.2.2.2.2.2⟩, hDc.weaken (fun _ _ _ _ => trivial)⟩⟩ rfl hn hl.1 rfl (lv_room hs) hd hkj) hS (fun x _ h => hA0 x h) (fun x h => hA0 x h) (fun W t H1 locs1 ht hvm hw hB hz1 hk1 hS1 => ?_)
  · obtain ⟨q0, q1, qP, qK, qD⟩ := q
    exact ⟨q0, q1, qP, ⟨⟨va_K.moved (u := U) (U := U.calling g mk a) (Vm.Alike.refl U.vm) qK.1.1, k_N.same (s := U) (U := U.calling g mk a) rfl qK.1.2⟩, ⟨va_AO.moved (u := U) (U := U.calling g mk a) (Vm.Alike.refl U.vm) qK.2.1, va_AOA.moved (u := U) (U := U.calling g mk a) (Vm.Alike.refl U.vm) qK.2.2⟩⟩, qD⟩
  · obtain ⟨hP1, hK1, hD1⟩ := hB
    rw [ht] at hP1
    obtain ⟨hP2, hD2⟩ := va_join (wc := [(q, .inr (ci, fs))]) (wr := wr) (w1 := W) hP hD [i] isR (by simp [hC]) hRr hnd (fun x hx h => by
      rw [List.mem_singleton] at h
      subst h
      exact hdis hx) (fun x h1 h2 => hk1 x h1 (fun y => h2 ((hAv x).mpr y))) (fun x h => hA0 x ((hAv x).mp h)) hP1 (hD1.weaken (fun _ _ _ h => (hAv _).mpr h))
    exact kk W hw p l e s m args below meth c H1 locs1 ls cx hP2 hD2 hS1 hl
theorem i_callN {z : MethodName} {zc : ByteArray} {zn zf zl zmc zms ix a q ci i : Nat} {fs As : List Value} {wr : va_W} {Ψz : (Nat → ClassId) → Nat → va_W → Prop} (isR : List Nat) (hd : decode cc pc = .ok (.invokespecial ix, 3)) (hlk : ∃ host : String, (own, ix, z, host) ∈ nst) (h2 : Cond.initialized z.cls ∈ cw) (h3 : Cond.code z zc zn none ∈ cw) (h4 : z.cls ≠ "java/lang/invoke/MethodHandle" ∧ z.cls ≠ "java/lang/invoke/VarHandle" ∧ (parseMethodDescriptor z.desc).map (fun d => d.parameters.length) = some a) (h5 : Cond.instanceMethod z ∈ cw) (hzn : z.name = "<init>") (hn : As.length = a) (hR : zf + 1 ≤ fr ∧ 8 + (zn + 11) + zl ≤ lo) (hs : (st.map fun v => v.category).sum ≤ 8) (hkj : k + zmc ≤ mc ∧ j + zms ≤ ms)
    (hM : ISpec z zc zn zf zl zmc zms ci fs As Ψz) (hC : ws[i]? = some (q, .inr (ci, fs))) (hRr : isR.map (fun i => ws[i]?) = wr.map some) (hnd : va_nd isR = true) (hdis : i ∉ isR) (kk : ∀ W : va_W, Ψz ca q W → IB D ca h0 own cc n fr lo mc ms Ψ (pc + 3) L st (wr ++ W) (k + zmc) (j + zms)) : IB D ca h0 own cc n fr lo mc ms Ψ pc L (As.reverse ++ .ref q :: st) ws k j := by
  intro p l e s m args below meth c H locs ls cx hP hD hS hl
  have hK := cx.2.2.2.2.2.2.2.2.1
  have hts := cx.2.2.2.2.1
  have hPc : va_P D vwCl [(q, .inr (ci, fs))] H := hP.sub [i] (by simp [hC])
  have hDc : va_D (i_A h0 s.heap.size) [(q, .inr (ci, fs))] := hD.sub [i] (by rfl) (by simp [hC])
  have hA0 : ∀ x, i_A q H.size x → i_A h0 s.heap.size x := fun x h => h.elim (fun e => by subst e; exact hD.2 i _ hC) (fun h => Or.inr (Nat.le_trans hS.1 h))
  have hAv : ∀ x, va_A [(q, .inr (ci, fs))] H.size x ↔ i_A q H.size x := fun x => ⟨fun h => h.elim (fun ⟨k9, e9, h9⟩ => by
    have hz : k9 < 1 := (List.getElem?_eq_some_iff.mp h9).1
    rw [show k9 = 0 by omega] at h9
    cases h9
    exact Or.inl rfl) Or.inr, fun h => h.elim (fun e => Or.inl ⟨0, _, by subst e; rfl⟩) Or.inr⟩
  refine va_callv (va_runIN (As := As) (rest := st) (b := q) ⟨cx.1, cx.2.1, cx.2.2.1, cx.2.2.2.1, hts⟩ (hM l D ca q H.size) ⟨va_cnB a hts (k_goodIn h3) rfl rfl rfl (hK.2 _ hlk.choose_spec) (hts _ h2) h4 hR, hzn, hts _ h5⟩ ⟨fun a U g mk q => ?_, fun U hU hW => ⟨rfl, by rw [hU], by rw [hU]; exact hPc, ⟨k_K.warm hW hK, k_O.warm hW cx.2.2.2.2.2.2.2.2.2⟩, hDc.weaken (fun _ _ _ _ => trivial)⟩⟩ rfl hn hl.1 rfl (lv_room hs) hd hkj) hS (fun x _ h => hA0 x h) (fun x h => hA0 x h) (fun W t H1 locs1 ht hvm hw hB hz1 hk1 hS1 => ?_)
  · obtain ⟨q0, q1, qP, qK, qD⟩ := q
    exact ⟨q0, q1, qP, ⟨⟨va_K.moved (u := U) (U := U.calling g mk a) (Vm.Alike.refl U.vm) qK.1.1, k_N.same (s := U) (U := U.calling g mk a) rfl qK.1.2⟩, ⟨va_AO.moved (u := U) (U := U.calling g mk a) (Vm.Alike.refl U.vm) qK.2.1, va_AOA.moved (u := U) (U := U.calling g mk a) (Vm.Alike.refl U.vm) qK.2.2⟩⟩, qD⟩
  · obtain ⟨hP1, hK1, hD1⟩ := hB
    rw [ht] at hP1
    obtain ⟨hP2, hD2⟩ := va_join (wc := [(q, .inr (ci, fs))]) (wr := wr) (w1 := W) hP hD [i] isR (by simp [hC]) hRr hnd (fun x hx h => by
      rw [List.mem_singleton] at h
      subst h
      exact hdis hx) (fun x h1 h2 => hk1 x h1 (fun y => h2 ((hAv x).mpr y))) (fun x h => hA0 x ((hAv x).mp h)) hP1 (hD1.weaken (fun _ _ _ h => (hAv _).mpr h))
    exact kk W hw p l e s m args below meth c H1 locs1 ls cx hP2 hD2 hS1 hl
end IBH
