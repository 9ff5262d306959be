/-! ===== the judgement of the law: both worlds ===== -/
def lw_av (b : Nat) (ad1 ad2 : Nat → Nat) : Nat → Nat := fun c => if c = 0 then b else if c = 1 then ad1 0 else ad2 0
def lw_B (s : State) : Nat → Prop := fun q => s.heap.size ≤ q
def lw_W (s : State) (D : va_G) (ca : Nat → ClassId) (ad1 ad2 : Nat → Nat) (w g : kW) (H : Heap) (locs : List Loc) : Prop :=
  k_K D ca s ∧ va_P D vwCl (k_wd ad1 ca shC w) H ∧ va_P D vwCl (k_wd ad2 ca shM g) H ∧ va_D (lw_B s) (k_wd ad1 ca shC w) ∧ va_D (lw_B s) (k_wd ad2 ca shM g) ∧ (∀ i j, i < 39 → j < 29 → ad1 i ≠ ad2 j) ∧ va_S (lw_B s) s.heap H locs
def LB (p : Program) (l : Launch) (e : Env) (s : State) (m : MethodId) (below : List Frame) (meth : Method) (c : Code) (b : Nat) (pc : Nat) (L : List (Nat × Value)) (st : List Value) (w g : kW) : Prop :=
  ∀ (D : va_G) (ca : Nat → ClassId) (ad1 ad2 : Nat → Nat) (H : Heap) (locs : List Loc) (ls : Array Slot), lw_W s D ca ad1 ad2 w g H locs → lv_has ls 4 (k_L (lw_av b ad1 ad2) L) →
    W p l e room_1 s m #[Value.ref b] below meth c H locs 1000 10000 (lw_Z below #[Value.ref b] s) (F0 m pc ls (st.map (k_v (lw_av b ad1 ad2))))
theorem shC_len : shC.length = 39 := rfl
theorem shM_len : shM.length = 29 := rfl
theorem k_D_at {B : Nat → Prop} {ad : Nat → Nat} {ca : Nat → ClassId} {sh : List kE} {w : kW} (h : va_D B (k_wd ad ca sh w)) {c : Nat} (hc : c < sh.length) : B (ad c) :=
  h.2 c _ (k_wd_get (List.getElem?_eq_getElem hc))
section LBS
variable {p : Program} {l : Launch} {e : Env} {s : State} {m : MethodId} {below : List Frame} {meth : Method} {c : Code} {b L0 : Nat} {xs : Nat → Int32} {pc : Nat} {L : List (Nat × Value)} {st : List Value} {w g : kW}
/-- a call on one of the two: what comes of it -/
theorem l_run {D : va_G} {ca : Nat → ClassId} {ad av : Nat → Nat} {sh sh2 : List kE} {ad2 : Nat → Nat} {w g : kW} {H : Heap} {locs : List Loc} {ls : Array Slot} {Ψ : Option Value → kW → Prop} {a : Array Value} {st0 : List Value}
    (hr : va_Run p l e room_1 s m #[Value.ref b] below meth c H locs 1000 10000 0 0 (F0 m pc ls st0) (st.map (k_v av)) (k_Qc sh D ca ad H.size Ψ a) (k_A sh ad H.size))
    (hP2 : va_P D vwCl (k_wd ad2 ca sh2 g) H) (hD1 : va_D (lw_B s) (k_wd ad ca sh w)) (hne : ∀ i j, i < sh.length → j < sh2.length → ad i ≠ ad2 j) (hS : va_S (lw_B s) s.heap H locs) (hv : ∀ r w', Ψ r w' → ∃ v, r = some v ∧ ∀ ad, k_v ad v = v)
    (kk : ∀ (v : Value) (w' : kW) (H1 : Heap) (locs1 : List Loc), Ψ (some v) w' → va_P D vwCl (k_wd ad ca sh w') H1 → va_P D vwCl (k_wd ad2 ca sh2 g) H1 → va_S (lw_B s) s.heap H1 locs1 → W p l e room_1 s m #[Value.ref b] below meth c H1 locs1 1000 10000 (lw_Z below #[Value.ref b] s) (F0 m (pc + 3) ls ((v :: st).map (k_v av)))) : W p l e room_1 s m #[Value.ref b] below meth c H locs 1000 10000 (lw_Z below #[Value.ref b] s) (F0 m pc ls st0) := by
  intro T hT X
  obtain ⟨v, st₀, t, T', L, h0, X', hL, e1, e2, ⟨⟨r, w', hvv, hp, hb, hK⟩, hz, hk⟩, stp⟩ := hr T hT X
  obtain ⟨v0, rfl, hv0⟩ := hv r w' hp
  cases hvv
  rw [h0] at hz hk
  have hA : ∀ q, k_A sh ad H.size q → lw_B s q := fun q h => h.elim (fun ⟨c, hc, e⟩ => e ▸ k_D_at hD1 hc) (fun h => Nat.le_trans hS.1 h)
  have hP2' : va_P D vwCl (k_wd ad2 ca sh2 g) T'.heap := hP2.kept (fun k x hx => by
    obtain ⟨hl, he⟩ := k_wd_addr hx
    have hlt := (hP2 k x hx).lt
    rw [e1]
    exact hk x.1 hlt (fun z => z.elim (fun ⟨c, hc, e⟩ => hne c k hc hl (e.symm.trans he)) (fun z => absurd hlt (Nat.not_lt.mpr z))))
  obtain ⟨t2, a1, b1⟩ := kk v0 w' T'.heap (locs ++ L) hp (by rw [e1]; exact hb) hP2'
    ⟨Nat.le_trans hS.1 (by rw [e1]; exact hz), fun q h1 h2 => by rw [e1, hk q (Nat.lt_of_lt_of_le h1 hS.1) (fun z => h2 (hA q z))]; exact hS.2.1 q h1 h2, fun q hq => by
      rcases List.mem_append.mp hq with h | h
      · exact hS.2.2 q h
      · exact hA _ (hL q h)⟩ T' rfl X'
  refine ⟨t2, stp t2 ?_, b1⟩
  rw [List.map_cons, hv0] at a1
  have e9 : (Option.map (k_v ad) (some v0)).toList = [v0] := by rw [Option.map_some, hv0]; rfl
  rw [e9]
  exact a1
theorem l_callC {z : MethodName} {zc : ByteArray} {zn zf zl ix a : Nat} {zr : Option FieldType} {As : List Value} {Ψ : Option Value → kW → Prop} (C0 : lw_At p s m meth c b L0 xs) (hd : decode code pc = .ok (.invokevirtual ix, 3)) (hF : k_lkV RL ix z zc zn zr a) (hn : As.length = a) (hz : RX7 = z.cls) (hR : zf + 1 ≤ 10 ∧ 8 + (zn + 11) + zl ≤ 398) (hs : (st.map fun v => v.category).sum ≤ 8) (hAs : ∀ v ∈ As, ∀ ad, k_v ad v = v) (hv : ∀ r w', Ψ r w' → ∃ v, r = some v ∧ ∀ ad, k_v ad v = v)
    (hM : Spec shC z zc zn zr zf zl (.ref 0 :: As) w Ψ) (kk : ∀ (v : Value) (w' : kW), Ψ (some v) w' → LB p l e s m below meth c b (pc + 3) L (v :: st) w' g) : LB p l e s m below meth c b pc L (As.reverse ++ .ref 1 :: st) w g := by
  intro D ca ad1 ad2 H locs ls hW hl
  obtain ⟨hK, hP1, hP2, hD1, hD2, hne, hS⟩ := hW
  obtain ⟨hx, hb, hr, hml, hown, hts0, hX, hbl, hlocks, hgv⟩ := C0
  have hts : ∀ w ∈ cw, w.before #[Value.ref b] s = true := fun w hw => hts0 w (cw_in hw)
  obtain ⟨⟨h1, h2, h3, h4, h5, h6⟩, h7, h8⟩ := hF
  have eA : ∀ ad, As.map (k_v ad) = As := fun ad => (List.map_congr_left (fun v hv => hAs v hv ad)).trans (List.map_id As)
  refine l_run (sh := shC) (sh2 := shM) (w := w) (ad := ad1) (av := lw_av b ad1 ad2) (st := st) (va_runV (As := As) (rest := st.map (k_v (lw_av b ad1 ad2))) (b := ad1 0) ⟨hx, hb, hml, hown, hts⟩ (by have := hM l D ca ad1 H.size; exact this) ⟨callB_of a hts (k_goodIn h3) rfl rfl rfl (hts _ h2) (hts _ h1) ⟨h4, h5, h6⟩ hR, hts _ h7, hts _ h8⟩ ⟨k_blind, ?_, fun U hU hW => ⟨by rw [List.map_cons, eA]; rfl, by rw [hU], by rw [hU]; exact hP1, k_K.warm hW hK, k_D_of hD1 (fun _ _ => trivial)⟩⟩ rfl hn hl.1 (by rw [List.map_append, List.map_reverse, eA]; rfl) (lv_room (by rw [k_cats]; exact hs)) hd ⟨by decide, by decide⟩) hP2 hD1 hne hS hv (fun v w' H1 locs1 hp hP1 hP2 hS1 => kk v w' hp D ca ad1 ad2 H1 locs1 ls ⟨hK, hP1, hP2, k_D_of hD1 (fun c hc => k_D_at hD1 hc), hD2, hne, hS1⟩ hl)
  have h9 := va_recv hK.1 hP1 (q := (RX7, TX7, 7)) (ci := 6) rfl (k_obj (c := 0) rfl)
  rw [← hz]
  exact h9
theorem l_callM {z : MethodName} {zc : ByteArray} {zn zf zl ix a : Nat} {zr : Option FieldType} {As : List Value} {Ψ : Option Value → kW → Prop} (C0 : lw_At p s m meth c b L0 xs) (hd : decode code pc = .ok (.invokevirtual ix, 3)) (hF : k_lkV RL ix z zc zn zr a) (hn : As.length = a) (hz : RX8 = z.cls) (hR : zf + 1 ≤ 10 ∧ 8 + (zn + 11) + zl ≤ 398) (hs : (st.map fun v => v.category).sum ≤ 8) (hAs : ∀ v ∈ As, ∀ ad, k_v ad v = v) (hv : ∀ r w', Ψ r w' → ∃ v, r = some v ∧ ∀ ad, k_v ad v = v)
    (hM : Spec shM z zc zn zr zf zl (.ref 0 :: As) g Ψ) (kk : ∀ (v : Value) (g' : kW), Ψ (some v) g' → LB p l e s m below meth c b (pc + 3) L (v :: st) w g') : LB p l e s m below meth c b pc L (As.reverse ++ .ref 2 :: st) w g := by
  intro D ca ad1 ad2 H locs ls hW hl
  obtain ⟨hK, hP1, hP2, hD1, hD2, hne, hS⟩ := hW
  obtain ⟨hx, hb, hr, hml, hown, hts0, hX, hbl, hlocks, hgv⟩ := C0
  have hts : ∀ w ∈ cw, w.before #[Value.ref b] s = true := fun w hw => hts0 w (cw_in hw)
  obtain ⟨⟨h1, h2, h3, h4, h5, h6⟩, h7, h8⟩ := hF
  have eA : ∀ ad, As.map (k_v ad) = As := fun ad => (List.map_congr_left (fun v hv => hAs v hv ad)).trans (List.map_id As)
  refine l_run (sh := shM) (sh2 := shC) (w := g) (g := w) (ad := ad2) (ad2 := ad1) (av := lw_av b ad1 ad2) (st := st) (va_runV (As := As) (rest := st.map (k_v (lw_av b ad1 ad2))) (b := ad2 0) ⟨hx, hb, hml, hown, hts⟩ (by have := hM l D ca ad2 H.size; exact this) ⟨callB_of a hts (k_goodIn h3) rfl rfl rfl (hts _ h2) (hts _ h1) ⟨h4, h5, h6⟩ hR, hts _ h7, hts _ h8⟩ ⟨k_blind, ?_, fun U hU hW => ⟨by rw [List.map_cons, eA]; rfl, by rw [hU], by rw [hU]; exact hP2, k_K.warm hW hK, k_D_of hD2 (fun _ _ => trivial)⟩⟩ rfl hn hl.1 (by rw [List.map_append, List.map_reverse, eA]; rfl) (lv_room (by rw [k_cats]; exact hs)) hd ⟨by decide, by decide⟩) hP1 hD2 (fun i j hi hj => (hne j i hj hi).symm) hS hv (fun v w' H1 locs1 hp hP2 hP1 hS1 => kk v w' hp D ca ad1 ad2 H1 locs1 ls ⟨hK, hP1, hP2, hD1, k_D_of hD2 (fun c hc => k_D_at hD2 hc), hne, hS1⟩ hl)
  have h9 := va_recv hK.1 hP2 (q := (RX8, TX8, 39)) (ci := 7) rfl (k_obj (c := 0) rfl)
  rw [← hz]
  exact h9
end LBS
