/-! ===== the judgement: a method's body over a world of fixed shape ===== -/
/-- what a field holds: none: an int; some none: a long; some (some r): cell r -/
abbrev kF : Type := Option (Option Nat)
/-- a cell's shape: an object (kind, fields), an array of numbers (type, length), an array of references -/
abbrev kE : Type := (Nat × List kF) ⊕ ((Nat × Nat) ⊕ (Nat × Nat × (Nat → Option Nat)))
/-- what the cells hold: ints, longs, by cell and place -/
abbrev kW : Type := (Nat → Nat → Int32) × (Nat → Nat → Int64)
def k_val (ad : Nat → Nat) (w : kW) (c j : Nat) (f : kF) : Value := match f with
  | none => .int (w.1 c j)
  | some none => .long (w.2 c j)
  | some (some r) => .ref (ad r)
def k_ent (ad : Nat → Nat) (ca : Nat → ClassId) (w : kW) (c : Nat) (e : kE) : va_E := match e with
  | .inl q => .inr (q.1, q.2.mapIdx (fun j f => k_val ad w c j f))
  | .inr (.inl q) => .inl (ca q.1, q.2, .inl (w.1 c))
  | .inr (.inr q) => .inl (ca q.1, q.2.1, .inr (.inr (.inr (.inr (fun i => (q.2.2 i).map ad)))))
def k_wd (ad : Nat → Nat) (ca : Nat → ClassId) (sh : List kE) (w : kW) : va_W := sh.mapIdx (fun c e => (ad c, k_ent ad ca w c e))
def k_v (ad : Nat → Nat) (v : Value) : Value := match v with
  | .ref r => .ref (ad r)
  | v => v
def k_L (ad : Nat → Nat) (L : List (Nat × Value)) : List (Nat × Value) := L.map (fun q => (q.1, k_v ad q.2))
def k_tys (ca : Nat → ClassId) : List (ClassId × FieldType) := [(ca 0, .int), (ca 1, .boolean), (ca 2, .object "DuelSeconds$Sheet"), (ca 3, .array .int)]
def k_up {α : Type} (f : Nat → Nat → α) (c k : Nat) (v : α) : Nat → Nat → α := fun c' k' => if c' = c then (if k' = k then v else f c' k') else f c' k'
theorem k_up_same {α : Type} (f : Nat → Nat → α) (c k : Nat) (v : α) : k_up f c k v c k = v := by simp [k_up]
theorem k_up_row {α : Type} (f : Nat → Nat → α) (c k : Nat) (v : α) {c' : Nat} (h : c' ≠ c) : k_up f c k v c' = f c' := by
  funext j
  simp [k_up, h]
theorem k_wd_get {ad : Nat → Nat} {ca : Nat → ClassId} {sh : List kE} {w : kW} {c : Nat} {e : kE} (h : sh[c]? = some e) : (k_wd ad ca sh w)[c]? = some (ad c, k_ent ad ca w c e) := by
  simp [k_wd, List.getElem?_mapIdx, h]
theorem k_ent_row {ad : Nat → Nat} {ca : Nat → ClassId} {w w' : kW} {c : Nat} (e : kE) (h1 : w'.1 c = w.1 c) (h2 : w'.2 c = w.2 c) : k_ent ad ca w' c e = k_ent ad ca w c e := by
  have hv : ∀ j f, k_val ad w' c j f = k_val ad w c j f := by
    intro j f
    match f with
    | none => simp [k_val, h1]
    | some none => simp [k_val, h2]
    | some (some r) => rfl
  match e with
  | .inl q => simp [k_ent, hv]
  | .inr (.inl q) => simp [k_ent, h1]
  | .inr (.inr q) => rfl
theorem k_wd_set {ad : Nat → Nat} {ca : Nat → ClassId} {sh : List kE} {w w' : kW} {c : Nat} {e : kE} (h : sh[c]? = some e) (h1 : ∀ c', c' ≠ c → w'.1 c' = w.1 c') (h2 : ∀ c', c' ≠ c → w'.2 c' = w.2 c') {x : va_E} (hx : x = k_ent ad ca w' c e) : (k_wd ad ca sh w).set c (ad c, x) = k_wd ad ca sh w' := by
  subst hx
  apply List.ext_getElem?
  intro i
  have hl : c < sh.length := (List.getElem?_eq_some_iff.mp h).1
  by_cases hi : c = i
  · subst hi
    rw [List.getElem?_set_self (by simpa [k_wd] using hl), k_wd_get h]
  · rw [List.getElem?_set_ne hi]
    simp only [k_wd, List.getElem?_mapIdx]
    cases hs : sh[i]? with
    | none => rfl
    | some y => simp only [Option.map_some]; rw [k_ent_row y (h1 i (Ne.symm hi)) (h2 i (Ne.symm hi))]
theorem k_wd_addr {ad : Nat → Nat} {ca : Nat → ClassId} {sh : List kE} {w : kW} {k : Nat} {q : Nat × va_E} (h : (k_wd ad ca sh w)[k]? = some q) : k < sh.length ∧ q.1 = ad k := by
  simp only [k_wd, List.getElem?_mapIdx] at h
  cases hs : sh[k]? with
  | none => rw [hs] at h; cases h
  | some y =>
    rw [hs] at h
    cases h
    exact ⟨(List.getElem?_eq_some_iff.mp hs).1, rfl⟩
def k_A (sh : List kE) (ad : Nat → Nat) (sz : Nat) : Nat → Prop := fun q => (∃ c, c < sh.length ∧ q = ad c) ∨ sz ≤ q
theorem k_D_of {A B : Nat → Prop} {ad : Nat → Nat} {ca : Nat → ClassId} {sh : List kE} {w w' : kW} (h : va_D A (k_wd ad ca sh w)) (hB : ∀ c, c < sh.length → B (ad c)) : va_D B (k_wd ad ca sh w') := by
  have key : ∀ (k : Nat) (q : Nat × va_E), (k_wd ad ca sh w')[k]? = some q → ∃ q0, (k_wd ad ca sh w)[k]? = some q0 ∧ q0.1 = q.1 := by
    intro k q hk
    obtain ⟨hl, he⟩ := k_wd_addr hk
    obtain ⟨y, hy⟩ : ∃ y, sh[k]? = some y := ⟨_, List.getElem?_eq_getElem hl⟩
    exact ⟨_, k_wd_get hy, he.symm⟩
  refine ⟨fun i j p q hi hj hpq => ?_, fun k q hk => ?_⟩
  · obtain ⟨p0, a1, a2⟩ := key i p hi
    obtain ⟨q0, b1, b2⟩ := key j q hj
    exact h.1 i j p0 q0 a1 b1 (a2.trans (hpq.trans b2.symm))
  · obtain ⟨hl, he⟩ := k_wd_addr hk
    rw [he]
    exact hB k hl
theorem k_D_self {A : Nat → Prop} {ad : Nat → Nat} {ca : Nat → ClassId} {sh : List kE} {w w' : kW} {sz : Nat} (h : va_D A (k_wd ad ca sh w)) : va_D (k_A sh ad sz) (k_wd ad ca sh w') := k_D_of h (fun c hc => Or.inl ⟨c, hc, rfl⟩)
/-- calls of private static methods of a nest mate, by entry -/
def nst : List (String × Nat × MethodName × String) := [(RX7, 13, yX2_init, RX7), (RX7, 29, yX3_init, RX7), (RX4, 11, yX1_init, RX7), (RX7, 49, yX5_init, RX7), (RX4, 59, yX7_in, RX7), (RX4, 93, yX7_bit, RX7), (RX2, 38, yX7_in, RX7)]
def k_N (U : State) : Prop := ∀ q ∈ nst, va_Nw (.methodLinkNest q.1 q.2.1 q.2.2.1 q.2.2.2) U
theorem k_N.warm {s U : State} (hW : s.WarmedH U.vm) (h : k_N s) : k_N U := fun q hq => va_Nw.warmM hW (h q hq)
theorem k_N.same {s U : State} (e : s.vm = U.vm) (h : k_N s) : k_N U := fun q hq => va_Nw.same rfl e (h q hq)
def k_K (D : va_G) (ca : Nat → ClassId) (U : State) : Prop := va_K D vwCl (k_tys ca) U ∧ k_N U
theorem k_K.warm {s U : State} {D : va_G} {ca : Nat → ClassId} (hW : s.WarmedH U.vm) (h : k_K D ca s) : k_K D ca U := ⟨va_K.moved hW.alike h.1, k_N.warm hW h.2⟩
def k_Pc (sh : List kE) (D : va_G) (ca : Nat → ClassId) (ad : Nat → Nat) (sz : Nat) (As : List Value) (w : kW) : Array Value → State → Prop := va_Pc (As.map (k_v ad)) (fun U => U.heap.size = sz ∧ va_P D vwCl (k_wd ad ca sh w) U.heap ∧ k_K D ca U ∧ va_D (fun _ => True) (k_wd ad ca sh w))
def k_Qc (sh : List kE) (D : va_G) (ca : Nat → ClassId) (ad : Nat → Nat) (sz : Nat) (Φ : Option Value → kW → Prop) : Array Value → State → Outcome → State → Prop := fun _ st oc t => (∃ (r : Option Value) (w' : kW), oc = .returned (r.map (k_v ad)) ∧ Φ r w' ∧ va_P D vwCl (k_wd ad ca sh w') t.heap ∧ va_K D vwCl (k_tys ca) t) ∧ va_F (k_A sh ad sz) st t
/-- a method's contract at given arguments and world: it returns, and Φ holds of its answer and of the world behind it -/
def Spec (sh : List kE) (y : MethodName) (cc : ByteArray) (n : Nat) (rt : Option FieldType) (fr lo : Nat) (As : List Value) (w : kW) (Φ : Option Value → kW → Prop) : Prop :=
  ∀ (l : Launch) (D : va_G) (ca : Nat → ClassId) (ad : Nat → Nat) (sz : Nat), Met l y (.code y cc n rt :: cw) ({ frames := fr, cells := 0, slots := 0, locals := lo } : Room) (k_Pc sh D ca ad sz As w) (k_Qc sh D ca ad sz Φ) 0 0 (k_A sh ad sz)
def k_cx (p : Program) (s : State) (m : MethodId) (args : Array Value) (meth : Method) (c : Code) (own : String) (cc : ByteArray) (n : Nat) (rt : Option FieldType) (D : va_G) (ca : Nat → ClassId) : Prop :=
  p.tables.exec = Jvm.exec ∧ c.code = cc ∧ c.maxLocals = n ∧ s.vm.findClass own = some m.cls ∧ (∀ w ∈ cw, w.before args s = true) ∧ meth.sig.returnType = rt ∧ meth.locks = false ∧ k_K D ca s
/-- from pc on, with these locals, this stack and this world, the method returns, and Φ holds -/
def BS (sh : List kE) (own : String) (cc : ByteArray) (n : Nat) (rt : Option FieldType) (fr lo : Nat) (Φ : Option Value → kW → Prop) (pc : Nat) (L : List (Nat × Value)) (st : List Value) (w : kW) : Prop :=
  ∀ (p : Program) (l : Launch) (e : Env) (s : State) (m : MethodId) (args : Array Value) (below : List Frame) (meth : Method) (c : Code) (D : va_G) (ca : Nat → ClassId) (ad : Nat → Nat) (H : Heap) (locs : List Loc) (ls : Array Slot),
    k_cx p s m args meth c own cc n rt D ca → va_P D vwCl (k_wd ad ca sh w) H → va_D (k_A sh ad s.heap.size) (k_wd ad ca sh w) → va_S (k_A sh ad s.heap.size) s.heap H locs → lv_has ls n (k_L ad L) →
    W p l e ({ frames := fr, cells := 0, slots := 0, locals := lo } : Room) s m args below meth c H locs 0 0 (MQ below (k_Qc sh D ca ad s.heap.size Φ) args s 0 0 (k_A sh ad s.heap.size)) (F0 m pc ls (st.map (k_v ad)))
theorem k_v_cat (ad : Nat → Nat) (v : Value) : (k_v ad v).category = v.category := by cases v <;> rfl
theorem k_args (ad : Nat → Nat) : ∀ (vs : List Value) (i : Nat), lv_args i (vs.map (k_v ad)) = k_L ad (lv_args i vs)
  | [], _ => rfl
  | v :: vs, i => by
    show (i, k_v ad v) :: lv_args _ (vs.map (k_v ad)) = (i, k_v ad v) :: k_L ad (lv_args _ vs)
    rw [k_v_cat, k_args ad vs]
theorem k_sl_len (ad : Nat → Nat) : ∀ (vs : List Value), (lg_sl (vs.map (k_v ad))).length = (lg_sl vs).length
  | [] => rfl
  | v :: vs => by
    have ih := k_sl_len ad vs
    simp only [lg_sl, List.map_cons, List.flatMap_cons, List.length_append, k_v_cat] at ih ⊢
    rw [ih]
    split <;> rfl
theorem k_cats (ad : Nat → Nat) (st : List Value) : ((st.map (k_v ad)).map fun v => v.category) = st.map fun v => v.category := by
  rw [List.map_map]
  apply List.map_congr_left
  intro v _
  exact k_v_cat ad v
theorem k_blind {sh : List kE} {D : va_G} {ca : Nat → ClassId} {ad : Nat → Nat} {sz : Nat} {As : List Value} {w : kW} : FrameBlind (k_Pc sh D ca ad sz As w) := by
  intro a U g mk q
  obtain ⟨q0, q1, qP, qK, qD⟩ := q
  exact ⟨q0, q1, qP, ⟨va_K.moved (u := U) (U := U.calling g mk a) (Vm.Alike.refl U.vm) qK.1, k_N.same (s := U) (U := U.calling g mk a) rfl qK.2⟩, qD⟩
theorem k_enter {sh : List kE} {y : MethodName} {cc : ByteArray} {n : Nat} {rt : Option FieldType} {fr lo : Nat} {As : List Value} {w : kW} {Φ : Option Value → kW → Prop} (hy : plainName y.cls = true) (hn : (lg_sl As).length ≤ n) (h : BS sh y.cls cc n rt fr lo Φ 0 (lv_args 0 As) [] w) : Spec sh y cc n rt fr lo As w Φ := by
  intro l D ca ad sz
  refine Met.ofW (cc := cc) (maxL := n) (ret := rt) hy rfl ?_
  intro p e s m args below meth c s₁ B hml hv
  obtain ⟨rfl, hsz, hP, hK, hD0⟩ := hv
  subst hsz
  have hts0 := atoms_spec (ws := .code y cc n rt :: cw) B.pre
  have hts : ∀ w ∈ cw, w.before (As.map (k_v ad)).toArray s = true := fun w hw => hts0 w (List.mem_cons_of_mem _ hw)
  have hl := lv_entry (As.map (k_v ad)) (n := n) (by rw [k_sl_len]; exact hn)
  rw [lg_entry_eq]
  rw [k_args] at hl
  exact h p l e s m _ below meth c D ca ad s.heap [] _ ⟨B.exec, B.bytes, hml, findClass_of_methodNamed B.named, hts, B.returns, B.notSynchronized, hK⟩ hP (k_D_self hD0) va_S.rf hl
section KB
variable {sh : List kE} {own : String} {cc : ByteArray} {n : Nat} {rt : Option FieldType} {fr lo : Nat} {Φ : Option Value → kW → Prop} {pc : Nat} {L : List (Nat × Value)} {st : List Value} {w : kW}
theorem BS.mono {Ψ : Option Value → kW → Prop} (h : ∀ r w', Φ r w' → Ψ r w') (hb : BS sh own cc n rt fr lo Φ pc L st w) : BS sh own cc n rt fr lo Ψ pc L st w := by
  intro p l e s m args below meth co D ca ad H locs ls cx hP hD hS hl T hT X
  obtain ⟨t, a, o, b1, b2, ⟨⟨⟨r, w', c1, c2, c3⟩, c4⟩, b4⟩⟩ := hb p l e s m args below meth co D ca ad H locs ls cx hP hD hS hl T hT X
  exact ⟨t, a, o, b1, b2, ⟨⟨r, w', c1, h r w' c2, c3⟩, c4⟩, b4⟩
/-- the locals: place i holds v now -/
def k_st1 (L : List (Nat × Value)) (i : Nat) (v : Value) : List (Nat × Value) := (i, v) :: L.filter (fun q => !(q.1 == i) && !(q.1 + 1 == i && q.2.category == 2))
def k_st2 (L : List (Nat × Value)) (i : Nat) (v : Value) : List (Nat × Value) := (i, v) :: L.filter (fun q => !(q.1 == i) && (!(q.1 == i + 1) && !(q.1 + 1 == i && q.2.category == 2)))
theorem k_st1_L (ad : Nat → Nat) (i : Nat) (v : Value) : (i, k_v ad v) :: (k_L ad L).filter (fun q => !(q.1 == i) && !(q.1 + 1 == i && q.2.category == 2)) = k_L ad (k_st1 L i v) := by
  simp only [k_L, k_st1, List.map_cons, List.filter_map]
  congr 2
  apply List.filter_congr
  intro q _
  simp [Function.comp, k_v_cat]
theorem k_st2_L (ad : Nat → Nat) (i : Nat) (v : Value) : (i, k_v ad v) :: (k_L ad L).filter (fun q => !(q.1 == i) && (!(q.1 == i + 1) && !(q.1 + 1 == i && q.2.category == 2))) = k_L ad (k_st2 L i v) := by
  simp only [k_L, k_st2, List.map_cons, List.filter_map]
  congr 2
  apply List.filter_congr
  intro q _
  simp [Function.comp, k_v_cat]
theorem k_lget {ad : Nat → Nat} {ls : Array Slot} {i : Nat} {v : Value} (hl : lv_has ls n (k_L ad L)) (h : L.lookup i = some v) : ls[i]? = some (.val (k_v ad v)) := by
  have hm : (i, v) ∈ L := by
    clear hl
    induction L with
    | nil => cases h
    | cons a t ih =>
      obtain ⟨a1, a2⟩ := a
      rw [List.lookup_cons] at h
      by_cases hb : (i == a1) = true
      · rw [hb] at h
        cases h
        rw [beq_iff_eq] at hb
        subst hb
        exact List.mem_cons_self
      · rw [Bool.not_eq_true] at hb
        rw [hb] at h
        exact List.mem_cons_of_mem _ (ih h)
  exact hl.2.2 (i, k_v ad v) (List.mem_map.mpr ⟨(i, v), hm, rfl⟩)
theorem b_iconst {k : Int} {v : Int32} (hd : decode cc pc = .ok (.iconst k, 1)) (hv : Int32.ofInt k = v) (kk : BS sh own cc n rt fr lo Φ (pc + 1) L (.int v :: st) w) : BS sh own cc n rt fr lo Φ pc L st w := by
  intro p l e s m args below meth co D ca ad H locs ls cx hP hD hS hl
  exact lv_iconst cx.1 cx.2.1 hd hv (kk p l e s m args below meth co D ca ad H locs ls cx hP hD hS hl)
theorem b_bipush {k : Int} {v : Int32} (hd : decode cc pc = .ok (.bipush k, 2)) (hv : (Int8.ofInt k).toInt32 = v) (kk : BS sh own cc n rt fr lo Φ (pc + 2) L (.int v :: st) w) : BS sh own cc n rt fr lo Φ pc L st w := by
  intro p l e s m args below meth co D ca ad H locs ls cx hP hD hS hl
  exact lv_bipush cx.1 cx.2.1 hd hv (kk p l e s m args below meth co D ca ad H locs ls cx hP hD hS hl)
theorem b_sipush {k : Int} {v : Int32} (hd : decode cc pc = .ok (.sipush k, 3)) (hv : (Int16.ofInt k).toInt32 = v) (kk : BS sh own cc n rt fr lo Φ (pc + 3) L (.int v :: st) w) : BS sh own cc n rt fr lo Φ pc L st w := by
  intro p l e s m args below meth co D ca ad H locs ls cx hP hD hS hl
  exact lv_sipush cx.1 cx.2.1 hd hv (kk p l e s m args below meth co D ca ad H locs ls cx hP hD hS hl)
theorem b_lconst {k : Fin 2} {v : Int64} (hd : decode cc pc = .ok (.lconst k, 1)) (hv : Int64.ofNat (k : Nat) = v) (kk : BS sh own cc n rt fr lo Φ (pc + 1) L (.long v :: st) w) : BS sh own cc n rt fr lo Φ pc L st w := by
  intro p l e s m args below meth co D ca ad H locs ls cx hP hD hS hl
  exact lv_lconst cx.1 cx.2.1 hd hv (kk p l e s m args below meth co D ca ad H locs ls cx hP hD hS hl)
theorem b_ldc2 {ix : Nat} {v : Int64} (hd : decode cc pc = .ok (.ldc2_w ix, 3)) (hc : Cond.constantLong own ix v ∈ cw) (kk : BS sh own cc n rt fr lo Φ (pc + 3) L (.long v :: st) w) : BS sh own cc n rt fr lo Φ pc L st w := by
  intro p l e s m args below meth co D ca ad H locs ls cx hP hD hS hl
  exact lv_ldc2 cx.1 cx.2.1 cx.2.2.2.1 (cx.2.2.2.2.1 _ hc) hd (kk p l e s m args below meth co D ca ad H locs ls cx hP hD hS hl)
theorem b_ldcw {ix : Nat} {v : Int32} (hd : decode cc pc = .ok (.ldc_w ix, 3)) (hc : Cond.constant own ix v ∈ cw) (kk : BS sh own cc n rt fr lo Φ (pc + 3) L (.int v :: st) w) : BS sh own cc n rt fr lo Φ pc L st w := by
  intro p l e s m args below meth co D ca ad H locs ls cx hP hD hS hl
  exact lv_ldcw cx.1 cx.2.1 cx.2.2.2.1 (cx.2.2.2.2.1 _ hc) hd (kk p l e s m args below meth co D ca ad H locs ls cx hP hD hS hl)
theorem b_null (hd : decode cc pc = .ok (.aconst_null, 1)) (kk : BS sh own cc n rt fr lo Φ (pc + 1) L (.null :: st) w) : BS sh own cc n rt fr lo Φ pc L st w := by
  intro p l e s m args below meth co D ca ad H locs ls cx hP hD hS hl
  exact lv_null cx.1 cx.2.1 hd (kk p l e s m args below meth co D ca ad H locs ls cx hP hD hS hl)
theorem b_iload_n {k : Fin 4} {x : Int32} (hd : decode cc pc = .ok (.iload_n k, 1)) (hv : L.lookup (k : Nat) = some (.int x)) (kk : BS sh own cc n rt fr lo Φ (pc + 1) L (.int x :: st) w) : BS sh own cc n rt fr lo Φ pc L st w := by
  intro p l e s m args below meth co D ca ad H locs ls cx hP hD hS hl
  exact lv_iload_n cx.1 cx.2.1 hd rfl (k_lget hl hv) (kk p l e s m args below meth co D ca ad H locs ls cx hP hD hS hl)
theorem b_iload {k : Nat} {x : Int32} (hd : decode cc pc = .ok (.iload k, 2)) (hv : L.lookup k = some (.int x)) (kk : BS sh own cc n rt fr lo Φ (pc + 2) L (.int x :: st) w) : BS sh own cc n rt fr lo Φ pc L st w := by
  intro p l e s m args below meth co D ca ad H locs ls cx hP hD hS hl
  exact lv_iload cx.1 cx.2.1 hd (k_lget hl hv) (kk p l e s m args below meth co D ca ad H locs ls cx hP hD hS hl)
theorem b_lload_n {k : Fin 4} {x : Int64} (hd : decode cc pc = .ok (.lload_n k, 1)) (hv : L.lookup (k : Nat) = some (.long x)) (kk : BS sh own cc n rt fr lo Φ (pc + 1) L (.long x :: st) w) : BS sh own cc n rt fr lo Φ pc L st w := by
  intro p l e s m args below meth co D ca ad H locs ls cx hP hD hS hl
  exact lv_lload_n cx.1 cx.2.1 hd rfl (k_lget hl hv) (kk p l e s m args below meth co D ca ad H locs ls cx hP hD hS hl)
theorem b_lload {k : Nat} {x : Int64} (hd : decode cc pc = .ok (.lload k, 2)) (hv : L.lookup k = some (.long x)) (kk : BS sh own cc n rt fr lo Φ (pc + 2) L (.long x :: st) w) : BS sh own cc n rt fr lo Φ pc L st w := by
  intro p l e s m args below meth co D ca ad H locs ls cx hP hD hS hl
  exact lv_lload cx.1 cx.2.1 hd (k_lget hl hv) (kk p l e s m args below meth co D ca ad H locs ls cx hP hD hS hl)
theorem b_aload_n {k : Fin 4} {x : Nat} (hd : decode cc pc = .ok (.aload_n k, 1)) (hv : L.lookup (k : Nat) = some (.ref x)) (kk : BS sh own cc n rt fr lo Φ (pc + 1) L (.ref x :: st) w) : BS sh own cc n rt fr lo Φ pc L st w := by
  intro p l e s m args below meth co D ca ad H locs ls cx hP hD hS hl
  exact lv_aload_n cx.1 cx.2.1 hd rfl (k_lget hl hv) (kk p l e s m args below meth co D ca ad H locs ls cx hP hD hS hl)
theorem b_aload {k : Nat} {x : Nat} (hd : decode cc pc = .ok (.aload k, 2)) (hv : L.lookup k = some (.ref x)) (kk : BS sh own cc n rt fr lo Φ (pc + 2) L (.ref x :: st) w) : BS sh own cc n rt fr lo Φ pc L st w := by
  intro p l e s m args below meth co D ca ad H locs ls cx hP hD hS hl
  exact lv_aload cx.1 cx.2.1 hd (k_lget hl hv) (kk p l e s m args below meth co D ca ad H locs ls cx hP hD hS hl)
theorem b_aload_nN {k : Fin 4} (hd : decode cc pc = .ok (.aload_n k, 1)) (hv : L.lookup (k : Nat) = some .null) (kk : BS sh own cc n rt fr lo Φ (pc + 1) L (.null :: st) w) : BS sh own cc n rt fr lo Φ pc L st w := by
  intro p l e s m args below meth co D ca ad H locs ls cx hP hD hS hl
  exact lv_aload_nN cx.1 cx.2.1 hd rfl (k_lget hl hv) (kk p l e s m args below meth co D ca ad H locs ls cx hP hD hS hl)
theorem b_aloadN {k : Nat} (hd : decode cc pc = .ok (.aload k, 2)) (hv : L.lookup k = some .null) (kk : BS sh own cc n rt fr lo Φ (pc + 2) L (.null :: st) w) : BS sh own cc n rt fr lo Φ pc L st w := by
  intro p l e s m args below meth co D ca ad H locs ls cx hP hD hS hl
  exact lv_aloadN cx.1 cx.2.1 hd (k_lget hl hv) (kk p l e s m args below meth co D ca ad H locs ls cx hP hD hS hl)
theorem b_istore_n {k : Fin 4} {x : Int32} (hd : decode cc pc = .ok (.istore_n k, 1)) (hn : (k : Nat) < n) (kk : BS sh own cc n rt fr lo Φ (pc + 1) (k_st1 L k (.int x)) st w) : BS sh own cc n rt fr lo Φ pc L (.int x :: st) w := by
  intro p l e s m args below meth co D ca ad H locs ls cx hP hD hS hl
  exact lv_istore_n cx.1 cx.2.1 hd rfl hl hn (k_st1_L ad k (.int x)) (fun ls9 hl9 => kk p l e s m args below meth co D ca ad H locs ls9 cx hP hD hS hl9)
theorem b_istore {k : Nat} {x : Int32} (hd : decode cc pc = .ok (.istore k, 2)) (hn : k < n) (kk : BS sh own cc n rt fr lo Φ (pc + 2) (k_st1 L k (.int x)) st w) : BS sh own cc n rt fr lo Φ pc L (.int x :: st) w := by
  intro p l e s m args below meth co D ca ad H locs ls cx hP hD hS hl
  exact lv_istore cx.1 cx.2.1 hd hl hn (k_st1_L ad k (.int x)) (fun ls9 hl9 => kk p l e s m args below meth co D ca ad H locs ls9 cx hP hD hS hl9)
theorem b_lstore_n {k : Fin 4} {x : Int64} (hd : decode cc pc = .ok (.lstore_n k, 1)) (hn : (k : Nat) + 1 < n) (kk : BS sh own cc n rt fr lo Φ (pc + 1) (k_st2 L k (.long x)) st w) : BS sh own cc n rt fr lo Φ pc L (.long x :: st) w := by
  intro p l e s m args below meth co D ca ad H locs ls cx hP hD hS hl
  exact lv_lstore_n cx.1 cx.2.1 hd rfl hl hn (k_st2_L ad k (.long x)) (fun ls9 hl9 => kk p l e s m args below meth co D ca ad H locs ls9 cx hP hD hS hl9)
theorem b_lstore {k : Nat} {x : Int64} (hd : decode cc pc = .ok (.lstore k, 2)) (hn : k + 1 < n) (kk : BS sh own cc n rt fr lo Φ (pc + 2) (k_st2 L k (.long x)) st w) : BS sh own cc n rt fr lo Φ pc L (.long x :: st) w := by
  intro p l e s m args below meth co D ca ad H locs ls cx hP hD hS hl
  exact lv_lstore cx.1 cx.2.1 hd hl hn (k_st2_L ad k (.long x)) (fun ls9 hl9 => kk p l e s m args below meth co D ca ad H locs ls9 cx hP hD hS hl9)
theorem b_astore_n {k : Fin 4} {x : Nat} (hd : decode cc pc = .ok (.astore_n k, 1)) (hn : (k : Nat) < n) (kk : BS sh own cc n rt fr lo Φ (pc + 1) (k_st1 L k (.ref x)) st w) : BS sh own cc n rt fr lo Φ pc L (.ref x :: st) w := by
  intro p l e s m args below meth co D ca ad H locs ls cx hP hD hS hl
  exact lv_astore_n cx.1 cx.2.1 hd rfl hl hn (k_st1_L ad k (.ref x)) (fun ls9 hl9 => kk p l e s m args below meth co D ca ad H locs ls9 cx hP hD hS hl9)
theorem b_astore {k : Nat} {x : Nat} (hd : decode cc pc = .ok (.astore k, 2)) (hn : k < n) (kk : BS sh own cc n rt fr lo Φ (pc + 2) (k_st1 L k (.ref x)) st w) : BS sh own cc n rt fr lo Φ pc L (.ref x :: st) w := by
  intro p l e s m args below meth co D ca ad H locs ls cx hP hD hS hl
  exact lv_astore cx.1 cx.2.1 hd hl hn (k_st1_L ad k (.ref x)) (fun ls9 hl9 => kk p l e s m args below meth co D ca ad H locs ls9 cx hP hD hS hl9)
theorem b_astore_nN {k : Fin 4} (hd : decode cc pc = .ok (.astore_n k, 1)) (hn : (k : Nat) < n) (kk : BS sh own cc n rt fr lo Φ (pc + 1) (k_st1 L k .null) st w) : BS sh own cc n rt fr lo Φ pc L (.null :: st) w := by
  intro p l e s m args below meth co D ca ad H locs ls cx hP hD hS hl
  exact lv_astore_nN cx.1 cx.2.1 hd rfl hl hn (k_st1_L ad k .null) (fun ls9 hl9 => kk p l e s m args below meth co D ca ad H locs ls9 cx hP hD hS hl9)
theorem b_astoreN {k : Nat} (hd : decode cc pc = .ok (.astore k, 2)) (hn : k < n) (kk : BS sh own cc n rt fr lo Φ (pc + 2) (k_st1 L k .null) st w) : BS sh own cc n rt fr lo Φ pc L (.null :: st) w := by
  intro p l e s m args below meth co D ca ad H locs ls cx hP hD hS hl
  exact lv_astoreN cx.1 cx.2.1 hd hl hn (k_st1_L ad k .null) (fun ls9 hl9 => kk p l e s m args below meth co D ca ad H locs ls9 cx hP hD hS hl9)
theorem b_iinc {k : Nat} {d : Int} {x v : Int32} (hd : decode cc pc = .ok (.iinc k d, 3)) (hv : L.lookup k = some (.int x)) (he : x + Int32.ofInt d = v) (hn : k < n) (kk : BS sh own cc n rt fr lo Φ (pc + 3) (k_st1 L k (.int v)) st w) : BS sh own cc n rt fr lo Φ pc L st w := by
  intro p l e s m args below meth co D ca ad H locs ls cx hP hD hS hl
  have hm : ls[k]? = some (.val (k_v ad (.int x))) := k_lget hl hv
  obtain ⟨j, hj⟩ : ∃ j, ((k, Value.int x) :: k_L ad L)[j]? = some (k, Value.int x) := ⟨0, rfl⟩
  have hl2 : lv_has ls n ((k, Value.int x) :: k_L ad L) := ⟨hl.1, hl.2.1, fun q hq => by
    rcases List.mem_cons.mp hq with h | h
    · rw [h]; exact hm
    · exact hl.2.2 q h⟩
  refine lv_iinc cx.1 cx.2.1 hd hl2 hj he hn (lv' := k_L ad (k_st1 L k (.int v))) ?_ (fun ls9 hl9 => kk p l e s m args below meth co D ca ad H locs ls9 cx hP hD hS hl9)
  rw [← k_st1_L ad k (.int v), List.filter_cons_of_neg (by simp)]
  rfl
theorem b_iadd {x y : Int32} (hd : decode cc pc = .ok (.iadd, 1)) (kk : BS sh own cc n rt fr lo Φ (pc + 1) L (.int (x + y) :: st) w) : BS sh own cc n rt fr lo Φ pc L (.int y :: .int x :: st) w := by
  intro p l e s m args below meth co D ca ad H locs ls cx hP hD hS hl
  exact lv_iadd cx.1 cx.2.1 hd (kk p l e s m args below meth co D ca ad H locs ls cx hP hD hS hl)
theorem b_isub {x y : Int32} (hd : decode cc pc = .ok (.isub, 1)) (kk : BS sh own cc n rt fr lo Φ (pc + 1) L (.int (x - y) :: st) w) : BS sh own cc n rt fr lo Φ pc L (.int y :: .int x :: st) w := by
  intro p l e s m args below meth co D ca ad H locs ls cx hP hD hS hl
  exact lv_isub cx.1 cx.2.1 hd (kk p l e s m args below meth co D ca ad H locs ls cx hP hD hS hl)
theorem b_imul {x y : Int32} (hd : decode cc pc = .ok (.imul, 1)) (kk : BS sh own cc n rt fr lo Φ (pc + 1) L (.int (x * y) :: st) w) : BS sh own cc n rt fr lo Φ pc L (.int y :: .int x :: st) w := by
  intro p l e s m args below meth co D ca ad H locs ls cx hP hD hS hl
  exact lv_imul cx.1 cx.2.1 hd (kk p l e s m args below meth co D ca ad H locs ls cx hP hD hS hl)
theorem b_iand {x y : Int32} (hd : decode cc pc = .ok (.iand, 1)) (kk : BS sh own cc n rt fr lo Φ (pc + 1) L (.int (x &&& y) :: st) w) : BS sh own cc n rt fr lo Φ pc L (.int y :: .int x :: st) w := by
  intro p l e s m args below meth co D ca ad H locs ls cx hP hD hS hl
  exact lv_iand cx.1 cx.2.1 hd (kk p l e s m args below meth co D ca ad H locs ls cx hP hD hS hl)
theorem b_ior {x y : Int32} (hd : decode cc pc = .ok (.ior, 1)) (kk : BS sh own cc n rt fr lo Φ (pc + 1) L (.int (x ||| y) :: st) w) : BS sh own cc n rt fr lo Φ pc L (.int y :: .int x :: st) w := by
  intro p l e s m args below meth co D ca ad H locs ls cx hP hD hS hl
  exact lv_ior cx.1 cx.2.1 hd (kk p l e s m args below meth co D ca ad H locs ls cx hP hD hS hl)
theorem b_ixor {x y : Int32} (hd : decode cc pc = .ok (.ixor, 1)) (kk : BS sh own cc n rt fr lo Φ (pc + 1) L (.int (x ^^^ y) :: st) w) : BS sh own cc n rt fr lo Φ pc L (.int y :: .int x :: st) w := by
  intro p l e s m args below meth co D ca ad H locs ls cx hP hD hS hl
  exact lv_ixor cx.1 cx.2.1 hd (kk p l e s m args below meth co D ca ad H locs ls cx hP hD hS hl)
theorem b_ishl {x y : Int32} (hd : decode cc pc = .ok (.ishl, 1)) (kk : BS sh own cc n rt fr lo Φ (pc + 1) L (.int (x <<< (y &&& 31)) :: st) w) : BS sh own cc n rt fr lo Φ pc L (.int y :: .int x :: st) w := by
  intro p l e s m args below meth co D ca ad H locs ls cx hP hD hS hl
  exact lv_ishl cx.1 cx.2.1 hd (kk p l e s m args below meth co D ca ad H locs ls cx hP hD hS hl)
theorem b_ishr {x y : Int32} (hd : decode cc pc = .ok (.ishr, 1)) (kk : BS sh own cc n rt fr lo Φ (pc + 1) L (.int (x >>> (y &&& 31)) :: st) w) : BS sh own cc n rt fr lo Φ pc L (.int y :: .int x :: st) w := by
  intro p l e s m args below meth co D ca ad H locs ls cx hP hD hS hl
  exact lv_ishr cx.1 cx.2.1 hd (kk p l e s m args below meth co D ca ad H locs ls cx hP hD hS hl)
theorem b_idiv {x y : Int32} (hd : decode cc pc = .ok (.idiv, 1)) (hne : ¬ y = 0) (kk : BS sh own cc n rt fr lo Φ (pc + 1) L (.int (x / y) :: st) w) : BS sh own cc n rt fr lo Φ pc L (.int y :: .int x :: st) w := by
  intro p l e s m args below meth co D ca ad H locs ls cx hP hD hS hl
  exact lv_idiv cx.1 cx.2.1 hd hne (kk p l e s m args below meth co D ca ad H locs ls cx hP hD hS hl)
theorem b_irem {x y : Int32} (hd : decode cc pc = .ok (.irem, 1)) (hne : ¬ y = 0) (kk : BS sh own cc n rt fr lo Φ (pc + 1) L (.int (x - x / y * y) :: st) w) : BS sh own cc n rt fr lo Φ pc L (.int y :: .int x :: st) w := by
  intro p l e s m args below meth co D ca ad H locs ls cx hP hD hS hl
  exact lv_irem cx.1 cx.2.1 hd hne (kk p l e s m args below meth co D ca ad H locs ls cx hP hD hS hl)
theorem b_ladd {x y : Int64} (hd : decode cc pc = .ok (.ladd, 1)) (kk : BS sh own cc n rt fr lo Φ (pc + 1) L (.long (x + y) :: st) w) : BS sh own cc n rt fr lo Φ pc L (.long y :: .long x :: st) w := by
  intro p l e s m args below meth co D ca ad H locs ls cx hP hD hS hl
  exact lv_ladd cx.1 cx.2.1 hd (kk p l e s m args below meth co D ca ad H locs ls cx hP hD hS hl)
theorem b_land {x y : Int64} (hd : decode cc pc = .ok (.land, 1)) (kk : BS sh own cc n rt fr lo Φ (pc + 1) L (.long (x &&& y) :: st) w) : BS sh own cc n rt fr lo Φ pc L (.long y :: .long x :: st) w := by
  intro p l e s m args below meth co D ca ad H locs ls cx hP hD hS hl
  exact lv_land cx.1 cx.2.1 hd (kk p l e s m args below meth co D ca ad H locs ls cx hP hD hS hl)
theorem b_lor {x y : Int64} (hd : decode cc pc = .ok (.lor, 1)) (kk : BS sh own cc n rt fr lo Φ (pc + 1) L (.long (x ||| y) :: st) w) : BS sh own cc n rt fr lo Φ pc L (.long y :: .long x :: st) w := by
  intro p l e s m args below meth co D ca ad H locs ls cx hP hD hS hl
  exact lv_lor cx.1 cx.2.1 hd (kk p l e s m args below meth co D ca ad H locs ls cx hP hD hS hl)
theorem b_ldiv {x y : Int64} (hd : decode cc pc = .ok (.ldiv, 1)) (hne : ¬ y = 0) (kk : BS sh own cc n rt fr lo Φ (pc + 1) L (.long (x / y) :: st) w) : BS sh own cc n rt fr lo Φ pc L (.long y :: .long x :: st) w := by
  intro p l e s m args below meth co D ca ad H locs ls cx hP hD hS hl
  exact lv_ldiv cx.1 cx.2.1 hd hne (kk p l e s m args below meth co D ca ad H locs ls cx hP hD hS hl)
theorem b_lrem {x y : Int64} (hd : decode cc pc = .ok (.lrem, 1)) (hne : ¬ y = 0) (kk : BS sh own cc n rt fr lo Φ (pc + 1) L (.long (x - x / y * y) :: st) w) : BS sh own cc n rt fr lo Φ pc L (.long y :: .long x :: st) w := by
  intro p l e s m args below meth co D ca ad H locs ls cx hP hD hS hl
  exact lv_lrem cx.1 cx.2.1 hd hne (kk p l e s m args below meth co D ca ad H locs ls cx hP hD hS hl)
theorem b_lcmp {x y : Int64} (hd : decode cc pc = .ok (.lcmp, 1)) (kk : BS sh own cc n rt fr lo Φ (pc + 1) L (.int (lg_cmp x y) :: st) w) : BS sh own cc n rt fr lo Φ pc L (.long y :: .long x :: st) w := by
  intro p l e s m args below meth co D ca ad H locs ls cx hP hD hS hl
  exact W.lcmp cx.1 cx.2.1 hd (kk p l e s m args below meth co D ca ad H locs ls cx hP hD hS hl)
theorem b_lshl {x : Int64} {y : Int32} (hd : decode cc pc = .ok (.lshl, 1)) (kk : BS sh own cc n rt fr lo Φ (pc + 1) L (.long (x <<< (y.toInt64 &&& 63)) :: st) w) : BS sh own cc n rt fr lo Φ pc L (.int y :: .long x :: st) w := by
  intro p l e s m args below meth co D ca ad H locs ls cx hP hD hS hl
  exact lv_lshl cx.1 cx.2.1 hd rfl (kk p l e s m args below meth co D ca ad H locs ls cx hP hD hS hl)
theorem b_lshr {x : Int64} {y : Int32} (hd : decode cc pc = .ok (.lshr, 1)) (kk : BS sh own cc n rt fr lo Φ (pc + 1) L (.long (x >>> (y.toInt64 &&& 63)) :: st) w) : BS sh own cc n rt fr lo Φ pc L (.int y :: .long x :: st) w := by
  intro p l e s m args below meth co D ca ad H locs ls cx hP hD hS hl
  exact lv_lshr cx.1 cx.2.1 hd rfl (kk p l e s m args below meth co D ca ad H locs ls cx hP hD hS hl)
theorem b_iushr {x y : Int32} (hd : decode cc pc = .ok (.iushr, 1)) (kk : BS sh own cc n rt fr lo Φ (pc + 1) L (.int (x.toUInt32 >>> (y.toUInt32 &&& Int32.toUInt32 31)).toInt32 :: st) w) : BS sh own cc n rt fr lo Φ pc L (.int y :: .int x :: st) w := by
  intro p l e s m args below meth co D ca ad H locs ls cx hP hD hS hl
  exact lv_iushr cx.1 cx.2.1 hd rfl (kk p l e s m args below meth co D ca ad H locs ls cx hP hD hS hl)
theorem b_i2l {x : Int32} (hd : decode cc pc = .ok (.i2l, 1)) (kk : BS sh own cc n rt fr lo Φ (pc + 1) L (.long x.toInt64 :: st) w) : BS sh own cc n rt fr lo Φ pc L (.int x :: st) w := by
  intro p l e s m args below meth co D ca ad H locs ls cx hP hD hS hl
  exact lv_i2l cx.1 cx.2.1 hd rfl (kk p l e s m args below meth co D ca ad H locs ls cx hP hD hS hl)
theorem b_i2b {x : Int32} (hd : decode cc pc = .ok (.i2b, 1)) (kk : BS sh own cc n rt fr lo Φ (pc + 1) L (.int x.toInt8.toInt32 :: st) w) : BS sh own cc n rt fr lo Φ pc L (.int x :: st) w := by
  intro p l e s m args below meth co D ca ad H locs ls cx hP hD hS hl
  exact lv_i2b cx.1 cx.2.1 hd rfl (kk p l e s m args below meth co D ca ad H locs ls cx hP hD hS hl)
theorem b_i2s {x : Int32} (hd : decode cc pc = .ok (.i2s, 1)) (kk : BS sh own cc n rt fr lo Φ (pc + 1) L (.int x.toInt16.toInt32 :: st) w) : BS sh own cc n rt fr lo Φ pc L (.int x :: st) w := by
  intro p l e s m args below meth co D ca ad H locs ls cx hP hD hS hl
  exact lv_i2s cx.1 cx.2.1 hd rfl (kk p l e s m args below meth co D ca ad H locs ls cx hP hD hS hl)
theorem b_dup {v : Value} (hd : decode cc pc = .ok (.dup, 1)) (hv : v.category = 1) (kk : BS sh own cc n rt fr lo Φ (pc + 1) L (v :: v :: st) w) : BS sh own cc n rt fr lo Φ pc L (v :: st) w := by
  intro p l e s m args below meth co D ca ad H locs ls cx hP hD hS hl
  exact lv_dup cx.1 cx.2.1 hd (by rw [k_v_cat]; exact hv) (kk p l e s m args below meth co D ca ad H locs ls cx hP hD hS hl)
theorem b_if_eq {x : Int32} {off : Int} {tgt : Nat} (hd : decode cc pc = .ok (.ifCond .eq off, 3)) (ht : (pc : Int) + off = (tgt : Int)) (kt : x = 0 → BS sh own cc n rt fr lo Φ tgt L st w) (kf : ¬ x = 0 → BS sh own cc n rt fr lo Φ (pc + 3) L st w) : BS sh own cc n rt fr lo Φ pc L (.int x :: st) w := by
  intro p l e s m args below meth co D ca ad H locs ls cx hP hD hS hl
  exact lv_if_eq cx.1 cx.2.1 hd ht (fun h9 => kt h9 p l e s m args below meth co D ca ad H locs ls cx hP hD hS hl) (fun h9 => kf h9 p l e s m args below meth co D ca ad H locs ls cx hP hD hS hl)
theorem b_icmp_eq {x y : Int32} {off : Int} {tgt : Nat} (hd : decode cc pc = .ok (.if_icmp .eq off, 3)) (ht : (pc : Int) + off = (tgt : Int)) (kt : x = y → BS sh own cc n rt fr lo Φ tgt L st w) (kf : ¬ x = y → BS sh own cc n rt fr lo Φ (pc + 3) L st w) : BS sh own cc n rt fr lo Φ pc L (.int y :: .int x :: st) w := by
  intro p l e s m args below meth co D ca ad H locs ls cx hP hD hS hl
  exact lv_icmp_eq cx.1 cx.2.1 hd ht (fun h9 => kt h9 p l e s m args below meth co D ca ad H locs ls cx hP hD hS hl) (fun h9 => kf h9 p l e s m args below meth co D ca ad H locs ls cx hP hD hS hl)
theorem b_if_ne {x : Int32} {off : Int} {tgt : Nat} (hd : decode cc pc = .ok (.ifCond .ne off, 3)) (ht : (pc : Int) + off = (tgt : Int)) (kt : ¬ x = 0 → BS sh own cc n rt fr lo Φ tgt L st w) (kf : x = 0 → BS sh own cc n rt fr lo Φ (pc + 3) L st w) : BS sh own cc n rt fr lo Φ pc L (.int x :: st) w := by
  intro p l e s m args below meth co D ca ad H locs ls cx hP hD hS hl
  exact lv_if_ne cx.1 cx.2.1 hd ht (fun h9 => kt h9 p l e s m args below meth co D ca ad H locs ls cx hP hD hS hl) (fun h9 => kf h9 p l e s m args below meth co D ca ad H locs ls cx hP hD hS hl)
theorem b_icmp_ne {x y : Int32} {off : Int} {tgt : Nat} (hd : decode cc pc = .ok (.if_icmp .ne off, 3)) (ht : (pc : Int) + off = (tgt : Int)) (kt : ¬ x = y → BS sh own cc n rt fr lo Φ tgt L st w) (kf : x = y → BS sh own cc n rt fr lo Φ (pc + 3) L st w) : BS sh own cc n rt fr lo Φ pc L (.int y :: .int x :: st) w := by
  intro p l e s m args below meth co D ca ad H locs ls cx hP hD hS hl
  exact lv_icmp_ne cx.1 cx.2.1 hd ht (fun h9 => kt h9 p l e s m args below meth co D ca ad H locs ls cx hP hD hS hl) (fun h9 => kf h9 p l e s m args below meth co D ca ad H locs ls cx hP hD hS hl)
theorem b_if_lt {x : Int32} {off : Int} {tgt : Nat} (hd : decode cc pc = .ok (.ifCond .lt off, 3)) (ht : (pc : Int) + off = (tgt : Int)) (kt : x < 0 → BS sh own cc n rt fr lo Φ tgt L st w) (kf : ¬ x < 0 → BS sh own cc n rt fr lo Φ (pc + 3) L st w) : BS sh own cc n rt fr lo Φ pc L (.int x :: st) w := by
  intro p l e s m args below meth co D ca ad H locs ls cx hP hD hS hl
  exact lv_if_lt cx.1 cx.2.1 hd ht (fun h9 => kt h9 p l e s m args below meth co D ca ad H locs ls cx hP hD hS hl) (fun h9 => kf h9 p l e s m args below meth co D ca ad H locs ls cx hP hD hS hl)
theorem b_icmp_lt {x y : Int32} {off : Int} {tgt : Nat} (hd : decode cc pc = .ok (.if_icmp .lt off, 3)) (ht : (pc : Int) + off = (tgt : Int)) (kt : x < y → BS sh own cc n rt fr lo Φ tgt L st w) (kf : ¬ x < y → BS sh own cc n rt fr lo Φ (pc + 3) L st w) : BS sh own cc n rt fr lo Φ pc L (.int y :: .int x :: st) w := by
  intro p l e s m args below meth co D ca ad H locs ls cx hP hD hS hl
  exact lv_icmp_lt cx.1 cx.2.1 hd ht (fun h9 => kt h9 p l e s m args below meth co D ca ad H locs ls cx hP hD hS hl) (fun h9 => kf h9 p l e s m args below meth co D ca ad H locs ls cx hP hD hS hl)
theorem b_if_ge {x : Int32} {off : Int} {tgt : Nat} (hd : decode cc pc = .ok (.ifCond .ge off, 3)) (ht : (pc : Int) + off = (tgt : Int)) (kt : 0 ≤ x → BS sh own cc n rt fr lo Φ tgt L st w) (kf : ¬ 0 ≤ x → BS sh own cc n rt fr lo Φ (pc + 3) L st w) : BS sh own cc n rt fr lo Φ pc L (.int x :: st) w := by
  intro p l e s m args below meth co D ca ad H locs ls cx hP hD hS hl
  exact lv_if_ge cx.1 cx.2.1 hd ht (fun h9 => kt h9 p l e s m args below meth co D ca ad H locs ls cx hP hD hS hl) (fun h9 => kf h9 p l e s m args below meth co D ca ad H locs ls cx hP hD hS hl)
theorem b_icmp_ge {x y : Int32} {off : Int} {tgt : Nat} (hd : decode cc pc = .ok (.if_icmp .ge off, 3)) (ht : (pc : Int) + off = (tgt : Int)) (kt : y ≤ x → BS sh own cc n rt fr lo Φ tgt L st w) (kf : ¬ y ≤ x → BS sh own cc n rt fr lo Φ (pc + 3) L st w) : BS sh own cc n rt fr lo Φ pc L (.int y :: .int x :: st) w := by
  intro p l e s m args below meth co D ca ad H locs ls cx hP hD hS hl
  exact lv_icmp_ge cx.1 cx.2.1 hd ht (fun h9 => kt h9 p l e s m args below meth co D ca ad H locs ls cx hP hD hS hl) (fun h9 => kf h9 p l e s m args below meth co D ca ad H locs ls cx hP hD hS hl)
theorem b_if_gt {x : Int32} {off : Int} {tgt : Nat} (hd : decode cc pc = .ok (.ifCond .gt off, 3)) (ht : (pc : Int) + off = (tgt : Int)) (kt : 0 < x → BS sh own cc n rt fr lo Φ tgt L st w) (kf : ¬ 0 < x → BS sh own cc n rt fr lo Φ (pc + 3) L st w) : BS sh own cc n rt fr lo Φ pc L (.int x :: st) w := by
  intro p l e s m args below meth co D ca ad H locs ls cx hP hD hS hl
  exact lv_if_gt cx.1 cx.2.1 hd ht (fun h9 => kt h9 p l e s m args below meth co D ca ad H locs ls cx hP hD hS hl) (fun h9 => kf h9 p l e s m args below meth co D ca ad H locs ls cx hP hD hS hl)
theorem b_icmp_gt {x y : Int32} {off : Int} {tgt : Nat} (hd : decode cc pc = .ok (.if_icmp .gt off, 3)) (ht : (pc : Int) + off = (tgt : Int)) (kt : y < x → BS sh own cc n rt fr lo Φ tgt L st w) (kf : ¬ y < x → BS sh own cc n rt fr lo Φ (pc + 3) L st w) : BS sh own cc n rt fr lo Φ pc L (.int y :: .int x :: st) w := by
  intro p l e s m args below meth co D ca ad H locs ls cx hP hD hS hl
  exact lv_icmp_gt cx.1 cx.2.1 hd ht (fun h9 => kt h9 p l e s m args below meth co D ca ad H locs ls cx hP hD hS hl) (fun h9 => kf h9 p l e s m args below meth co D ca ad H locs ls cx hP hD hS hl)
theorem b_if_le {x : Int32} {off : Int} {tgt : Nat} (hd : decode cc pc = .ok (.ifCond .le off, 3)) (ht : (pc : Int) + off = (tgt : Int)) (kt : x ≤ 0 → BS sh own cc n rt fr lo Φ tgt L st w) (kf : ¬ x ≤ 0 → BS sh own cc n rt fr lo Φ (pc + 3) L st w) : BS sh own cc n rt fr lo Φ pc L (.int x :: st) w := by
  intro p l e s m args below meth co D ca ad H locs ls cx hP hD hS hl
  exact lv_if_le cx.1 cx.2.1 hd ht (fun h9 => kt h9 p l e s m args below meth co D ca ad H locs ls cx hP hD hS hl) (fun h9 => kf h9 p l e s m args below meth co D ca ad H locs ls cx hP hD hS hl)
theorem b_icmp_le {x y : Int32} {off : Int} {tgt : Nat} (hd : decode cc pc = .ok (.if_icmp .le off, 3)) (ht : (pc : Int) + off = (tgt : Int)) (kt : x ≤ y → BS sh own cc n rt fr lo Φ tgt L st w) (kf : ¬ x ≤ y → BS sh own cc n rt fr lo Φ (pc + 3) L st w) : BS sh own cc n rt fr lo Φ pc L (.int y :: .int x :: st) w := by
  intro p l e s m args below meth co D ca ad H locs ls cx hP hD hS hl
  exact lv_icmp_le cx.1 cx.2.1 hd ht (fun h9 => kt h9 p l e s m args below meth co D ca ad H locs ls cx hP hD hS hl) (fun h9 => kf h9 p l e s m args below meth co D ca ad H locs ls cx hP hD hS hl)
theorem b_goto {off : Int} {tgt : Nat} (hd : decode cc pc = .ok (.goto off, 3)) (ht : (pc : Int) + off = (tgt : Int)) (kk : BS sh own cc n rt fr lo Φ tgt L st w) : BS sh own cc n rt fr lo Φ pc L st w := by
  intro p l e s m args below meth co D ca ad H locs ls cx hP hD hS hl
  exact lv_goto cx.1 cx.2.1 hd ht (kk p l e s m args below meth co D ca ad H locs ls cx hP hD hS hl)
theorem b_ifnull {x : Nat} {off : Int} (hd : decode cc pc = .ok (.ifnull off, 3)) (kk : BS sh own cc n rt fr lo Φ (pc + 3) L st w) : BS sh own cc n rt fr lo Φ pc L (.ref x :: st) w := by
  intro p l e s m args below meth co D ca ad H locs ls cx hP hD hS hl
  exact lv_ifnull cx.1 cx.2.1 hd (kk p l e s m args below meth co D ca ad H locs ls cx hP hD hS hl)
theorem b_ifnullN {off : Int} {tgt : Nat} (hd : decode cc pc = .ok (.ifnull off, 3)) (ht : (pc : Int) + off = (tgt : Int)) (kk : BS sh own cc n rt fr lo Φ tgt L st w) : BS sh own cc n rt fr lo Φ pc L (.null :: st) w := by
  intro p l e s m args below meth co D ca ad H locs ls cx hP hD hS hl
  exact lv_ifnullN cx.1 cx.2.1 hd ht (kk p l e s m args below meth co D ca ad H locs ls cx hP hD hS hl)
theorem b_ifnonnull {x : Nat} {off : Int} {tgt : Nat} (hd : decode cc pc = .ok (.ifnonnull off, 3)) (ht : (pc : Int) + off = (tgt : Int)) (kk : BS sh own cc n rt fr lo Φ tgt L st w) : BS sh own cc n rt fr lo Φ pc L (.ref x :: st) w := by
  intro p l e s m args below meth co D ca ad H locs ls cx hP hD hS hl
  exact lv_ifnonnull cx.1 cx.2.1 hd ht (kk p l e s m args below meth co D ca ad H locs ls cx hP hD hS hl)
theorem b_ifnonnullN {off : Int} (hd : decode cc pc = .ok (.ifnonnull off, 3)) (kk : BS sh own cc n rt fr lo Φ (pc + 3) L st w) : BS sh own cc n rt fr lo Φ pc L (.null :: st) w := by
  intro p l e s m args below meth co D ca ad H locs ls cx hP hD hS hl
  exact lv_ifnonnullN cx.1 cx.2.1 hd (kk p l e s m args below meth co D ca ad H locs ls cx hP hD hS hl)
theorem b_tsIn {dflt lw hg : Int} {offs : Array Int} {len : Nat} {x : Int32} {off : Int} {tgt : Nat} (hd : decode cc pc = .ok (.tableswitch dflt lw hg offs, len)) (h1 : ¬ x.toInt < lw) (h2 : ¬ hg < x.toInt) (ho : offs[(x.toInt - lw).toNat]? = some off) (ht : (pc : Int) + off = (tgt : Int)) (kk : BS sh own cc n rt fr lo Φ tgt L st w) : BS sh own cc n rt fr lo Φ pc L (.int x :: st) w := by
  intro p l e s m args below meth co D ca ad H locs ls cx hP hD hS hl
  exact lv_tableIn cx.1 cx.2.1 hd h1 h2 ho ht (kk p l e s m args below meth co D ca ad H locs ls cx hP hD hS hl)
theorem b_tsOut {dflt lw hg : Int} {offs : Array Int} {len : Nat} {x : Int32} {tgt : Nat} (hd : decode cc pc = .ok (.tableswitch dflt lw hg offs, len)) (h : x.toInt < lw ∨ hg < x.toInt) (ht : (pc : Int) + dflt = (tgt : Int)) (kk : BS sh own cc n rt fr lo Φ tgt L st w) : BS sh own cc n rt fr lo Φ pc L (.int x :: st) w := by
  intro p l e s m args below meth co D ca ad H locs ls cx hP hD hS hl
  exact lv_tableOut cx.1 cx.2.1 hd h ht (kk p l e s m args below meth co D ca ad H locs ls cx hP hD hS hl)
theorem b_lsw {dflt : Int} {ps : Array (Int × Int)} {len : Nat} {x : Int32} {off : Int} {tgt : Nat} (hd : decode cc pc = .ok (.lookupswitch dflt ps, len)) (hp : (ps.toList.zip (ps.toList.drop 1)).all (fun (a, next) => a.1 < next.1) = true) (ho : Op.lookupswitch.offset ps.toList dflt x.toInt = off) (ht : (pc : Int) + off = (tgt : Int)) (kk : BS sh own cc n rt fr lo Φ tgt L st w) : BS sh own cc n rt fr lo Φ pc L (.int x :: st) w := by
  intro p l e s m args below meth co D ca ad H locs ls cx hP hD hS hl
  exact lv_lookup cx.1 cx.2.1 hd hp ho ht (kk p l e s m args below meth co D ca ad H locs ls cx hP hD hS hl)
/-- field k of kind ci, under the entry ix of own's pool -/
def k_fld (own : String) (ix ci k : Nat) : Prop := ∃ (C : String) (T : u_T) (N : Nat), vwCl[ci]? = some (C, T, N) ∧ (∀ w ∈ u_ws C T N, w ∈ cw) ∧ k < N ∧ Cond.fieldLink own ix (T k).1 (T k).2.1 (T k).2.2.1 ∈ cw
/-- what a store into it wants: its type, not final -/
def k_fst (ci k : Nat) (ty : FieldType) : Prop := ∃ (C : String) (T : u_T) (N : Nat) (t0 : Nat → FieldType), vwCl[ci]? = some (C, T, N) ∧ (∀ a, a < N → parseFieldDescriptor (T a).2.2.1 = some (t0 a)) ∧ (∀ a, a < N → ∀ b, b < N → a ≠ b → (T a).2.1 ≠ (T b).2.1) ∧ t0 k = ty ∧ (T k).2.2.2 = false
theorem k_obj {ad : Nat → Nat} {ca : Nat → ClassId} {c ci : Nat} {fs : List kF} (hc : sh[c]? = some (.inl (ci, fs))) : (k_wd ad ca sh w)[c]? = some (ad c, .inr (ci, fs.mapIdx (fun j f => k_val ad w c j f))) := k_wd_get hc
theorem k_fs {ad : Nat → Nat} {c k : Nat} {fs : List kF} {f : kF} (hf : fs[k]? = some f) : (fs.mapIdx (fun j f => k_val ad w c j f))[k]? = some (k_val ad w c k f) := by
  rw [List.getElem?_mapIdx, hf]; rfl
theorem b_geti {ix c ci k : Nat} {fs : List kF} (hd : decode cc pc = .ok (.getfield ix, 3)) (hF : k_fld own ix ci k) (hc : sh[c]? = some (.inl (ci, fs))) (hf : fs[k]? = some none) (kk : BS sh own cc n rt fr lo Φ (pc + 3) L ((.int (w.1 c k)) :: st) w) : BS sh own cc n rt fr lo Φ pc L (.ref c :: st) w := by
  intro p l e s m args below meth co D ca ad H locs ls cx hP hD hS hl
  obtain ⟨C, T, N, hcl, hin, hk, hlk⟩ := hF
  exact va_get cx.1 cx.2.1 cx.2.2.2.2.1 hin cx.2.2.2.1 cx.2.2.2.2.2.2.2.1 hP c (k_obj hc) hcl k hk (cx.2.2.2.2.1 _ hlk) (fun x h => h) (k_fs hf) hd (kk p l e s m args below meth co D ca ad H locs ls cx hP hD hS hl)
theorem b_getl {ix c ci k : Nat} {fs : List kF} (hd : decode cc pc = .ok (.getfield ix, 3)) (hF : k_fld own ix ci k) (hc : sh[c]? = some (.inl (ci, fs))) (hf : fs[k]? = some (some none)) (kk : BS sh own cc n rt fr lo Φ (pc + 3) L ((.long (w.2 c k)) :: st) w) : BS sh own cc n rt fr lo Φ pc L (.ref c :: st) w := by
  intro p l e s m args below meth co D ca ad H locs ls cx hP hD hS hl
  obtain ⟨C, T, N, hcl, hin, hk, hlk⟩ := hF
  exact va_get cx.1 cx.2.1 cx.2.2.2.2.1 hin cx.2.2.2.1 cx.2.2.2.2.2.2.2.1 hP c (k_obj hc) hcl k hk (cx.2.2.2.2.1 _ hlk) (fun x h => h) (k_fs hf) hd (kk p l e s m args below meth co D ca ad H locs ls cx hP hD hS hl)
theorem b_getr {ix c ci k : Nat} {r : Nat} {fs : List kF} (hd : decode cc pc = .ok (.getfield ix, 3)) (hF : k_fld own ix ci k) (hc : sh[c]? = some (.inl (ci, fs))) (hf : fs[k]? = some (some (some r))) (kk : BS sh own cc n rt fr lo Φ (pc + 3) L ((.ref r) :: st) w) : BS sh own cc n rt fr lo Φ pc L (.ref c :: st) w := by
  intro p l e s m args below meth co D ca ad H locs ls cx hP hD hS hl
  obtain ⟨C, T, N, hcl, hin, hk, hlk⟩ := hF
  exact va_get cx.1 cx.2.1 cx.2.2.2.2.1 hin cx.2.2.2.1 cx.2.2.2.2.2.2.2.1 hP c (k_obj hc) hcl k hk (cx.2.2.2.2.1 _ hlk) (fun x h => h) (k_fs hf) hd (kk p l e s m args below meth co D ca ad H locs ls cx hP hD hS hl)
theorem k_set_i {ad : Nat → Nat} {ca : Nat → ClassId} {c ci k : Nat} {fs : List kF} {v : Int32} (hc : sh[c]? = some (.inl (ci, fs))) (hf : fs[k]? = some none) : (k_wd ad ca sh w).set c (ad c, .inr (ci, (fs.mapIdx (fun j f => k_val ad w c j f)).set k (.int v))) = k_wd ad ca sh (k_up w.1 c k v, w.2) := by
  refine k_wd_set (w := w) (w' := (k_up w.1 c k v, w.2)) hc (fun c' h => k_up_row _ _ _ _ h) (fun _ _ => rfl) ?_
  show Sum.inr (ci, _) = Sum.inr (ci, _)
  congr 2
  apply List.ext_getElem?
  intro i
  have hl := (List.getElem?_eq_some_iff.mp hf).1
  by_cases hi : k = i
  · subst hi
    rw [List.getElem?_set_self (by simpa using hl), List.getElem?_mapIdx, hf]
    simp [k_val, k_up]
  · rw [List.getElem?_set_ne hi, List.getElem?_mapIdx, List.getElem?_mapIdx]
    cases hs : fs[i]? with
    | none => rfl
    | some f =>
      match f with
      | none => simp [k_val, k_up, Ne.symm hi]
      | some none => rfl
      | some (some r) => rfl
theorem k_set_l {ad : Nat → Nat} {ca : Nat → ClassId} {c ci k : Nat} {fs : List kF} {v : Int64} (hc : sh[c]? = some (.inl (ci, fs))) (hf : fs[k]? = some (some none)) : (k_wd ad ca sh w).set c (ad c, .inr (ci, (fs.mapIdx (fun j f => k_val ad w c j f)).set k (.long v))) = k_wd ad ca sh (w.1, k_up w.2 c k v) := by
  refine k_wd_set (w := w) (w' := (w.1, k_up w.2 c k v)) hc (fun _ _ => rfl) (fun c' h => k_up_row _ _ _ _ h) ?_
  show Sum.inr (ci, _) = Sum.inr (ci, _)
  congr 2
  apply List.ext_getElem?
  intro i
  have hl := (List.getElem?_eq_some_iff.mp hf).1
  by_cases hi : k = i
  · subst hi
    rw [List.getElem?_set_self (by simpa using hl), List.getElem?_mapIdx, hf]
    simp [k_val, k_up]
  · rw [List.getElem?_set_ne hi, List.getElem?_mapIdx, List.getElem?_mapIdx]
    cases hs : fs[i]? with
    | none => rfl
    | some f =>
      match f with
      | none => rfl
      | some none => simp [k_val, k_up, Ne.symm hi]
      | some (some r) => rfl
theorem k_arr {ad : Nat → Nat} {ca : Nat → ClassId} {c t N : Nat} (hc : sh[c]? = some (.inr (.inl (t, N)))) : (k_wd ad ca sh w)[c]? = some (ad c, .inl (ca t, N, .inl (w.1 c))) := k_wd_get hc
theorem k_set_a {ad : Nat → Nat} {ca : Nat → ClassId} {c t N i : Nat} {v : Int32} (hc : sh[c]? = some (.inr (.inl (t, N)))) : (k_wd ad ca sh w).set c (ad c, .inl (ca t, N, .inl (upd (w.1 c) i v))) = k_wd ad ca sh (k_up w.1 c i v, w.2) := by
  refine k_wd_set (w := w) (w' := (k_up w.1 c i v, w.2)) hc (fun c' h => k_up_row _ _ _ _ h) (fun _ _ => rfl) ?_
  show Sum.inl (ca t, N, Sum.inl _) = Sum.inl (ca t, N, Sum.inl _)
  refine congrArg (fun f => Sum.inl (ca t, N, Sum.inl f)) ?_
  funext j
  simp [upd, k_up]
theorem b_puti {ix c ci k : Nat} {v : Int32} {fs : List kF} (hd : decode cc pc = .ok (.putfield ix, 3)) (hF : k_fld own ix ci k) (hG : k_fst ci k .int) (hc : sh[c]? = some (.inl (ci, fs))) (hf : fs[k]? = some none) (kk : BS sh own cc n rt fr lo Φ (pc + 3) L st (k_up w.1 c k v, w.2)) : BS sh own cc n rt fr lo Φ pc L (.int v :: .ref c :: st) w := by
  intro p l e s m args below meth co D ca ad H locs ls cx hP hD hS hl
  obtain ⟨C, T, N, hcl, hin, hk, hlk⟩ := hF
  obtain ⟨C', T', N', t0, hcl', hty, hnm, hkt, hfin⟩ := hG
  cases hcl.symm.trans hcl'
  have hl9 : k < (fs.mapIdx (fun j f => k_val ad w c j f)).length := by simpa using (List.getElem?_eq_some_iff.mp hf).1
  refine va_put (ty := .int) cx.1 cx.2.1 cx.2.2.2.2.1 hin t0 hty hnm cx.2.2.2.1 cx.2.2.2.2.2.2.2.1 hP hD hS c (k_obj hc) hcl k hk (cx.2.2.2.2.1 _ hlk) (fun x h => h) hfin (by rw [hty k hk, hkt]) rfl rfl hl9 hd (fun H1 locs1 hP1 hD1 hS1 => ?_)
  have e9 := k_set_i (w := w) (ad := ad) (ca := ca) (v := v) hc hf
  exact kk p l e s m args below meth co D ca ad H1 locs1 ls cx (e9 ▸ hP1) (k_D_self hD) hS1 hl
theorem b_putz {ix c ci k : Nat} {v : Int32} {fs : List kF} (hd : decode cc pc = .ok (.putfield ix, 3)) (hF : k_fld own ix ci k) (hG : k_fst ci k .boolean) (hc : sh[c]? = some (.inl (ci, fs))) (hf : fs[k]? = some none) (hv : v = 0 ∨ v = 1) (kk : BS sh own cc n rt fr lo Φ (pc + 3) L st (k_up w.1 c k v, w.2)) : BS sh own cc n rt fr lo Φ pc L (.int v :: .ref c :: st) w := by
  intro p l e s m args below meth co D ca ad H locs ls cx hP hD hS hl
  obtain ⟨C, T, N, hcl, hin, hk, hlk⟩ := hF
  obtain ⟨C', T', N', t0, hcl', hty, hnm, hkt, hfin⟩ := hG
  cases hcl.symm.trans hcl'
  have hl9 : k < (fs.mapIdx (fun j f => k_val ad w c j f)).length := by simpa using (List.getElem?_eq_some_iff.mp hf).1
  refine va_put (ty := .boolean) cx.1 cx.2.1 cx.2.2.2.2.1 hin t0 hty hnm cx.2.2.2.1 cx.2.2.2.2.2.2.2.1 hP hD hS c (k_obj hc) hcl k hk (cx.2.2.2.2.1 _ hlk) (fun x h => h) hfin (by rw [hty k hk, hkt]) (by rcases hv with rfl | rfl <;> rfl) (by rcases hv with rfl | rfl <;> rfl) hl9 hd (fun H1 locs1 hP1 hD1 hS1 => ?_)
  have e9 := k_set_i (w := w) (ad := ad) (ca := ca) (v := v) hc hf
  exact kk p l e s m args below meth co D ca ad H1 locs1 ls cx (e9 ▸ hP1) (k_D_self hD) hS1 hl
theorem b_putl {ix c ci k : Nat} {v : Int64} {fs : List kF} (hd : decode cc pc = .ok (.putfield ix, 3)) (hF : k_fld own ix ci k) (hG : k_fst ci k .long) (hc : sh[c]? = some (.inl (ci, fs))) (hf : fs[k]? = some (some none)) (kk : BS sh own cc n rt fr lo Φ (pc + 3) L st (w.1, k_up w.2 c k v)) : BS sh own cc n rt fr lo Φ pc L (.long v :: .ref c :: st) w := by
  intro p l e s m args below meth co D ca ad H locs ls cx hP hD hS hl
  obtain ⟨C, T, N, hcl, hin, hk, hlk⟩ := hF
  obtain ⟨C', T', N', t0, hcl', hty, hnm, hkt, hfin⟩ := hG
  cases hcl.symm.trans hcl'
  have hl9 : k < (fs.mapIdx (fun j f => k_val ad w c j f)).length := by simpa using (List.getElem?_eq_some_iff.mp hf).1
  refine va_put (ty := .long) cx.1 cx.2.1 cx.2.2.2.2.1 hin t0 hty hnm cx.2.2.2.1 cx.2.2.2.2.2.2.2.1 hP hD hS c (k_obj hc) hcl k hk (cx.2.2.2.2.1 _ hlk) (fun x h => h) hfin (by rw [hty k hk, hkt]) rfl rfl hl9 hd (fun H1 locs1 hP1 hD1 hS1 => ?_)
  have e9 := k_set_l (w := w) (ad := ad) (ca := ca) (v := v) hc hf
  exact kk p l e s m args below meth co D ca ad H1 locs1 ls cx (e9 ▸ hP1) (k_D_self hD) hS1 hl
theorem b_iald {c N : Nat} {i : Int32} (hd : decode cc pc = .ok (.iaload, 1)) (hc : sh[c]? = some (.inr (.inl (0, N)))) (hi : vp_in i N) (kk : BS sh own cc n rt fr lo Φ (pc + 1) L (.int (w.1 c i.toNatClampNeg) :: st) w) : BS sh own cc n rt fr lo Φ pc L (.int i :: .ref c :: st) w := by
  intro p l e s m args below meth co D ca ad H locs ls cx hP hD hS hl
  exact va_iald cx.1 cx.2.1 cx.2.2.2.2.2.2.2.1 hP c 0 (k_arr hc) rfl hi hd (kk p l e s m args below meth co D ca ad H locs ls cx hP hD hS hl)
theorem b_zald {c N : Nat} {i : Int32} (hd : decode cc pc = .ok (.baload, 1)) (hc : sh[c]? = some (.inr (.inl (1, N)))) (hi : vp_in i N) (kk : BS sh own cc n rt fr lo Φ (pc + 1) L (.int (w.1 c i.toNatClampNeg) :: st) w) : BS sh own cc n rt fr lo Φ pc L (.int i :: .ref c :: st) w := by
  intro p l e s m args below meth co D ca ad H locs ls cx hP hD hS hl
  exact va_zald cx.1 cx.2.1 cx.2.2.2.2.2.2.2.1 hP c 1 (k_arr hc) rfl hi hd (kk p l e s m args below meth co D ca ad H locs ls cx hP hD hS hl)
theorem b_iast {c N : Nat} {i x : Int32} (hd : decode cc pc = .ok (.iastore, 1)) (hc : sh[c]? = some (.inr (.inl (0, N)))) (hi : vp_in i N) (kk : BS sh own cc n rt fr lo Φ (pc + 1) L st (k_up w.1 c i.toNatClampNeg x, w.2)) : BS sh own cc n rt fr lo Φ pc L (.int x :: .int i :: .ref c :: st) w := by
  intro p l e s m args below meth co D ca ad H locs ls cx hP hD hS hl
  refine va_iast cx.1 cx.2.1 cx.2.2.2.2.2.2.2.1 hP hD hS c 0 (k_arr hc) rfl hi hd (fun H1 locs1 hP1 hD1 hS1 => ?_)
  have e9 := k_set_a (w := w) (ad := ad) (ca := ca) (i := i.toNatClampNeg) (v := x) hc
  exact kk p l e s m args below meth co D ca ad H1 locs1 ls cx (e9 ▸ hP1) (k_D_self hD) hS1 hl
theorem b_zast {c N : Nat} {i x : Int32} (hd : decode cc pc = .ok (.bastore, 1)) (hc : sh[c]? = some (.inr (.inl (1, N)))) (hi : vp_in i N) (hx : vp_nar .boolean x = x) (kk : BS sh own cc n rt fr lo Φ (pc + 1) L st (k_up w.1 c i.toNatClampNeg x, w.2)) : BS sh own cc n rt fr lo Φ pc L (.int x :: .int i :: .ref c :: st) w := by
  intro p l e s m args below meth co D ca ad H locs ls cx hP hD hS hl
  refine va_zast cx.1 cx.2.1 cx.2.2.2.2.2.2.2.1 hP hD hS c 1 (k_arr hc) rfl hi hd (fun H1 locs1 hP1 hD1 hS1 => ?_)
  rw [hx] at hP1
  have e9 := k_set_a (w := w) (ad := ad) (ca := ca) (i := i.toNatClampNeg) (v := x) hc
  exact kk p l e s m args below meth co D ca ad H1 locs1 ls cx (e9 ▸ hP1) (k_D_self hD) hS1 hl
theorem b_alen {c t N : Nat} {v : Int32} (hd : decode cc pc = .ok (.arraylength, 1)) (hc : sh[c]? = some (.inr (.inl (t, N)))) (ht : t < 4) (hv : Int32.ofNat N = v) (kk : BS sh own cc n rt fr lo Φ (pc + 1) L (.int v :: st) w) : BS sh own cc n rt fr lo Φ pc L (.ref c :: st) w := by
  intro p l e s m args below meth co D ca ad H locs ls cx hP hD hS hl
  obtain ⟨ty, hty⟩ : ∃ ty, (k_tys ca)[t]? = some (ca t, ty) := by
    rcases (show t = 0 ∨ t = 1 ∨ t = 2 ∨ t = 3 by omega) with rfl | rfl | rfl | rfl <;> exact ⟨_, rfl⟩
  exact va_alen cx.1 cx.2.1 cx.2.2.2.2.2.2.2.1 hP c t (k_arr hc) hty hv hd (kk p l e s m args below meth co D ca ad H locs ls cx hP hD hS hl)
theorem b_aald {c t N r : Nat} {i : Int32} {f : Nat → Option Nat} (hd : decode cc pc = .ok (.aaload, 1)) (hc : sh[c]? = some (.inr (.inr (t, N, f)))) (ht : t = 2 ∨ t = 3) (hi : vp_in i N) (hf : f i.toNatClampNeg = some r) (kk : BS sh own cc n rt fr lo Φ (pc + 1) L (.ref r :: st) w) : BS sh own cc n rt fr lo Φ pc L (.int i :: .ref c :: st) w := by
  intro p l e s m args below meth co D ca ad H locs ls cx hP hD hS hl
  have hlt : i.toNatClampNeg < N := Nat.not_le.mp fun q => hi (Or.inr q)
  have hg : (k_wd ad ca sh w)[c]? = some (ad c, .inl (ca t, N, .inr (.inr (.inr (.inr (fun i => (f i).map ad)))))) := k_wd_get hc
  obtain ⟨ty, hty, hr⟩ : ∃ ty : FieldType, (k_tys ca)[t]? = some (ca t, ty) ∧ ty.isReference = true := by
    rcases ht with rfl | rfl <;> exact ⟨_, rfl, rfl⟩
  refine W.aald (v := .ref (ad r)) (ty := ty) cx.1 cx.2.1 (hP c _ hg) ((cx.2.2.2.2.2.2.2.1.2 t _ hty).1 N (fun j => va_rf ((f j).map ad))) hr (fun q => by cases q) (by show ¬ (i < 0 ∨ (arrV _ _ _).slots.size ≤ _); rw [arrV_size]; exact hi) ?_ rfl rfl hd (kk p l e s m args below meth co D ca ad H locs ls cx hP hD hS hl)
  show (arrV _ _ _).slots[_]? = _
  rw [arrV_read _ _ hlt]
  show some (va_rf ((f i.toNatClampNeg).map ad)) = _
  rw [hf]
  rfl
theorem b_iret {v : Int32} (hd : decode cc pc = .ok (.ireturn, 1)) (hr : rt = some .int) (h : Φ (some (.int v)) w) : BS sh own cc n rt fr lo Φ pc L [(.int v)] w := by
  intro p l e s m args below meth co D ca ad H locs ls cx hP hD hS hl
  exact W.iret cx.1 cx.2.1 (cx.2.2.2.2.2.1.trans hr) (fun t ht hW => ⟨⟨some (.int v), w, rfl, h, by rw [ht]; exact hP, va_K.moved hW.alike cx.2.2.2.2.2.2.2.1⟩, hS.F ht⟩) hS.2.2 hd cx.2.2.2.2.2.2.1
theorem b_zret {v : Int32} (hv : v = 0 ∨ v = 1) (hd : decode cc pc = .ok (.ireturn, 1)) (hr : rt = some .boolean) (h : Φ (some (.int v)) w) : BS sh own cc n rt fr lo Φ pc L [(.int v)] w := by
  intro p l e s m args below meth co D ca ad H locs ls cx hP hD hS hl
  exact W.zret cx.1 cx.2.1 (cx.2.2.2.2.2.1.trans hr) (by rcases hv with rfl | rfl <;> rfl) (fun t ht hW => ⟨⟨some (.int v), w, rfl, h, by rw [ht]; exact hP, va_K.moved hW.alike cx.2.2.2.2.2.2.2.1⟩, hS.F ht⟩) hS.2.2 hd cx.2.2.2.2.2.2.1
theorem b_lret {v : Int64} (hd : decode cc pc = .ok (.lreturn, 1)) (hr : rt = some .long) (h : Φ (some (.long v)) w) : BS sh own cc n rt fr lo Φ pc L [(.long v)] w := by
  intro p l e s m args below meth co D ca ad H locs ls cx hP hD hS hl
  exact W.lret cx.1 cx.2.1 (cx.2.2.2.2.2.1.trans hr) (fun t ht hW => ⟨⟨some (.long v), w, rfl, h, by rw [ht]; exact hP, va_K.moved hW.alike cx.2.2.2.2.2.2.2.1⟩, hS.F ht⟩) hS.2.2 hd cx.2.2.2.2.2.2.1
theorem b_vret (hd : decode cc pc = .ok (.return_, 1)) (hr : rt = none) (h : Φ none w) : BS sh own cc n rt fr lo Φ pc L [] w := by
  intro p l e s m args below meth co D ca ad H locs ls cx hP hD hS hl
  exact W.vret cx.1 cx.2.1 (cx.2.2.2.2.2.1.trans hr) (fun t ht hW => ⟨⟨none, w, rfl, h, by rw [ht]; exact hP, va_K.moved hW.alike cx.2.2.2.2.2.2.2.1⟩, hS.F ht⟩) hS.2.2 hd cx.2.2.2.2.2.2.1
theorem b_aret {v : Value} {C : String} (hd : decode cc pc = .ok (.areturn, 1)) (hr : rt = some (.object C)) (hv : v = .null ∨ ∃ a, v = .ref a) (h : Φ (some v) w) : BS sh own cc n rt fr lo Φ pc L [v] w := by
  intro p l e s m args below meth co D ca ad H locs ls cx hP hD hS hl
  exact W.aret cx.1 cx.2.1 (cx.2.2.2.2.2.1.trans hr) (Or.inl ⟨_, rfl⟩) (by rcases hv with rfl | ⟨a, rfl⟩; exact Or.inl rfl; exact Or.inr ⟨_, rfl⟩) (fun t ht hW => ⟨⟨some v, w, rfl, h, by rw [ht]; exact hP, va_K.moved hW.alike cx.2.2.2.2.2.2.2.1⟩, hS.F ht⟩) hS.2.2 hd cx.2.2.2.2.2.2.1

theorem k_goodIn {z : MethodName} {zc : ByteArray} {zn : Nat} {zr : Option FieldType} (h : Cond.code z zc zn zr ∈ cw) : GoodIn cw (.code z zc zn zr :: cw) := by
  intro v hv
  rcases List.mem_cons.mp hv with e | e
  · subst e
    exact ⟨h, good_of_word (cw_good h)⟩
  · exact ⟨e, good_of_word (cw_good e)⟩
/-- a call's words: entry ix of own's pool is z, z's code, its parameters -/
def k_lkC (own : String) (ix : Nat) (z : MethodName) (zc : ByteArray) (zn : Nat) (zr : Option FieldType) (a : Nat) : Prop := Cond.methodLink own ix z ∈ cw ∧ Cond.initialized z.cls ∈ cw ∧ Cond.code z zc zn zr ∈ cw ∧ z.cls ≠ "java/lang/invoke/MethodHandle" ∧ z.cls ≠ "java/lang/invoke/VarHandle" ∧ (parseMethodDescriptor z.desc).map (fun d => d.parameters.length) = some a
def k_lkV (own : String) (ix : Nat) (z : MethodName) (zc : ByteArray) (zn : Nat) (zr : Option FieldType) (a : Nat) : Prop := k_lkC own ix z zc zn zr a ∧ Cond.instanceMethod z ∈ cw ∧ Cond.selects z.cls z z ∈ cw
def k_lkS (own : String) (ix : Nat) (z : MethodName) (zc : ByteArray) (zn : Nat) (zr : Option FieldType) (a : Nat) : Prop := k_lkC own ix z zc zn zr a ∧ Cond.static z ∈ cw
theorem k_goes {p : Program} {l : Launch} {e : Env} {R : Room} {s : State} {m : MethodId} {args : Array Value} {below : List Frame} {meth : Method} {c : Code} {H H0 : Heap} {locs : List Loc} {Q : State → Prop} {ls : Array Slot} {st0 rest : List Value} {D : va_G} {ca : Nat → ClassId} {ad : Nat → Nat} {Ψ : Option Value → kW → Prop} {a : Array Value}
    (hr : va_Run p l e R s m args below meth c H locs 0 0 0 0 (F0 m pc ls st0) (rest.map (k_v ad)) (k_Qc sh D ca ad H.size Ψ a) (k_A sh ad H.size)) (hS : va_S (k_A sh ad H0.size) H0 H locs)
    (kk : ∀ (r : Option Value) (w' : kW) (H1 : Heap) (locs1 : List Loc), Ψ r w' → va_P D vwCl (k_wd ad ca sh w') H1 → va_S (k_A sh ad H0.size) H0 H1 locs1 → W p l e R s m args below meth c H1 locs1 0 0 Q (F0 m (pc + 3) ls ((r.toList ++ rest).map (k_v ad)))) : W p l e R s m args below meth c H locs 0 0 Q (F0 m pc ls st0) := by
  intro T hT X
  obtain ⟨v, st₀, t, T', L, h0, X', hL, e1, e2, ⟨⟨r, w', hv, hp, hb, hK⟩, hz, hk⟩, st⟩ := hr T hT X
  cases hv
  rw [h0] at hz hk
  have hA : ∀ q, k_A sh ad H.size q → k_A sh ad H0.size q := fun q h => h.elim Or.inl (fun h => Or.inr (Nat.le_trans hS.1 h))
  obtain ⟨t2, a1, b1⟩ := kk r w' T'.heap (locs ++ L) hp (by rw [e1]; exact hb)
    ⟨Nat.le_trans hS.1 (by rw [e1]; exact hz), fun q h1 h2 => by rw [e1, hk q (Nat.lt_of_lt_of_le h1 hS.1) (fun z => h2 (hA q z))]; exact hS.2.1 q h1 h2, fun q hq => by
      rcases List.mem_append.mp hq with h | h
      · exact hS.2.2 q h
      · exact hA _ (hL q h)⟩ T' rfl X'
  refine ⟨t2, st t2 ?_, b1⟩
  have e9 : (r.map (k_v ad)).toList ++ rest.map (k_v ad) = (r.toList ++ rest).map (k_v ad) := by cases r <;> rfl
  rw [e9]
  exact a1
theorem b_callV {z : MethodName} {zc : ByteArray} {zn zf zl ix a b ci : Nat} {zr : Option FieldType} {fs : List kF} {q : vw_C} {As : List Value} {Ψ : Option Value → kW → Prop} (hd : decode cc pc = .ok (.invokevirtual ix, 3)) (hF : k_lkV own ix z zc zn zr a) (hn : As.length = a) (hc : sh[b]? = some (.inl (ci, fs))) (hq : vwCl[ci]? = some q) (hz : q.1 = z.cls) (hR : zf + 1 ≤ fr ∧ 8 + (zn + 11) + zl ≤ lo) (hs : (st.map fun v => v.category).sum ≤ 8) (hM : Spec sh z zc zn zr zf zl (.ref b :: As) w Ψ) (kk : ∀ (r : Option Value) (w' : kW), Ψ r w' → BS sh own cc n rt fr lo Φ (pc + 3) L (r.toList ++ st) w') : BS sh own cc n rt fr lo Φ pc L (As.reverse ++ .ref b :: st) w := by
  intro p l e s m args below meth co D ca ad H locs ls cx hP hD hS hl
  obtain ⟨⟨h1, h2, h3, h4, h5, h6⟩, h7, h8⟩ := hF
  have hts := cx.2.2.2.2.1
  have hK := cx.2.2.2.2.2.2.2
  refine k_goes (va_runV (As := As.map (k_v ad)) (rest := st.map (k_v ad)) (b := ad b) ⟨cx.1, cx.2.1, cx.2.2.1, cx.2.2.2.1, hts⟩ (hM l D ca ad H.size) ⟨callB_of a hts (k_goodIn h3) rfl rfl rfl (hts _ h2) (hts _ h1) ⟨h4, h5, h6⟩ hR, hts _ h7, hts _ h8⟩ ⟨k_blind, ?_, fun U hU hW => ⟨rfl, by rw [hU], by rw [hU]; exact hP, k_K.warm hW hK, k_D_of hD (fun _ _ => trivial)⟩⟩ rfl (by rw [List.length_map]; exact hn) hl.1 (by simp [k_v]) (lv_room (by rw [k_cats]; exact hs)) hd ⟨Nat.le_refl _, Nat.le_refl _⟩) hS (fun r w' H1 locs1 hp hP1 hS1 => kk r w' hp p l e s m args below meth co D ca ad H1 locs1 ls cx hP1 (k_D_self hD) hS1 hl)
  have h9 := va_recv hK.1 hP hq (k_obj hc)
  rw [hz] at h9
  exact h9
theorem b_callS {z : MethodName} {zc : ByteArray} {zn zf zl ix a : Nat} {zr : Option FieldType} {As : List Value} {Ψ : Option Value → kW → Prop} (hd : decode cc pc = .ok (.invokestatic ix, 3)) (hF : k_lkS own ix z zc zn zr a) (hn : As.length = a) (hR : zf + 1 ≤ fr ∧ 8 + (zn + 11) + zl ≤ lo) (hs : (st.map fun v => v.category).sum ≤ 8) (hM : Spec sh z zc zn zr zf zl As w Ψ) (kk : ∀ (r : Option Value) (w' : kW), Ψ r w' → BS sh own cc n rt fr lo Φ (pc + 3) L (r.toList ++ st) w') : BS sh own cc n rt fr lo Φ pc L (As.reverse ++ st) w := by
  intro p l e s m args below meth co D ca ad H locs ls cx hP hD hS hl
  obtain ⟨⟨h1, h2, h3, h4, h5, h6⟩, h7⟩ := hF
  have hts := cx.2.2.2.2.1
  have hK := cx.2.2.2.2.2.2.2
  exact k_goes (va_runS (As := As.map (k_v ad)) (rest := st.map (k_v ad)) ⟨cx.1, cx.2.1, cx.2.2.1, cx.2.2.2.1, hts⟩ (hM l D ca ad H.size) ⟨callB_of a hts (k_goodIn h3) rfl rfl rfl (hts _ h2) (hts _ h1) ⟨h4, h5, h6⟩ hR, hts _ h7⟩ ⟨k_blind, fun U hU hW => ⟨rfl, by rw [hU], by rw [hU]; exact hP, k_K.warm hW hK, k_D_of hD (fun _ _ => trivial)⟩⟩ rfl (by rw [List.length_map]; exact hn) hl.1 (by simp) (lv_room (by rw [k_cats]; exact hs)) hd ⟨Nat.le_refl _, Nat.le_refl _⟩) hS (fun r w' H1 locs1 hp hP1 hS1 => kk r w' hp p l e s m args below meth co D ca ad H1 locs1 ls cx hP1 (k_D_self hD) hS1 hl)
def k_lkN (own : String) (ix : Nat) (z : MethodName) (zc : ByteArray) (zn : Nat) (zr : Option FieldType) (a : Nat) : Prop := ∃ host : String, (own, ix, z, host) ∈ nst ∧ Cond.initialized z.cls ∈ cw ∧ Cond.code z zc zn zr ∈ cw ∧ (z.cls ≠ "java/lang/invoke/MethodHandle" ∧ z.cls ≠ "java/lang/invoke/VarHandle" ∧ (parseMethodDescriptor z.desc).map (fun d => d.parameters.length) = some a) ∧ Cond.static z ∈ cw
theorem b_callSN {z : MethodName} {zc : ByteArray} {zn zf zl ix a : Nat} {zr : Option FieldType} {As : List Value} {Ψ : Option Value → kW → Prop} (hd : decode cc pc = .ok (.invokestatic ix, 3)) (hF : k_lkN own ix z zc zn zr a) (hn : As.length = a) (hR : zf + 1 ≤ fr ∧ 8 + (zn + 11) + zl ≤ lo) (hs : (st.map fun v => v.category).sum ≤ 8) (hM : Spec sh z zc zn zr zf zl As w Ψ) (kk : ∀ (r : Option Value) (w' : kW), Ψ r w' → BS sh own cc n rt fr lo Φ (pc + 3) L (r.toList ++ st) w') : BS sh own cc n rt fr lo Φ pc L (As.reverse ++ st) w := by
  intro p l e s m args below meth co D ca ad H locs ls cx hP hD hS hl
  obtain ⟨host, h1, h2, h3, h4, h7⟩ := hF
  have hts := cx.2.2.2.2.1
  have hK := cx.2.2.2.2.2.2.2
  exact k_goes (va_runSN (As := As.map (k_v ad)) (rest := st.map (k_v ad)) ⟨cx.1, cx.2.1, cx.2.2.1, cx.2.2.2.1, hts⟩ (hM l D ca ad H.size) ⟨va_cnB a hts (k_goodIn h3) rfl rfl rfl (hK.2 _ h1) (hts _ h2) h4 hR, hts _ h7, trivial⟩ ⟨k_blind, fun U hU hW => ⟨rfl, by rw [hU], by rw [hU]; exact hP, k_K.warm hW hK, k_D_of hD (fun _ _ => trivial)⟩⟩ rfl (by rw [List.length_map]; exact hn) hl.1 (by simp) (lv_room (by rw [k_cats]; exact hs)) hd ⟨Nat.le_refl _, Nat.le_refl _⟩) hS (fun r w' H1 locs1 hp hP1 hS1 => kk r w' hp p l e s m args below meth co D ca ad H1 locs1 ls cx hP1 (k_D_self hD) hS1 hl)
theorem b_callV0 {z : MethodName} {zc : ByteArray} {zn zf zl ix b ci : Nat} {zr : Option FieldType} {fs : List kF} {q : vw_C} {Ψ : Option Value → kW → Prop} (hd : decode cc pc = .ok (.invokevirtual ix, 3)) (hF : k_lkV own ix z zc zn zr 0) (hc : sh[b]? = some (.inl (ci, fs))) (hq : vwCl[ci]? = some q) (hz : q.1 = z.cls) (hR : zf + 1 ≤ fr ∧ 8 + (zn + 11) + zl ≤ lo) (hs : (st.map fun v => v.category).sum ≤ 8) (hM : Spec sh z zc zn zr zf zl (.ref b :: []) w Ψ) (kk : ∀ (r : Option Value) (w' : kW), Ψ r w' → BS sh own cc n rt fr lo Φ (pc + 3) L (r.toList ++ st) w') : BS sh own cc n rt fr lo Φ pc L (.ref b :: st) w := b_callV (As := []) hd hF rfl hc hq hz hR hs hM kk
theorem b_callS0 {z : MethodName} {zc : ByteArray} {zn zf zl ix : Nat} {zr : Option FieldType} {Ψ : Option Value → kW → Prop} (hd : decode cc pc = .ok (.invokestatic ix, 3)) (hF : k_lkS own ix z zc zn zr 0) (hR : zf + 1 ≤ fr ∧ 8 + (zn + 11) + zl ≤ lo) (hs : (st.map fun v => v.category).sum ≤ 8) (hM : Spec sh z zc zn zr zf zl [] w Ψ) (kk : ∀ (r : Option Value) (w' : kW), Ψ r w' → BS sh own cc n rt fr lo Φ (pc + 3) L (r.toList ++ st) w') : BS sh own cc n rt fr lo Φ pc L (st) w := b_callS (As := []) hd hF rfl hR hs hM kk
theorem b_callV1 {z : MethodName} {zc : ByteArray} {zn zf zl ix b ci : Nat} {zr : Option FieldType} {fs : List kF} {q : vw_C} {x0 : Value} {Ψ : Option Value → kW → Prop} (hd : decode cc pc = .ok (.invokevirtual ix, 3)) (hF : k_lkV own ix z zc zn zr 1) (hc : sh[b]? = some (.inl (ci, fs))) (hq : vwCl[ci]? = some q) (hz : q.1 = z.cls) (hR : zf + 1 ≤ fr ∧ 8 + (zn + 11) + zl ≤ lo) (hs : (st.map fun v => v.category).sum ≤ 8) (hM : Spec sh z zc zn zr zf zl (.ref b :: [x0]) w Ψ) (kk : ∀ (r : Option Value) (w' : kW), Ψ r w' → BS sh own cc n rt fr lo Φ (pc + 3) L (r.toList ++ st) w') : BS sh own cc n rt fr lo Φ pc L (x0 :: .ref b :: st) w := b_callV (As := [x0]) hd hF rfl hc hq hz hR hs hM kk
theorem b_callSN1 {z : MethodName} {zc : ByteArray} {zn zf zl ix : Nat} {zr : Option FieldType} {x0 : Value} {Ψ : Option Value → kW → Prop} (hd : decode cc pc = .ok (.invokestatic ix, 3)) (hF : k_lkN own ix z zc zn zr 1) (hR : zf + 1 ≤ fr ∧ 8 + (zn + 11) + zl ≤ lo) (hs : (st.map fun v => v.category).sum ≤ 8) (hM : Spec sh z zc zn zr zf zl [x0] w Ψ) (kk : ∀ (r : Option Value) (w' : kW), Ψ r w' → BS sh own cc n rt fr lo Φ (pc + 3) L (r.toList ++ st) w') : BS sh own cc n rt fr lo Φ pc L (x0 :: st) w := b_callSN (As := [x0]) hd hF rfl hR hs hM kk
theorem b_callS1 {z : MethodName} {zc : ByteArray} {zn zf zl ix : Nat} {zr : Option FieldType} {x0 : Value} {Ψ : Option Value → kW → Prop} (hd : decode cc pc = .ok (.invokestatic ix, 3)) (hF : k_lkS own ix z zc zn zr 1) (hR : zf + 1 ≤ fr ∧ 8 + (zn + 11) + zl ≤ lo) (hs : (st.map fun v => v.category).sum ≤ 8) (hM : Spec sh z zc zn zr zf zl [x0] w Ψ) (kk : ∀ (r : Option Value) (w' : kW), Ψ r w' → BS sh own cc n rt fr lo Φ (pc + 3) L (r.toList ++ st) w') : BS sh own cc n rt fr lo Φ pc L (x0 :: st) w := b_callS (As := [x0]) hd hF rfl hR hs hM kk
theorem b_callV2 {z : MethodName} {zc : ByteArray} {zn zf zl ix b ci : Nat} {zr : Option FieldType} {fs : List kF} {q : vw_C} {x0 x1 : Value} {Ψ : Option Value → kW → Prop} (hd : decode cc pc = .ok (.invokevirtual ix, 3)) (hF : k_lkV own ix z zc zn zr 2) (hc : sh[b]? = some (.inl (ci, fs))) (hq : vwCl[ci]? = some q) (hz : q.1 = z.cls) (hR : zf + 1 ≤ fr ∧ 8 + (zn + 11) + zl ≤ lo) (hs : (st.map fun v => v.category).sum ≤ 8) (hM : Spec sh z zc zn zr zf zl (.ref b :: [x0, x1]) w Ψ) (kk : ∀ (r : Option Value) (w' : kW), Ψ r w' → BS sh own cc n rt fr lo Φ (pc + 3) L (r.toList ++ st) w') : BS sh own cc n rt fr lo Φ pc L (x1 :: x0 :: .ref b :: st) w := b_callV (As := [x0, x1]) hd hF rfl hc hq hz hR hs hM kk
theorem b_callSN2 {z : MethodName} {zc : ByteArray} {zn zf zl ix : Nat} {zr : Option FieldType} {x0 x1 : Value} {Ψ : Option Value → kW → Prop} (hd : decode cc pc = .ok (.invokestatic ix, 3)) (hF : k_lkN own ix z zc zn zr 2) (hR : zf + 1 ≤ fr ∧ 8 + (zn + 11) + zl ≤ lo) (hs : (st.map fun v => v.category).sum ≤ 8) (hM : Spec sh z zc zn zr zf zl [x0, x1] w Ψ) (kk : ∀ (r : Option Value) (w' : kW), Ψ r w' → BS sh own cc n rt fr lo Φ (pc + 3) L (r.toList ++ st) w') : BS sh own cc n rt fr lo Φ pc L (x1 :: x0 :: st) w := b_callSN (As := [x0, x1]) hd hF rfl hR hs hM kk
theorem b_callS2 {z : MethodName} {zc : ByteArray} {zn zf zl ix : Nat} {zr : Option FieldType} {x0 x1 : Value} {Ψ : Option Value → kW → Prop} (hd : decode cc pc = .ok (.invokestatic ix, 3)) (hF : k_lkS own ix z zc zn zr 2) (hR : zf + 1 ≤ fr ∧ 8 + (zn + 11) + zl ≤ lo) (hs : (st.map fun v => v.category).sum ≤ 8) (hM : Spec sh z zc zn zr zf zl [x0, x1] w Ψ) (kk : ∀ (r : Option Value) (w' : kW), Ψ r w' → BS sh own cc n rt fr lo Φ (pc + 3) L (r.toList ++ st) w') : BS sh own cc n rt fr lo Φ pc L (x1 :: x0 :: st) w := b_callS (As := [x0, x1]) hd hF rfl hR hs hM kk
theorem b_callV3 {z : MethodName} {zc : ByteArray} {zn zf zl ix b ci : Nat} {zr : Option FieldType} {fs : List kF} {q : vw_C} {x0 x1 x2 : Value} {Ψ : Option Value → kW → Prop} (hd : decode cc pc = .ok (.invokevirtual ix, 3)) (hF : k_lkV own ix z zc zn zr 3) (hc : sh[b]? = some (.inl (ci, fs))) (hq : vwCl[ci]? = some q) (hz : q.1 = z.cls) (hR : zf + 1 ≤ fr ∧ 8 + (zn + 11) + zl ≤ lo) (hs : (st.map fun v => v.category).sum ≤ 8) (hM : Spec sh z zc zn zr zf zl (.ref b :: [x0, x1, x2]) w Ψ) (kk : ∀ (r : Option Value) (w' : kW), Ψ r w' → BS sh own cc n rt fr lo Φ (pc + 3) L (r.toList ++ st) w') : BS sh own cc n rt fr lo Φ pc L (x2 :: x1 :: x0 :: .ref b :: st) w := b_callV (As := [x0, x1, x2]) hd hF rfl hc hq hz hR hs hM kk
theorem b_callS3 {z : MethodName} {zc : ByteArray} {zn zf zl ix : Nat} {zr : Option FieldType} {x0 x1 x2 : Value} {Ψ : Option Value → kW → Prop} (hd : decode cc pc = .ok (.invokestatic ix, 3)) (hF : k_lkS own ix z zc zn zr 3) (hR : zf + 1 ≤ fr ∧ 8 + (zn + 11) + zl ≤ lo) (hs : (st.map fun v => v.category).sum ≤ 8) (hM : Spec sh z zc zn zr zf zl [x0, x1, x2] w Ψ) (kk : ∀ (r : Option Value) (w' : kW), Ψ r w' → BS sh own cc n rt fr lo Φ (pc + 3) L (r.toList ++ st) w') : BS sh own cc n rt fr lo Φ pc L (x2 :: x1 :: x0 :: st) w := b_callS (As := [x0, x1, x2]) hd hF rfl hR hs hM kk
theorem b_callV4 {z : MethodName} {zc : ByteArray} {zn zf zl ix b ci : Nat} {zr : Option FieldType} {fs : List kF} {q : vw_C} {x0 x1 x2 x3 : Value} {Ψ : Option Value → kW → Prop} (hd : decode cc pc = .ok (.invokevirtual ix, 3)) (hF : k_lkV own ix z zc zn zr 4) (hc : sh[b]? = some (.inl (ci, fs))) (hq : vwCl[ci]? = some q) (hz : q.1 = z.cls) (hR : zf + 1 ≤ fr ∧ 8 + (zn + 11) + zl ≤ lo) (hs : (st.map fun v => v.category).sum ≤ 8) (hM : Spec sh z zc zn zr zf zl (.ref b :: [x0, x1, x2, x3]) w Ψ) (kk : ∀ (r : Option Value) (w' : kW), Ψ r w' → BS sh own cc n rt fr lo Φ (pc + 3) L (r.toList ++ st) w') : BS sh own cc n rt fr lo Φ pc L (x3 :: x2 :: x1 :: x0 :: .ref b :: st) w := b_callV (As := [x0, x1, x2, x3]) hd hF rfl hc hq hz hR hs hM kk
theorem b_callS4 {z : MethodName} {zc : ByteArray} {zn zf zl ix : Nat} {zr : Option FieldType} {x0 x1 x2 x3 : Value} {Ψ : Option Value → kW → Prop} (hd : decode cc pc = .ok (.invokestatic ix, 3)) (hF : k_lkS own ix z zc zn zr 4) (hR : zf + 1 ≤ fr ∧ 8 + (zn + 11) + zl ≤ lo) (hs : (st.map fun v => v.category).sum ≤ 8) (hM : Spec sh z zc zn zr zf zl [x0, x1, x2, x3] w Ψ) (kk : ∀ (r : Option Value) (w' : kW), Ψ r w' → BS sh own cc n rt fr lo Φ (pc + 3) L (r.toList ++ st) w') : BS sh own cc n rt fr lo Φ pc L (x3 :: x2 :: x1 :: x0 :: st) w := b_callS (As := [x0, x1, x2, x3]) hd hF rfl hR hs hM kk
theorem b_callV5 {z : MethodName} {zc : ByteArray} {zn zf zl ix b ci : Nat} {zr : Option FieldType} {fs : List kF} {q : vw_C} {x0 x1 x2 x3 x4 : Value} {Ψ : Option Value → kW → Prop} (hd : decode cc pc = .ok (.invokevirtual ix, 3)) (hF : k_lkV own ix z zc zn zr 5) (hc : sh[b]? = some (.inl (ci, fs))) (hq : vwCl[ci]? = some q) (hz : q.1 = z.cls) (hR : zf + 1 ≤ fr ∧ 8 + (zn + 11) + zl ≤ lo) (hs : (st.map fun v => v.category).sum ≤ 8) (hM : Spec sh z zc zn zr zf zl (.ref b :: [x0, x1, x2, x3, x4]) w Ψ) (kk : ∀ (r : Option Value) (w' : kW), Ψ r w' → BS sh own cc n rt fr lo Φ (pc + 3) L (r.toList ++ st) w') : BS sh own cc n rt fr lo Φ pc L (x4 :: x3 :: x2 :: x1 :: x0 :: .ref b :: st) w := b_callV (As := [x0, x1, x2, x3, x4]) hd hF rfl hc hq hz hR hs hM kk
theorem b_callS5 {z : MethodName} {zc : ByteArray} {zn zf zl ix : Nat} {zr : Option FieldType} {x0 x1 x2 x3 x4 : Value} {Ψ : Option Value → kW → Prop} (hd : decode cc pc = .ok (.invokestatic ix, 3)) (hF : k_lkS own ix z zc zn zr 5) (hR : zf + 1 ≤ fr ∧ 8 + (zn + 11) + zl ≤ lo) (hs : (st.map fun v => v.category).sum ≤ 8) (hM : Spec sh z zc zn zr zf zl [x0, x1, x2, x3, x4] w Ψ) (kk : ∀ (r : Option Value) (w' : kW), Ψ r w' → BS sh own cc n rt fr lo Φ (pc + 3) L (r.toList ++ st) w') : BS sh own cc n rt fr lo Φ pc L (x4 :: x3 :: x2 :: x1 :: x0 :: st) w := b_callS (As := [x0, x1, x2, x3, x4]) hd hF rfl hR hs hM kk
theorem b_callV6 {z : MethodName} {zc : ByteArray} {zn zf zl ix b ci : Nat} {zr : Option FieldType} {fs : List kF} {q : vw_C} {x0 x1 x2 x3 x4 x5 : Value} {Ψ : Option Value → kW → Prop} (hd : decode cc pc = .ok (.invokevirtual ix, 3)) (hF : k_lkV own ix z zc zn zr 6) (hc : sh[b]? = some (.inl (ci, fs))) (hq : vwCl[ci]? = some q) (hz : q.1 = z.cls) (hR : zf + 1 ≤ fr ∧ 8 + (zn + 11) + zl ≤ lo) (hs : (st.map fun v => v.category).sum ≤ 8) (hM : Spec sh z zc zn zr zf zl (.ref b :: [x0, x1, x2, x3, x4, x5]) w Ψ) (kk : ∀ (r : Option Value) (w' : kW), Ψ r w' → BS sh own cc n rt fr lo Φ (pc + 3) L (r.toList ++ st) w') : BS sh own cc n rt fr lo Φ pc L (x5 :: x4 :: x3 :: x2 :: x1 :: x0 :: .ref b :: st) w := b_callV (As := [x0, x1, x2, x3, x4, x5]) hd hF rfl hc hq hz hR hs hM kk
theorem b_callS6 {z : MethodName} {zc : ByteArray} {zn zf zl ix : Nat} {zr : Option FieldType} {x0 x1 x2 x3 x4 x5 : Value} {Ψ : Option Value → kW → Prop} (hd : decode cc pc = .ok (.invokestatic ix, 3)) (hF : k_lkS own ix z zc zn zr 6) (hR : zf + 1 ≤ fr ∧ 8 + (zn + 11) + zl ≤ lo) (hs : (st.map fun v => v.category).sum ≤ 8) (hM : Spec sh z zc zn zr zf zl [x0, x1, x2, x3, x4, x5] w Ψ) (kk : ∀ (r : Option Value) (w' : kW), Ψ r w' → BS sh own cc n rt fr lo Φ (pc + 3) L (r.toList ++ st) w') : BS sh own cc n rt fr lo Φ pc L (x5 :: x4 :: x3 :: x2 :: x1 :: x0 :: st) w := b_callS (As := [x0, x1, x2, x3, x4, x5]) hd hF rfl hR hs hM kk
theorem b_callS7 {z : MethodName} {zc : ByteArray} {zn zf zl ix : Nat} {zr : Option FieldType} {x0 x1 x2 x3 x4 x5 x6 : Value} {Ψ : Option Value → kW → Prop} (hd : decode cc pc = .ok (.invokestatic ix, 3)) (hF : k_lkS own ix z zc zn zr 7) (hR : zf + 1 ≤ fr ∧ 8 + (zn + 11) + zl ≤ lo) (hs : (st.map fun v => v.category).sum ≤ 8) (hM : Spec sh z zc zn zr zf zl [x0, x1, x2, x3, x4, x5, x6] w Ψ) (kk : ∀ (r : Option Value) (w' : kW), Ψ r w' → BS sh own cc n rt fr lo Φ (pc + 3) L (r.toList ++ st) w') : BS sh own cc n rt fr lo Φ pc L (x6 :: x5 :: x4 :: x3 :: x2 :: x1 :: x0 :: st) w := b_callS (As := [x0, x1, x2, x3, x4, x5, x6]) hd hF rfl hR hs hM kk
def k_lkM_max (own : String) (ix : Nat) : Prop := Cond.methodLink own ix Lib.Math.max.name ∈ cw ∧ Cond.static Lib.Math.max.name ∈ cw ∧ Cond.initialized "java/lang/Math" ∈ cw ∧ Cond.code Lib.Math.max.name Lib.Math.max.code 2 (some .int) ∈ cw
theorem b_max {ix : Nat} {x y : Int32} (hd : decode cc pc = .ok (.invokestatic ix, 3)) (hF : k_lkM_max own ix) (hR : 1 ≤ fr) (hs : (st.map fun v => v.category).sum + 13 ≤ lo) (kk : BS sh own cc n rt fr lo Φ (pc + 3) L (.int (if x < y then y else x) :: st) w) : BS sh own cc n rt fr lo Φ pc L (.int y :: .int x :: st) w := by
  intro p l e s m args below meth co D ca ad H locs ls cx hP hD hS hl
  obtain ⟨h1, h2, h3, h4⟩ := hF
  have hts := cx.2.2.2.2.1
  exact va_mmax cx.1 cx.2.1 (by rw [cx.2.2.1]; exact hl.1.symm) cx.2.2.2.1 (hts _ h1) (hts _ h2) (hts _ h3) (hts _ h4) hR (by rw [k_cats]; exact hs) (Nat.le_refl _) (Nat.le_refl _) hd (kk p l e s m args below meth co D ca ad H locs ls cx hP hD hS hl)
def k_lkM_min (own : String) (ix : Nat) : Prop := Cond.methodLink own ix Lib.Math.min.name ∈ cw ∧ Cond.static Lib.Math.min.name ∈ cw ∧ Cond.initialized "java/lang/Math" ∈ cw ∧ Cond.code Lib.Math.min.name Lib.Math.min.code 2 (some .int) ∈ cw
theorem b_min {ix : Nat} {x y : Int32} (hd : decode cc pc = .ok (.invokestatic ix, 3)) (hF : k_lkM_min own ix) (hR : 1 ≤ fr) (hs : (st.map fun v => v.category).sum + 13 ≤ lo) (kk : BS sh own cc n rt fr lo Φ (pc + 3) L (.int (if y < x then y else x) :: st) w) : BS sh own cc n rt fr lo Φ pc L (.int y :: .int x :: st) w := by
  intro p l e s m args below meth co D ca ad H locs ls cx hP hD hS hl
  obtain ⟨h1, h2, h3, h4⟩ := hF
  have hts := cx.2.2.2.2.1
  exact va_mmin cx.1 cx.2.1 (by rw [cx.2.2.1]; exact hl.1.symm) cx.2.2.2.1 (hts _ h1) (hts _ h2) (hts _ h3) (hts _ h4) hR (by rw [k_cats]; exact hs) (Nat.le_refl _) (Nat.le_refl _) hd (kk p l e s m args below meth co D ca ad H locs ls cx hP hD hS hl)
def k_lkM_abs (own : String) (ix : Nat) : Prop := Cond.methodLink own ix Lib.Math.abs.name ∈ cw ∧ Cond.static Lib.Math.abs.name ∈ cw ∧ Cond.initialized "java/lang/Math" ∈ cw ∧ Cond.code Lib.Math.abs.name Lib.Math.abs.code 1 (some .int) ∈ cw
theorem b_abs {ix : Nat} {x : Int32} (hd : decode cc pc = .ok (.invokestatic ix, 3)) (hF : k_lkM_abs own ix) (hR : 1 ≤ fr) (hs : (st.map fun v => v.category).sum + 13 ≤ lo) (kk : BS sh own cc n rt fr lo Φ (pc + 3) L (.int (if 0 ≤ x then x else 0 - x) :: st) w) : BS sh own cc n rt fr lo Φ pc L (.int x :: st) w := by
  intro p l e s m args below meth co D ca ad H locs ls cx hP hD hS hl
  obtain ⟨h1, h2, h3, h4⟩ := hF
  have hts := cx.2.2.2.2.1
  exact va_mabs cx.1 cx.2.1 (by rw [cx.2.2.1]; exact hl.1.symm) cx.2.2.2.1 (hts _ h1) (hts _ h2) (hts _ h3) (hts _ h4) hR (by rw [k_cats]; exact hs) (Nat.le_refl _) (Nat.le_refl _) hd (kk p l e s m args below meth co D ca ad H locs ls cx hP hD hS hl)
def k_lkCp (own : String) (ix : Nat) : Prop := Cond.methodLink own ix arraycopyName ∈ cw ∧ Cond.native arraycopyName ∈ cw ∧ Cond.static arraycopyName ∈ cw ∧ Cond.initialized "java/lang/System" ∈ cw
def k_cpy (f : Nat → Nat → Int32) (c0 c1 sp dp n : Nat) : Nat → Nat → Int32 := fun c k => if c = c1 then (if dp ≤ k ∧ k < dp + n then f c0 (sp + (k - dp)) else f c k) else f c k
theorem k_set_c {ad : Nat → Nat} {ca : Nat → ClassId} {c0 c t N sp dp z : Nat} (hc : sh[c]? = some (.inr (.inl (t, N)))) : (k_wd ad ca sh w).set c (ad c, .inl (ca t, N, .inl (va_cpy (w.1 c0) (w.1 c) sp dp z))) = k_wd ad ca sh (k_cpy w.1 c0 c sp dp z, w.2) := by
  refine k_wd_set (w := w) (w' := (k_cpy w.1 c0 c sp dp z, w.2)) hc (fun c' h => by funext j; simp [k_cpy, h]) (fun _ _ => rfl) ?_
  show Sum.inl (ca t, N, Sum.inl _) = Sum.inl (ca t, N, Sum.inl _)
  refine congrArg (fun f => Sum.inl (ca t, N, Sum.inl f)) ?_
  funext j
  simp [va_cpy, k_cpy]
theorem b_copyi {ix c0 c1 N0 N1 : Nat} {sp dp z : Int32} (hd : decode cc pc = .ok (.invokestatic ix, 3)) (hF : k_lkCp own ix) (hc0 : sh[c0]? = some (.inr (.inl (0, N0)))) (hc1 : sh[c1]? = some (.inr (.inl (0, N1)))) (h1 : ¬ sp < 0) (h2 : ¬ dp < 0) (h3 : ¬ z < 0) (h4 : sp.toNatClampNeg + z.toNatClampNeg ≤ N0) (h5 : dp.toNatClampNeg + z.toNatClampNeg ≤ N1) (hR : 1 ≤ fr) (hs : (st.map fun v => v.category).sum + (nativeFrameWords "java/lang/System" "arraycopy" 5 + 11) ≤ lo) (kk : BS sh own cc n rt fr lo Φ (pc + 3) L st (k_cpy w.1 c0 c1 sp.toNatClampNeg dp.toNatClampNeg z.toNatClampNeg, w.2)) : BS sh own cc n rt fr lo Φ pc L (.int z :: .int dp :: .ref c1 :: .int sp :: .ref c0 :: st) w := by
  intro p l e s m args below meth co D ca ad H locs ls cx hP hD hS hl
  obtain ⟨g1, g2, g3, g4⟩ := hF
  have hts := cx.2.2.2.2.1
  refine va_copyi cx.1 cx.2.1 (by rw [cx.2.2.1]; exact hl.1.symm) cx.2.2.2.1 (hts _ g1) (hts _ g2) (hts _ g3) (hts _ g4) cx.2.2.2.2.2.2.2.1 hP hD hS c0 c1 0 0 (k_arr hc0) (k_arr hc1) rfl rfl rfl h1 h2 h3 h4 h5 (fun _ _ => rfl) hR (by rw [k_cats]; exact hs) hd (fun H1 locs1 hP1 hD1 hS1 => ?_)
  have e9 := k_set_c (w := w) (ad := ad) (ca := ca) (c0 := c0) (sp := sp.toNatClampNeg) (dp := dp.toNatClampNeg) (z := z.toNatClampNeg) hc1
  exact kk p l e s m args below meth co D ca ad H1 locs1 ls cx (e9 ▸ hP1) (k_D_self hD) hS1 hl
end KB
