/-! THE CLAIM OUT OF ONE WALK OF THE LAW'S BODY. Your part is whole_start (and what it stands on); all else here is the same for every law, but numbers. -/
def R_law : String := "DuelSecondsLaw"
def lw_P (b : Addr) (xs : List Int32) (args : Array Value) (s : State) : Prop := args = #[.ref b] ∧ s.IntsAt b xs ∧ xs.length ≤ 260 ∧ (Jvm.Cond.and given_1 narrow_1).before args s = true
def lw_Q (_ : Array Value) (s : State) (o : Outcome) (t : State) : Prop := o = .returned (some (.int 1)) ∧ Framed s o t [] 600000 7302250
def lw_Z (below : List Frame) (a : Array Value) (s : State) : State → Prop := fun t => ∃ o, t.status = .running ∧ Ended t below o ∧ lw_Q a s o t
/-- the law's own end, with 1 on the stack, nothing written that was there before, its room as the claim has it -/
theorem lw_ret {p : Program} {l : Launch} {e : Env} {s : State} {m : MethodId} {below : List Frame} {meth : Method} {c : Code} {b : Nat} (hx : p.tables.exec = Jvm.exec) (hb : c.code = code) (hr : meth.sig.returnType = ret) (hlocks : meth.locks = false) {pc : Nat} {H : Heap} {ls : Array Slot} (hdg : decode code pc = .ok (.ireturn, 1)) : W p l e room_1 s m #[Value.ref b] below meth c H [] 600000 7302250 (lw_Z below #[Value.ref b] s) (F0 m pc ls [.int 1]) := by
  intro T hT X
  obtain ⟨fs, hret, hrun, hended, hW, hframe⟩ := X.leave (v := some (.int 1)) (hlocks := hlocks) (fun h => by rw [hr] at h; cases h)
  have hmeth' : T.vm.method? m = some meth := X.method'
  refine ⟨T.setFrames fs, ?_, .returned (some (.int 1)), hrun, hended, rfl, ⟨_, rfl⟩, hW, hframe⟩
  jvm_step X.here [X.here.top, hx, hb, hdg, hmeth', hr, ret, narrow_b1]
  (try refine ⟨rfl, ?_⟩); (try refine ⟨rfl, ?_⟩)
  first | (intro acts; rw [hret _ acts rfl rfl rfl]) | rw [hret _ _ rfl rfl rfl]
  exact Steps.refl _
/-- what holds at the law's entry: the machine, the code, the tables' words (any of lw_tbl by 'hts w (by decide +kernel)'), the script of L ints xs at the cell b, what the Statement gives of the start (any of its parts by flat_of_before) -/
def lw_At (p : Program) (s : State) (m : MethodId) (meth : Method) (c : Code) (b L : Nat) (xs : Nat → Int32) : Prop :=
  p.tables.exec = Jvm.exec ∧ c.code = code ∧ meth.sig.returnType = ret ∧ c.maxLocals = 15 ∧ s.vm.findClass R_law = some m.cls ∧ (∀ w ∈ lw_tbl, w.before #[Value.ref b] s = true) ∧ va_X b L xs s s.heap ∧ b < s.heap.size ∧ meth.locks = false ∧ (Jvm.Cond.and given_1 narrow_1).before #[Value.ref b] s = true
/-! ===== the law's own frame: a new row, the end ===== -/
def k_ok (N : Nat) (e : kE) : Prop := match e with
  | .inl q => ∀ f ∈ q.2, ∀ r, f = some (some r) → r < N
  | .inr (.inl _) => True
  | .inr (.inr q) => ∀ i r, q.2.2 i = some r → r < N
theorem k_ent_ok {N : Nat} {ad ad' : Nat → Nat} {ca : Nat → ClassId} {w : kW} {c : Nat} {e : kE} (h : k_ok N e) (ha : ∀ r, r < N → ad' r = ad r) : k_ent ad' ca w c e = k_ent ad ca w c e := by
  match e, h with
  | .inl q, h =>
    refine congrArg (fun z => Sum.inr (q.1, z)) ?_
    apply List.ext_getElem?
    intro i
    rw [List.getElem?_mapIdx, List.getElem?_mapIdx]
    cases hi : q.2[i]? with
    | none => rfl
    | some f =>
      simp only [Option.map_some]
      match f, hi with
      | none, _ => rfl
      | some none, _ => rfl
      | some (some r), hi => simp only [k_val, ha r (h _ (List.mem_of_getElem? hi) r rfl)]
  | .inr (.inl q), _ => rfl
  | .inr (.inr q), h =>
    refine congrArg (fun z => Sum.inl (ca q.1, q.2.1, Sum.inr (Sum.inr (Sum.inr (Sum.inr z))))) ?_
    funext i
    cases hi : q.2.2 i with
    | none => rfl
    | some r => simp only [Option.map_some, ha r (h i r hi)]
theorem shC_ok : ∀ e ∈ shC, k_ok 39 e := by
  have h6 : k_ok 39 (.inr (.inr (3, 6, fun i => if i < 6 then some (18 + i) else none))) := fun i r h => by
    have h : (if i < 6 then some (18 + i) else none) = some r := h
    split at h
    · cases h; omega
    · cases h
  have h4 : k_ok 39 (.inr (.inr (2, 4, fun i => if i < 4 then some (31 + i) else none))) := fun i r h => by
    have h : (if i < 4 then some (31 + i) else none) = some r := h
    split at h
    · cases h; omega
    · cases h
  have ho : ∀ (ci : Nat) (fs : List kF), (fs.all fun f => match f with | some (some r) => decide (r < 39) | _ => true) = true → k_ok 39 (.inl (ci, fs)) := fun ci fs h f hf r e => by
    have := List.all_eq_true.mp h f hf
    subst e
    exact of_decide_eq_true this
  unfold shC
  simp only [List.forall_mem_cons, List.not_mem_nil, false_implies, implies_true, and_true]
  refine ⟨?_, ?_, ?_, ?_, ?_, ?_, ?_, ?_, ?_, ?_, ?_, ?_, ?_, ?_, ?_, ?_, ?_, ?_, ?_, ?_, ?_, ?_, ?_, ?_, ?_, ?_, ?_, ?_, ?_, ?_, ?_, ?_, ?_, ?_, ?_, ?_, ?_, ?_, ?_⟩ <;> first | exact trivial | exact h6 | exact h4 | exact ho _ _ rfl
theorem k_wd_ad {N : Nat} {ad ad' : Nat → Nat} {ca : Nat → ClassId} {sh : List kE} {w : kW} (h : ∀ e ∈ sh, k_ok N e) (hN : N ≤ sh.length) (ha : ∀ r, r < sh.length → ad' r = ad r) : k_wd ad' ca sh w = k_wd ad ca sh w := by
  apply List.ext_getElem?
  intro i
  simp only [k_wd, List.getElem?_mapIdx]
  cases hs : sh[i]? with
  | none => rfl
  | some e =>
    simp only [Option.map_some]
    rw [ha i (List.getElem?_eq_some_iff.mp hs).1, k_ent_ok (h e (List.mem_of_getElem? hs)) (fun r hr => ha r (by omega))]
def k_noref (N : Nat) (v : Value) : Bool := match v with
  | .ref r => r != N
  | _ => true
theorem k_v_nr {N q : Nat} {ad : Nat → Nat} {v : Value} (h : k_noref N v = true) : k_v (fun c => if c = N then q else ad c) v = k_v ad v := by
  cases v with
  | ref r =>
    have : r ≠ N := by simpa [k_noref] using h
    simp [k_v, this]
  | _ => rfl
def lawQ : lQ := fun below args s _ _ _ t => (∃ b, args = #[Value.ref b]) → lw_Z below args s t
/-- a world with one more row of zeros -/
def k_zr (N : Nat) (w : kW) : kW := (fun c => if c = N then fun _ => 0 else w.1 c, w.2)
section LN
variable {R : Room} {K J : Nat} {sh : List kE} {own : String} {cc : ByteArray} {n : Nat} {rt : Option FieldType} {pc : Nat} {L : List (Nat × Value)} {st : List Value} {w : kW}
theorem l_newa {N M : Nat} {x : Int32} (hM : sh.length = M) (h39 : 39 ≤ M) (hM2 : M < 1000) (hok : ∀ e ∈ sh, k_ok 39 e) (hnr : (L.all fun q => k_noref M q.2) = true) (hns : (st.all fun v => k_noref M v) = true) (hd : decode cc pc = .ok (.newarray .int, 2)) (hx : ¬ x < 0 ∧ x.toNatClampNeg = N) (hN : N ≤ 1000) (hk : K + 1 ≤ R.cells) (hj : J + N ≤ R.slots) (kk : LJ R (K + 1) (J + N) true lawQ (sh ++ [.inr (.inl (0, N))]) own cc n rt (pc + 2) L (.ref M :: st) (k_zr M w)) : LJ R K J true lawQ sh own cc n rt pc L (.int x :: st) w := by
  intro p l e s m args below meth co D ca ad H locs ls cx hX hP hD hS hl
  have hK := cx.2.2.2.2.2.2.2.1
  have hA : ∀ q, s.heap.size ≤ q → k_A sh ad s.heap.size q := fun q h => Or.inr h
  refine va_newa (atype := .int) (ty := .int) (a0 := (N, .inl (fun _ => 0))) cx.1 cx.2.1 (cx.2.2.2.2.1 _ aw_int) rfl hK hP hD hS hA (fun _ => rfl) hx.1 hx.2 (by show N * 4 ≤ _; omega) hk hj hd (fun q cA H1 hK1 hP1 hD1 hS1 => ?_)
  have e1 : s.vm.findClass ("[" ++ FieldType.int.toString) = some cA := (hK1.2 4 (cA, .int) rfl).2
  have e2 : s.vm.findClass ("[" ++ FieldType.int.toString) = some (ca 0) := (hK.2 0 (ca 0, .int) rfl).2
  obtain rfl : ca 0 = cA := Option.some.inj (e2.symm.trans e1)
  have hwlen : (k_wd ad ca sh w).length = sh.length := by simp [k_wd]
  have hq : (k_wd ad ca sh w ++ [(q, (.inl (ca 0, N, .inl (fun _ => 0)) : va_E))])[sh.length]? = some (q, .inl (ca 0, N, .inl (fun _ => 0))) := by
    rw [← hwlen]; simp
  have hqA := hD1.2 _ _ hq
  -- the new row is new
  have hnew : s.heap.size ≤ q := by
    rcases hqA with ⟨c, hc, e⟩ | h
    · have hc2 : (k_wd ad ca sh w ++ [(q, (.inl (ca 0, N, .inl (fun _ => 0)) : va_E))])[c]? = some (ad c, k_ent ad ca w c sh[c]) := by
        rw [List.getElem?_append_left (by rw [hwlen]; exact hc)]
        exact k_wd_get (List.getElem?_eq_getElem hc)
      have := hD1.1 _ _ _ _ hq hc2 e
      omega
    · exact h
  have had : ∀ c, c < sh.length → (fun c => if c = M then q else ad c) c = ad c := fun c hc => if_neg (by omega)
  have hwd : k_wd (fun c => if c = M then q else ad c) ca (sh ++ [.inr (.inl (0, N))]) (k_zr M w) = k_wd ad ca sh w ++ [(q, (.inl (ca 0, N, .inl (fun _ => 0)) : va_E))] := by
    apply List.ext_getElem?
    intro i
    by_cases hi : i < sh.length
    · rw [List.getElem?_append_left (by rw [hwlen]; exact hi)]
      have h1 : sh[i]? = some sh[i] := List.getElem?_eq_getElem hi
      have h2 : (sh ++ [(.inr (.inl (0, N)) : kE)])[i]? = some sh[i] := by rw [List.getElem?_append_left hi]; exact h1
      rw [k_wd_get h1, k_wd_get h2, if_neg (show ¬ i = M by omega), k_ent_ok (hok _ (List.mem_of_getElem? h1)) (fun r hr => had r (by omega)), k_ent_row (w := w) (w' := k_zr M w) _ (by show (if i = M then _ else _) = _; rw [if_neg (by omega)]) rfl]
    · by_cases hi2 : i = sh.length
      · subst hi2
        have h2 : (sh ++ [(.inr (.inl (0, N)) : kE)])[sh.length]? = some (.inr (.inl (0, N))) := by simp
        rw [k_wd_get h2, hq]
        show some ((if sh.length = M then q else ad sh.length), (Sum.inl (ca 0, N, Sum.inl (if sh.length = M then fun _ => 0 else w.1 sh.length)) : va_E)) = _
        rw [if_pos hM, if_pos hM]
      · have g1 : (k_wd (fun c => if c = M then q else ad c) ca (sh ++ [.inr (.inl (0, N))]) (k_zr M w))[i]? = none := by
          apply List.getElem?_eq_none; simp [k_wd]; omega
        have g2 : (k_wd ad ca sh w ++ [(q, (.inl (ca 0, N, .inl (fun _ => 0)) : va_E))])[i]? = none := by
          apply List.getElem?_eq_none; rw [List.length_append, hwlen]; simp; omega
        rw [g1, g2]
  have hAA : ∀ x, k_A (sh ++ [.inr (.inl (0, N))]) (fun c => if c = M then q else ad c) s.heap.size x ↔ k_A sh ad s.heap.size x := fun x => by
    constructor
    · rintro (⟨c, hc, e⟩ | h)
      · rw [List.length_append] at hc
        by_cases hcl : c < sh.length
        · exact Or.inl ⟨c, hcl, by rw [e]; exact had c hcl⟩
        · have : c = M := by simp at hc; omega
          subst this
          exact Or.inr (by
            rw [e]
            show s.heap.size ≤ (if c = c then q else ad c)
            rw [if_pos rfl]; exact hnew)
      · exact Or.inr h
    · rintro (⟨c, hc, e⟩ | h)
      · exact Or.inl ⟨c, by rw [List.length_append]; omega, by rw [e]; exact (had c hc).symm⟩
      · exact Or.inr h
  have hX2 : kSc true (sh ++ [.inr (.inl (0, N))]) (fun c => if c = M then q else ad c) s := by
    obtain ⟨x1, x2, x3, x4⟩ := hX
    have e9 : (fun c => if c = M then q else ad c) 1000 = ad 1000 := if_neg (by omega)
    have hf : ∀ c, c < (sh ++ [(.inr (.inl (0, N)) : kE)]).length → s.heap.size ≤ (fun c => if c = M then q else ad c) c := fun c hc => by
      rw [List.length_append] at hc
      by_cases hcl : c < sh.length
      · rw [had c hcl]; exact x4 rfl c hcl
      · have : c = M := by simp at hc; omega
        subst this
        show s.heap.size ≤ (if c = c then q else ad c)
        rw [if_pos rfl]; exact hnew
    exact ⟨by rw [e9]; exact x1, by rw [e9]; exact x2, fun c hc z => by rw [e9] at z; have := hf c hc; rw [z] at this; omega, fun _ => hf⟩
  have hl2 : lv_has ls n (k_L (fun c => if c = M then q else ad c) L) := by
    have : k_L (fun c => if c = M then q else ad c) L = k_L ad L := by
      unfold k_L
      apply List.map_congr_left
      intro z hz
      rw [k_v_nr (List.all_eq_true.mp hnr z hz)]
    rw [this]; exact hl
  have hst : st.map (k_v (fun c => if c = M then q else ad c)) = st.map (k_v ad) := List.map_congr_left (fun v hv => k_v_nr (List.all_eq_true.mp hns v hv))
  have key := kk p l e s m args below meth co D ca (fun c => if c = M then q else ad c) H1 locs ls cx hX2 (by rw [hwd]; exact hP1) (by rw [hwd]; exact hD1.weaken (fun _ _ _ h => (hAA _).mpr h)) ⟨hS1.1, fun x h1 h2 => hS1.2.1 x h1 (fun z => h2 ((hAA x).mpr z)), fun z hz => (hAA _).mpr (hS1.2.2 z hz)⟩ hl2
  rw [List.map_cons, hst] at key
  have e10 : k_v (fun c => if c = M then q else ad c) (.ref M) = .ref q := by simp [k_v]
  rw [e10] at key
  exact key
theorem l_end {L : List (Nat × Value)} (hr : rt = ret) (hk : K ≤ 600000 ∧ J ≤ 7302250) (hd : decode code pc = .ok (.ireturn, 1)) : LJ room_1 K J true lawQ sh own code n rt pc L [.int 1] w := by
  intro p l e s m args below meth co D ca ad H locs ls cx hX hP hD hS hl
  by_cases hb : ∃ b, args = #[Value.ref b]
  · obtain ⟨b, rfl⟩ := hb
    refine va_forget (fun q hq => ?_) ?_
    · rcases hS.2.2 q hq with ⟨c, hc, e⟩ | h
      · rw [e]; exact hX.2.2.2 rfl c hc
      · exact h
    · refine W.widen (k := 600000) (n := 7302250) hk.1 hk.2 ?_
      intro T hT X
      obtain ⟨t, a1, b1⟩ := lw_ret (b := b) (pc := pc) (H := H) (ls := ls) cx.1 cx.2.1 (cx.2.2.2.2.2.1.trans hr) cx.2.2.2.2.2.2.1 hd T hT X
      exact ⟨t, a1, fun _ => b1⟩
  · intro T hT X
    exact ⟨_, Steps.refl _, fun z => absurd z hb⟩
end LN
