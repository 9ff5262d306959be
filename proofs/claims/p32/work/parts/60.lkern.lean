/-! ===== a contract on some cells, beside more cells ===== -/
theorem k_wd_pre {ad : Nat → Nat} {ca : Nat → ClassId} {sh sx : List kE} {w : kW} {k : Nat} {q : Nat × va_E} (h : (k_wd ad ca sh w)[k]? = some q) : (k_wd ad ca (sh ++ sx) w)[k]? = some q := by
  obtain ⟨hl, he⟩ := k_wd_addr h
  have h1 := List.getElem?_eq_getElem hl
  rw [k_wd_get h1] at h
  rw [← h, k_wd_get (e := sh[k])]
  rw [List.getElem?_append_left hl]
  exact h1
theorem k_A_pre {sh sx : List kE} {ad : Nat → Nat} {sz q : Nat} (h : k_A sh ad sz q) : k_A (sh ++ sx) ad sz q := h.elim (fun ⟨c, hc, e⟩ => Or.inl ⟨c, by rw [List.length_append]; omega, e⟩) Or.inr
/-- what a call on the first cells leaves of a larger world -/
def k_mix (sh : List kE) (w1 w : kW) : kW := (fun c => if c < sh.length then w1.1 c else w.1 c, fun c => if c < sh.length then w1.2 c else w.2 c)
theorem Spec.up {sh sx : List kE} {y : MethodName} {cc : ByteArray} {n : Nat} {rt : Option FieldType} {fr lo : Nat} {As : List Value} {w : kW} {Φ : Option Value → kW → Prop} (h : Spec sh y cc n rt fr lo As w Φ) : Spec (sh ++ sx) y cc n rt fr lo As w (fun r w' => ∃ w1, Φ r w1 ∧ w' = k_mix sh w1 w) := by
  intro l D ca ad sz
  refine MetFree.mono (h l D ca ad sz) (fun a s hp => ?_) (fun _ _ _ _ _ h => h) (fun a s o t hp hq => ?_)
  · obtain ⟨q0, q1, qP, qK, qD⟩ := hp
    exact ⟨q0, q1, fun k q hk => qP k q (k_wd_pre hk), qK, fun i j p q hi hj => qD.1 i j p q (k_wd_pre hi) (k_wd_pre hj), fun k q hk => qD.2 k q (k_wd_pre hk)⟩
  · obtain ⟨q0, q1, qP, qK, qD⟩ := hp
    obtain ⟨⟨⟨r, w1, e1, e2, e3, e4⟩, e5⟩, L, f1, f2⟩ := hq
    refine ⟨⟨⟨r, k_mix sh w1 w, e1, ⟨w1, e2, rfl⟩, fun k q hk => ?_, e4⟩, e5.1, fun q h1 h2 => e5.2 q h1 (fun z => h2 (k_A_pre z))⟩, L, f1, fun q hq => k_A_pre (f2 q hq)⟩
    obtain ⟨hl, he⟩ := k_wd_addr hk
    by_cases hc : k < sh.length
    · have h1 := List.getElem?_eq_getElem hc
      have h2 : (sh ++ sx)[k]? = some sh[k] := by rw [List.getElem?_append_left hc]; exact h1
      rw [k_wd_get h2] at hk
      refine e3 k q ?_
      rw [k_wd_get h1, ← hk, k_ent_row (w := w1) (w' := k_mix sh w1 w) _ (by simp [k_mix, hc]) (by simp [k_mix, hc])]
    · have h2 : (sh ++ sx)[k]? = some (sh ++ sx)[k] := List.getElem?_eq_getElem hl
      rw [k_wd_get h2] at hk
      have hk0 : (k_wd ad ca (sh ++ sx) w)[k]? = some q := by
        rw [k_wd_get h2, ← hk, k_ent_row (w := w) (w' := k_mix sh w1 w) _ (by simp [k_mix, hc]) (by simp [k_mix, hc])]
      have hP := qP k q hk0
      refine hP.kept (e5.2 q.1 hP.lt (fun z => ?_))
      rcases z with ⟨c, hc2, e⟩ | z
      · have hcl : c < (sh ++ sx).length := by rw [List.length_append]; omega
        have h3 := qD.1 k c q _ hk0 (k_wd_get (List.getElem?_eq_getElem hcl)) e
        omega
      · have := hP.lt
        rw [q1] at this
        omega
/-! ===== two more rules ===== -/
section KB9
variable {sh : List kE} {own : String} {cc : ByteArray} {n : Nat} {rt : Option FieldType} {fr lo : Nat} {Φ : Option Value → kW → Prop} {pc : Nat} {L : List (Nat × Value)} {st : List Value} {w : kW}
theorem b_ldc {ix : Nat} {v : Int32} (hd : decode cc pc = .ok (.ldc ix, 2)) (hc : Cond.constant own ix v ∈ cw) (kk : BS sh own cc n rt fr lo Φ (pc + 2) L (.int v :: st) w) : BS sh own cc n rt fr lo Φ pc L st w := by
  intro p l e s m args below meth co D ca ad H locs ls cx hP hD hS hl
  exact lv_ldc cx.1 cx.2.1 cx.2.2.2.1 (cx.2.2.2.2.1 _ hc) hd (kk p l e s m args below meth co D ca ad H locs ls cx hP hD hS hl)
theorem b_dup2 {a b : Value} (hd : decode cc pc = .ok (.dup2, 1)) (ha : a.category = 1) (hb : b.category = 1) (kk : BS sh own cc n rt fr lo Φ (pc + 1) L (a :: b :: a :: b :: st) w) : BS sh own cc n rt fr lo Φ pc L (a :: b :: st) w := by
  intro p l e s m args below meth co D ca ad H locs ls cx hP hD hS hl
  exact lv_dup2_11 cx.1 cx.2.1 hd (by rw [k_v_cat]; exact ha) (by rw [k_v_cat]; exact hb) (kk p l e s m args below meth co D ca ad H locs ls cx hP hD hS hl)
end KB9
/-! ===== the law's judgement: a world, and the script beside it ===== -/
abbrev lQ : Type := List Frame → Array Value → State → va_G → (Nat → ClassId) → (Nat → Nat) → State → Prop
/-- the script lies at ad 1000, apart from the world; top: the world's cells are all new -/
def kSc (top : Bool) (sh : List kE) (ad : Nat → Nat) (s : State) : Prop := (∃ N xs, N ≤ 260 ∧ va_X (ad 1000) N xs s s.heap) ∧ ad 1000 < s.heap.size ∧ (∀ c, c < sh.length → ad c ≠ ad 1000) ∧ (top = true → ∀ c, c < sh.length → s.heap.size ≤ ad c)
def LJ (R : Room) (K J : Nat) (top : Bool) (Qf : lQ) (sh : List kE) (own : String) (cc : ByteArray) (n : Nat) (rt : Option FieldType) (pc : Nat) (L : List (Nat × Value)) (st : List Value) (w : kW) : Prop :=
  ∀ (p : Program) (l : Launch) (e : Env) (s : State) (m : MethodId) (args : Array Value) (below : List Frame) (meth : Method) (c : Code) (D : va_G) (ca : Nat → ClassId) (ad : Nat → Nat) (H : Heap) (locs : List Loc) (ls : Array Slot),
    k_cx p s m args meth c own cc n rt D ca → kSc top sh ad s → va_P D vwCl (k_wd ad ca sh w) H → va_D (k_A sh ad s.heap.size) (k_wd ad ca sh w) → va_S (k_A sh ad s.heap.size) s.heap H locs → lv_has ls n (k_L ad L) →
    W p l e R s m args below meth c H locs K J (Qf below args s D ca ad) (F0 m pc ls (st.map (k_v ad)))
theorem kSc.notA {top : Bool} {sh : List kE} {ad : Nat → Nat} {s : State} (h : kSc top sh ad s) : ¬ k_A sh ad s.heap.size (ad 1000) := fun z => z.elim (fun ⟨c, hc, e⟩ => h.2.2.1 c hc e.symm) (fun z => absurd h.2.1 (Nat.not_lt.mpr z))
/-- the end of a method with a contract -/
def lMQ (sh : List kE) (Φ : Option Value → kW → Prop) : lQ := fun below args s D ca ad => MQ below (k_Qc sh D ca ad s.heap.size Φ) args s 0 0 (k_A sh ad s.heap.size)
def k_PcS (sh : List kE) (D : va_G) (ca : Nat → ClassId) (ad : Nat → Nat) (sz : Nat) (As : List Value) (w : kW) : Array Value → State → Prop := fun v U => k_Pc sh D ca ad sz As w v U ∧ kSc false sh ad U
/-- a contract of a method that looks at the script -/
def SpecS (sh : List kE) (y : MethodName) (cc : ByteArray) (n : Nat) (rt : Option FieldType) (fr lo : Nat) (As : List Value) (w : kW) (Φ : Option Value → kW → Prop) : Prop :=
  ∀ (l : Launch) (D : va_G) (ca : Nat → ClassId) (ad : Nat → Nat) (sz : Nat), Met l y (.code y cc n rt :: cw) ({ frames := fr, cells := 0, slots := 0, locals := lo } : Room) (k_PcS sh D ca ad sz As w) (k_Qc sh D ca ad sz Φ) 0 0 (k_A sh ad sz)
theorem l_enter {sh : List kE} {y : MethodName} {cc : ByteArray} {n : Nat} {rt : Option FieldType} {fr lo : Nat} {As : List Value} {w : kW} {Φ : Option Value → kW → Prop} (hy : plainName y.cls = true) (hn : (lg_sl As).length ≤ n) (h : LJ ({ frames := fr, cells := 0, slots := 0, locals := lo } : Room) 0 0 false (lMQ sh Φ) sh y.cls cc n rt 0 (lv_args 0 As) [] w) : SpecS sh y cc n rt fr lo As w Φ := by
  intro l D ca ad sz
  refine Met.ofW (cc := cc) (maxL := n) (ret := rt) hy rfl ?_
  intro p e s m args below meth c s₁ B hml hv
  obtain ⟨⟨rfl, hsz, hP, hK, hD0⟩, hX⟩ := hv
  subst hsz
  have hts0 := atoms_spec (ws := .code y cc n rt :: cw) B.pre
  have hts : ∀ w ∈ cw, w.before (As.map (k_v ad)).toArray s = true := fun w hw => hts0 w (List.mem_cons_of_mem _ hw)
  have hl := lv_entry (As.map (k_v ad)) (n := n) (by rw [k_sl_len]; exact hn)
  rw [lg_entry_eq]
  rw [k_args] at hl
  exact h p l e s m _ below meth c D ca ad s.heap [] _ ⟨B.exec, B.bytes, hml, findClass_of_methodNamed B.named, hts, B.returns, B.notSynchronized, hK⟩ hX hP (k_D_self hD0) va_S.rf hl
theorem k_blindS {sh : List kE} {D : va_G} {ca : Nat → ClassId} {ad : Nat → Nat} {sz : Nat} {As : List Value} {w : kW} : FrameBlind (k_PcS sh D ca ad sz As w) := by
  intro a U g mk q
  obtain ⟨q0, ⟨N, xs, q1, q2⟩, q3⟩ := q
  exact ⟨k_blind a U g mk q0, ⟨N, xs, q1, va_X.moved (u := U) (U := U.calling g mk a) (Vm.Alike.refl U.vm) q2⟩, q3⟩
section LK
variable {R : Room} {K J : Nat} {top : Bool} {Qf : lQ} {sh : List kE} {own : String} {cc : ByteArray} {n : Nat} {rt : Option FieldType} {pc : Nat} {L : List (Nat × Value)} {st : List Value} {w : kW}
theorem l_iconst {k : Int} {v : Int32} (hd : decode cc pc = .ok (.iconst k, 1)) (hv : Int32.ofInt k = v) (kk : LJ R K J top Qf sh own cc n rt (pc + 1) L (.int v :: st) w) : LJ R K J top Qf sh own cc n rt pc L st w := by
  intro p l e s m args below meth co D ca ad H locs ls cx hX hP hD hS hl
  exact lv_iconst cx.1 cx.2.1 hd hv (kk p l e s m args below meth co D ca ad H locs ls cx hX hP hD hS hl)
theorem l_bipush {k : Int} {v : Int32} (hd : decode cc pc = .ok (.bipush k, 2)) (hv : (Int8.ofInt k).toInt32 = v) (kk : LJ R K J top Qf sh own cc n rt (pc + 2) L (.int v :: st) w) : LJ R K J top Qf sh own cc n rt pc L st w := by
  intro p l e s m args below meth co D ca ad H locs ls cx hX hP hD hS hl
  exact lv_bipush cx.1 cx.2.1 hd hv (kk p l e s m args below meth co D ca ad H locs ls cx hX hP hD hS hl)
theorem l_sipush {k : Int} {v : Int32} (hd : decode cc pc = .ok (.sipush k, 3)) (hv : (Int16.ofInt k).toInt32 = v) (kk : LJ R K J top Qf sh own cc n rt (pc + 3) L (.int v :: st) w) : LJ R K J top Qf sh own cc n rt pc L st w := by
  intro p l e s m args below meth co D ca ad H locs ls cx hX hP hD hS hl
  exact lv_sipush cx.1 cx.2.1 hd hv (kk p l e s m args below meth co D ca ad H locs ls cx hX hP hD hS hl)
theorem l_iload_n {k : Fin 4} {x : Int32} (hd : decode cc pc = .ok (.iload_n k, 1)) (hv : L.lookup (k : Nat) = some (.int x)) (kk : LJ R K J top Qf sh own cc n rt (pc + 1) L (.int x :: st) w) : LJ R K J top Qf sh own cc n rt pc L st w := by
  intro p l e s m args below meth co D ca ad H locs ls cx hX hP hD hS hl
  exact lv_iload_n cx.1 cx.2.1 hd rfl (k_lget hl hv) (kk p l e s m args below meth co D ca ad H locs ls cx hX hP hD hS hl)
theorem l_iload {k : Nat} {x : Int32} (hd : decode cc pc = .ok (.iload k, 2)) (hv : L.lookup k = some (.int x)) (kk : LJ R K J top Qf sh own cc n rt (pc + 2) L (.int x :: st) w) : LJ R K J top Qf sh own cc n rt pc L st w := by
  intro p l e s m args below meth co D ca ad H locs ls cx hX hP hD hS hl
  exact lv_iload cx.1 cx.2.1 hd (k_lget hl hv) (kk p l e s m args below meth co D ca ad H locs ls cx hX hP hD hS hl)
theorem l_aload_n {k : Fin 4} {x : Nat} (hd : decode cc pc = .ok (.aload_n k, 1)) (hv : L.lookup (k : Nat) = some (.ref x)) (kk : LJ R K J top Qf sh own cc n rt (pc + 1) L (.ref x :: st) w) : LJ R K J top Qf sh own cc n rt pc L st w := by
  intro p l e s m args below meth co D ca ad H locs ls cx hX hP hD hS hl
  exact lv_aload_n cx.1 cx.2.1 hd rfl (k_lget hl hv) (kk p l e s m args below meth co D ca ad H locs ls cx hX hP hD hS hl)
theorem l_aload {k : Nat} {x : Nat} (hd : decode cc pc = .ok (.aload k, 2)) (hv : L.lookup k = some (.ref x)) (kk : LJ R K J top Qf sh own cc n rt (pc + 2) L (.ref x :: st) w) : LJ R K J top Qf sh own cc n rt pc L st w := by
  intro p l e s m args below meth co D ca ad H locs ls cx hX hP hD hS hl
  exact lv_aload cx.1 cx.2.1 hd (k_lget hl hv) (kk p l e s m args below meth co D ca ad H locs ls cx hX hP hD hS hl)
theorem l_istore_n {k : Fin 4} {x : Int32} (hd : decode cc pc = .ok (.istore_n k, 1)) (hn : (k : Nat) < n) (kk : LJ R K J top Qf sh own cc n rt (pc + 1) (k_st1 L k (.int x)) st w) : LJ R K J top Qf sh own cc n rt pc L (.int x :: st) w := by
  intro p l e s m args below meth co D ca ad H locs ls cx hX hP hD hS hl
  exact lv_istore_n cx.1 cx.2.1 hd rfl hl hn (k_st1_L ad k (.int x)) (fun ls9 hl9 => kk p l e s m args below meth co D ca ad H locs ls9 cx hX hP hD hS hl9)
theorem l_istore {k : Nat} {x : Int32} (hd : decode cc pc = .ok (.istore k, 2)) (hn : k < n) (kk : LJ R K J top Qf sh own cc n rt (pc + 2) (k_st1 L k (.int x)) st w) : LJ R K J top Qf sh own cc n rt pc L (.int x :: st) w := by
  intro p l e s m args below meth co D ca ad H locs ls cx hX hP hD hS hl
  exact lv_istore cx.1 cx.2.1 hd hl hn (k_st1_L ad k (.int x)) (fun ls9 hl9 => kk p l e s m args below meth co D ca ad H locs ls9 cx hX hP hD hS hl9)
theorem l_astore_n {k : Fin 4} {x : Nat} (hd : decode cc pc = .ok (.astore_n k, 1)) (hn : (k : Nat) < n) (kk : LJ R K J top Qf sh own cc n rt (pc + 1) (k_st1 L k (.ref x)) st w) : LJ R K J top Qf sh own cc n rt pc L (.ref x :: st) w := by
  intro p l e s m args below meth co D ca ad H locs ls cx hX hP hD hS hl
  exact lv_astore_n cx.1 cx.2.1 hd rfl hl hn (k_st1_L ad k (.ref x)) (fun ls9 hl9 => kk p l e s m args below meth co D ca ad H locs ls9 cx hX hP hD hS hl9)
theorem l_astore {k : Nat} {x : Nat} (hd : decode cc pc = .ok (.astore k, 2)) (hn : k < n) (kk : LJ R K J top Qf sh own cc n rt (pc + 2) (k_st1 L k (.ref x)) st w) : LJ R K J top Qf sh own cc n rt pc L (.ref x :: st) w := by
  intro p l e s m args below meth co D ca ad H locs ls cx hX hP hD hS hl
  exact lv_astore cx.1 cx.2.1 hd hl hn (k_st1_L ad k (.ref x)) (fun ls9 hl9 => kk p l e s m args below meth co D ca ad H locs ls9 cx hX hP hD hS hl9)
theorem l_iinc {k : Nat} {d : Int} {x v : Int32} (hd : decode cc pc = .ok (.iinc k d, 3)) (hv : L.lookup k = some (.int x)) (he : x + Int32.ofInt d = v) (hn : k < n) (kk : LJ R K J top Qf sh own cc n rt (pc + 3) (k_st1 L k (.int v)) st w) : LJ R K J top Qf sh own cc n rt pc L st w := by
  intro p l e s m args below meth co D ca ad H locs ls cx hX hP hD hS hl
  have hm : ls[k]? = some (.val (k_v ad (.int x))) := k_lget hl hv
  obtain ⟨j, hj⟩ : ∃ j, ((k, Value.int x) :: k_L ad L)[j]? = some (k, Value.int x) := ⟨0, rfl⟩
  have hl2 : lv_has ls n ((k, Value.int x) :: k_L ad L) := ⟨hl.1, hl.2.1, fun q hq => by
    rcases List.mem_cons.mp hq with h | h
    · rw [h]; exact hm
    · exact hl.2.2 q h⟩
  refine lv_iinc cx.1 cx.2.1 hd hl2 hj he hn (lv' := k_L ad (k_st1 L k (.int v))) ?_ (fun ls9 hl9 => kk p l e s m args below meth co D ca ad H locs ls9 cx hX hP hD hS hl9)
  rw [← k_st1_L ad k (.int v), List.filter_cons_of_neg (by simp)]
  rfl
theorem l_iadd {x y : Int32} (hd : decode cc pc = .ok (.iadd, 1)) (kk : LJ R K J top Qf sh own cc n rt (pc + 1) L (.int (x + y) :: st) w) : LJ R K J top Qf sh own cc n rt pc L (.int y :: .int x :: st) w := by
  intro p l e s m args below meth co D ca ad H locs ls cx hX hP hD hS hl
  exact lv_iadd cx.1 cx.2.1 hd (kk p l e s m args below meth co D ca ad H locs ls cx hX hP hD hS hl)
theorem l_isub {x y : Int32} (hd : decode cc pc = .ok (.isub, 1)) (kk : LJ R K J top Qf sh own cc n rt (pc + 1) L (.int (x - y) :: st) w) : LJ R K J top Qf sh own cc n rt pc L (.int y :: .int x :: st) w := by
  intro p l e s m args below meth co D ca ad H locs ls cx hX hP hD hS hl
  exact lv_isub cx.1 cx.2.1 hd (kk p l e s m args below meth co D ca ad H locs ls cx hX hP hD hS hl)
theorem l_imul {x y : Int32} (hd : decode cc pc = .ok (.imul, 1)) (kk : LJ R K J top Qf sh own cc n rt (pc + 1) L (.int (x * y) :: st) w) : LJ R K J top Qf sh own cc n rt pc L (.int y :: .int x :: st) w := by
  intro p l e s m args below meth co D ca ad H locs ls cx hX hP hD hS hl
  exact lv_imul cx.1 cx.2.1 hd (kk p l e s m args below meth co D ca ad H locs ls cx hX hP hD hS hl)
theorem l_iand {x y : Int32} (hd : decode cc pc = .ok (.iand, 1)) (kk : LJ R K J top Qf sh own cc n rt (pc + 1) L (.int (x &&& y) :: st) w) : LJ R K J top Qf sh own cc n rt pc L (.int y :: .int x :: st) w := by
  intro p l e s m args below meth co D ca ad H locs ls cx hX hP hD hS hl
  exact lv_iand cx.1 cx.2.1 hd (kk p l e s m args below meth co D ca ad H locs ls cx hX hP hD hS hl)
theorem l_ior {x y : Int32} (hd : decode cc pc = .ok (.ior, 1)) (kk : LJ R K J top Qf sh own cc n rt (pc + 1) L (.int (x ||| y) :: st) w) : LJ R K J top Qf sh own cc n rt pc L (.int y :: .int x :: st) w := by
  intro p l e s m args below meth co D ca ad H locs ls cx hX hP hD hS hl
  exact lv_ior cx.1 cx.2.1 hd (kk p l e s m args below meth co D ca ad H locs ls cx hX hP hD hS hl)
theorem l_ixor {x y : Int32} (hd : decode cc pc = .ok (.ixor, 1)) (kk : LJ R K J top Qf sh own cc n rt (pc + 1) L (.int (x ^^^ y) :: st) w) : LJ R K J top Qf sh own cc n rt pc L (.int y :: .int x :: st) w := by
  intro p l e s m args below meth co D ca ad H locs ls cx hX hP hD hS hl
  exact lv_ixor cx.1 cx.2.1 hd (kk p l e s m args below meth co D ca ad H locs ls cx hX hP hD hS hl)
theorem l_ishl {x y : Int32} (hd : decode cc pc = .ok (.ishl, 1)) (kk : LJ R K J top Qf sh own cc n rt (pc + 1) L (.int (x <<< (y &&& 31)) :: st) w) : LJ R K J top Qf sh own cc n rt pc L (.int y :: .int x :: st) w := by
  intro p l e s m args below meth co D ca ad H locs ls cx hX hP hD hS hl
  exact lv_ishl cx.1 cx.2.1 hd (kk p l e s m args below meth co D ca ad H locs ls cx hX hP hD hS hl)
theorem l_ishr {x y : Int32} (hd : decode cc pc = .ok (.ishr, 1)) (kk : LJ R K J top Qf sh own cc n rt (pc + 1) L (.int (x >>> (y &&& 31)) :: st) w) : LJ R K J top Qf sh own cc n rt pc L (.int y :: .int x :: st) w := by
  intro p l e s m args below meth co D ca ad H locs ls cx hX hP hD hS hl
  exact lv_ishr cx.1 cx.2.1 hd (kk p l e s m args below meth co D ca ad H locs ls cx hX hP hD hS hl)
theorem l_idiv {x y : Int32} (hd : decode cc pc = .ok (.idiv, 1)) (hne : ¬ y = 0) (kk : LJ R K J top Qf sh own cc n rt (pc + 1) L (.int (x / y) :: st) w) : LJ R K J top Qf sh own cc n rt pc L (.int y :: .int x :: st) w := by
  intro p l e s m args below meth co D ca ad H locs ls cx hX hP hD hS hl
  exact lv_idiv cx.1 cx.2.1 hd hne (kk p l e s m args below meth co D ca ad H locs ls cx hX hP hD hS hl)
theorem l_irem {x y : Int32} (hd : decode cc pc = .ok (.irem, 1)) (hne : ¬ y = 0) (kk : LJ R K J top Qf sh own cc n rt (pc + 1) L (.int (x - x / y * y) :: st) w) : LJ R K J top Qf sh own cc n rt pc L (.int y :: .int x :: st) w := by
  intro p l e s m args below meth co D ca ad H locs ls cx hX hP hD hS hl
  exact lv_irem cx.1 cx.2.1 hd hne (kk p l e s m args below meth co D ca ad H locs ls cx hX hP hD hS hl)
theorem l_dup {v : Value} (hd : decode cc pc = .ok (.dup, 1)) (hv : v.category = 1) (kk : LJ R K J top Qf sh own cc n rt (pc + 1) L (v :: v :: st) w) : LJ R K J top Qf sh own cc n rt pc L (v :: st) w := by
  intro p l e s m args below meth co D ca ad H locs ls cx hX hP hD hS hl
  exact lv_dup cx.1 cx.2.1 hd (by rw [k_v_cat]; exact hv) (kk p l e s m args below meth co D ca ad H locs ls cx hX hP hD hS hl)
theorem l_if_eq {x : Int32} {off : Int} {tgt : Nat} (hd : decode cc pc = .ok (.ifCond .eq off, 3)) (ht : (pc : Int) + off = (tgt : Int)) (kt : x = 0 → LJ R K J top Qf sh own cc n rt tgt L st w) (kf : ¬ x = 0 → LJ R K J top Qf sh own cc n rt (pc + 3) L st w) : LJ R K J top Qf sh own cc n rt pc L (.int x :: st) w := by
  intro p l e s m args below meth co D ca ad H locs ls cx hX hP hD hS hl
  exact lv_if_eq cx.1 cx.2.1 hd ht (fun h9 => kt h9 p l e s m args below meth co D ca ad H locs ls cx hX hP hD hS hl) (fun h9 => kf h9 p l e s m args below meth co D ca ad H locs ls cx hX hP hD hS hl)
theorem l_if_ne {x : Int32} {off : Int} {tgt : Nat} (hd : decode cc pc = .ok (.ifCond .ne off, 3)) (ht : (pc : Int) + off = (tgt : Int)) (kt : ¬ x = 0 → LJ R K J top Qf sh own cc n rt tgt L st w) (kf : x = 0 → LJ R K J top Qf sh own cc n rt (pc + 3) L st w) : LJ R K J top Qf sh own cc n rt pc L (.int x :: st) w := by
  intro p l e s m args below meth co D ca ad H locs ls cx hX hP hD hS hl
  exact lv_if_ne cx.1 cx.2.1 hd ht (fun h9 => kt h9 p l e s m args below meth co D ca ad H locs ls cx hX hP hD hS hl) (fun h9 => kf h9 p l e s m args below meth co D ca ad H locs ls cx hX hP hD hS hl)
theorem l_if_lt {x : Int32} {off : Int} {tgt : Nat} (hd : decode cc pc = .ok (.ifCond .lt off, 3)) (ht : (pc : Int) + off = (tgt : Int)) (kt : x < 0 → LJ R K J top Qf sh own cc n rt tgt L st w) (kf : ¬ x < 0 → LJ R K J top Qf sh own cc n rt (pc + 3) L st w) : LJ R K J top Qf sh own cc n rt pc L (.int x :: st) w := by
  intro p l e s m args below meth co D ca ad H locs ls cx hX hP hD hS hl
  exact lv_if_lt cx.1 cx.2.1 hd ht (fun h9 => kt h9 p l e s m args below meth co D ca ad H locs ls cx hX hP hD hS hl) (fun h9 => kf h9 p l e s m args below meth co D ca ad H locs ls cx hX hP hD hS hl)
theorem l_if_ge {x : Int32} {off : Int} {tgt : Nat} (hd : decode cc pc = .ok (.ifCond .ge off, 3)) (ht : (pc : Int) + off = (tgt : Int)) (kt : 0 ≤ x → LJ R K J top Qf sh own cc n rt tgt L st w) (kf : ¬ 0 ≤ x → LJ R K J top Qf sh own cc n rt (pc + 3) L st w) : LJ R K J top Qf sh own cc n rt pc L (.int x :: st) w := by
  intro p l e s m args below meth co D ca ad H locs ls cx hX hP hD hS hl
  exact lv_if_ge cx.1 cx.2.1 hd ht (fun h9 => kt h9 p l e s m args below meth co D ca ad H locs ls cx hX hP hD hS hl) (fun h9 => kf h9 p l e s m args below meth co D ca ad H locs ls cx hX hP hD hS hl)
theorem l_if_gt {x : Int32} {off : Int} {tgt : Nat} (hd : decode cc pc = .ok (.ifCond .gt off, 3)) (ht : (pc : Int) + off = (tgt : Int)) (kt : 0 < x → LJ R K J top Qf sh own cc n rt tgt L st w) (kf : ¬ 0 < x → LJ R K J top Qf sh own cc n rt (pc + 3) L st w) : LJ R K J top Qf sh own cc n rt pc L (.int x :: st) w := by
  intro p l e s m args below meth co D ca ad H locs ls cx hX hP hD hS hl
  exact lv_if_gt cx.1 cx.2.1 hd ht (fun h9 => kt h9 p l e s m args below meth co D ca ad H locs ls cx hX hP hD hS hl) (fun h9 => kf h9 p l e s m args below meth co D ca ad H locs ls cx hX hP hD hS hl)
theorem l_if_le {x : Int32} {off : Int} {tgt : Nat} (hd : decode cc pc = .ok (.ifCond .le off, 3)) (ht : (pc : Int) + off = (tgt : Int)) (kt : x ≤ 0 → LJ R K J top Qf sh own cc n rt tgt L st w) (kf : ¬ x ≤ 0 → LJ R K J top Qf sh own cc n rt (pc + 3) L st w) : LJ R K J top Qf sh own cc n rt pc L (.int x :: st) w := by
  intro p l e s m args below meth co D ca ad H locs ls cx hX hP hD hS hl
  exact lv_if_le cx.1 cx.2.1 hd ht (fun h9 => kt h9 p l e s m args below meth co D ca ad H locs ls cx hX hP hD hS hl) (fun h9 => kf h9 p l e s m args below meth co D ca ad H locs ls cx hX hP hD hS hl)
theorem l_icmp_eq {x y : Int32} {off : Int} {tgt : Nat} (hd : decode cc pc = .ok (.if_icmp .eq off, 3)) (ht : (pc : Int) + off = (tgt : Int)) (kt : x = y → LJ R K J top Qf sh own cc n rt tgt L st w) (kf : ¬ x = y → LJ R K J top Qf sh own cc n rt (pc + 3) L st w) : LJ R K J top Qf sh own cc n rt pc L (.int y :: .int x :: st) w := by
  intro p l e s m args below meth co D ca ad H locs ls cx hX hP hD hS hl
  exact lv_icmp_eq cx.1 cx.2.1 hd ht (fun h9 => kt h9 p l e s m args below meth co D ca ad H locs ls cx hX hP hD hS hl) (fun h9 => kf h9 p l e s m args below meth co D ca ad H locs ls cx hX hP hD hS hl)
theorem l_icmp_ne {x y : Int32} {off : Int} {tgt : Nat} (hd : decode cc pc = .ok (.if_icmp .ne off, 3)) (ht : (pc : Int) + off = (tgt : Int)) (kt : ¬ x = y → LJ R K J top Qf sh own cc n rt tgt L st w) (kf : x = y → LJ R K J top Qf sh own cc n rt (pc + 3) L st w) : LJ R K J top Qf sh own cc n rt pc L (.int y :: .int x :: st) w := by
  intro p l e s m args below meth co D ca ad H locs ls cx hX hP hD hS hl
  exact lv_icmp_ne cx.1 cx.2.1 hd ht (fun h9 => kt h9 p l e s m args below meth co D ca ad H locs ls cx hX hP hD hS hl) (fun h9 => kf h9 p l e s m args below meth co D ca ad H locs ls cx hX hP hD hS hl)
theorem l_icmp_lt {x y : Int32} {off : Int} {tgt : Nat} (hd : decode cc pc = .ok (.if_icmp .lt off, 3)) (ht : (pc : Int) + off = (tgt : Int)) (kt : x < y → LJ R K J top Qf sh own cc n rt tgt L st w) (kf : ¬ x < y → LJ R K J top Qf sh own cc n rt (pc + 3) L st w) : LJ R K J top Qf sh own cc n rt pc L (.int y :: .int x :: st) w := by
  intro p l e s m args below meth co D ca ad H locs ls cx hX hP hD hS hl
  exact lv_icmp_lt cx.1 cx.2.1 hd ht (fun h9 => kt h9 p l e s m args below meth co D ca ad H locs ls cx hX hP hD hS hl) (fun h9 => kf h9 p l e s m args below meth co D ca ad H locs ls cx hX hP hD hS hl)
theorem l_icmp_ge {x y : Int32} {off : Int} {tgt : Nat} (hd : decode cc pc = .ok (.if_icmp .ge off, 3)) (ht : (pc : Int) + off = (tgt : Int)) (kt : y ≤ x → LJ R K J top Qf sh own cc n rt tgt L st w) (kf : ¬ y ≤ x → LJ R K J top Qf sh own cc n rt (pc + 3) L st w) : LJ R K J top Qf sh own cc n rt pc L (.int y :: .int x :: st) w := by
  intro p l e s m args below meth co D ca ad H locs ls cx hX hP hD hS hl
  exact lv_icmp_ge cx.1 cx.2.1 hd ht (fun h9 => kt h9 p l e s m args below meth co D ca ad H locs ls cx hX hP hD hS hl) (fun h9 => kf h9 p l e s m args below meth co D ca ad H locs ls cx hX hP hD hS hl)
theorem l_icmp_gt {x y : Int32} {off : Int} {tgt : Nat} (hd : decode cc pc = .ok (.if_icmp .gt off, 3)) (ht : (pc : Int) + off = (tgt : Int)) (kt : y < x → LJ R K J top Qf sh own cc n rt tgt L st w) (kf : ¬ y < x → LJ R K J top Qf sh own cc n rt (pc + 3) L st w) : LJ R K J top Qf sh own cc n rt pc L (.int y :: .int x :: st) w := by
  intro p l e s m args below meth co D ca ad H locs ls cx hX hP hD hS hl
  exact lv_icmp_gt cx.1 cx.2.1 hd ht (fun h9 => kt h9 p l e s m args below meth co D ca ad H locs ls cx hX hP hD hS hl) (fun h9 => kf h9 p l e s m args below meth co D ca ad H locs ls cx hX hP hD hS hl)
theorem l_icmp_le {x y : Int32} {off : Int} {tgt : Nat} (hd : decode cc pc = .ok (.if_icmp .le off, 3)) (ht : (pc : Int) + off = (tgt : Int)) (kt : x ≤ y → LJ R K J top Qf sh own cc n rt tgt L st w) (kf : ¬ x ≤ y → LJ R K J top Qf sh own cc n rt (pc + 3) L st w) : LJ R K J top Qf sh own cc n rt pc L (.int y :: .int x :: st) w := by
  intro p l e s m args below meth co D ca ad H locs ls cx hX hP hD hS hl
  exact lv_icmp_le cx.1 cx.2.1 hd ht (fun h9 => kt h9 p l e s m args below meth co D ca ad H locs ls cx hX hP hD hS hl) (fun h9 => kf h9 p l e s m args below meth co D ca ad H locs ls cx hX hP hD hS hl)
theorem l_goto {off : Int} {tgt : Nat} (hd : decode cc pc = .ok (.goto off, 3)) (ht : (pc : Int) + off = (tgt : Int)) (kk : LJ R K J top Qf sh own cc n rt tgt L st w) : LJ R K J top Qf sh own cc n rt pc L st w := by
  intro p l e s m args below meth co D ca ad H locs ls cx hX hP hD hS hl
  exact lv_goto cx.1 cx.2.1 hd ht (kk p l e s m args below meth co D ca ad H locs ls cx hX hP hD hS hl)
theorem l_iald {c N : Nat} {i : Int32} (hd : decode cc pc = .ok (.iaload, 1)) (hc : sh[c]? = some (.inr (.inl (0, N)))) (hi : vp_in i N) (kk : LJ R K J top Qf sh own cc n rt (pc + 1) L (.int (w.1 c i.toNatClampNeg) :: st) w) : LJ R K J top Qf sh own cc n rt pc L (.int i :: .ref c :: st) w := by
  intro p l e s m args below meth co D ca ad H locs ls cx hX hP hD hS hl
  exact va_iald cx.1 cx.2.1 cx.2.2.2.2.2.2.2.1 hP c 0 (k_arr hc) rfl hi hd (kk p l e s m args below meth co D ca ad H locs ls cx hX hP hD hS hl)
theorem l_iast {c N : Nat} {i x : Int32} (hd : decode cc pc = .ok (.iastore, 1)) (hc : sh[c]? = some (.inr (.inl (0, N)))) (hi : vp_in i N) (kk : LJ R K J top Qf sh own cc n rt (pc + 1) L st (k_up w.1 c i.toNatClampNeg x, w.2)) : LJ R K J top Qf sh own cc n rt pc L (.int x :: .int i :: .ref c :: st) w := by
  intro p l e s m args below meth co D ca ad H locs ls cx hX hP hD hS hl
  refine va_iast cx.1 cx.2.1 cx.2.2.2.2.2.2.2.1 hP hD hS c 0 (k_arr hc) rfl hi hd (fun H1 locs1 hP1 hD1 hS1 => ?_)
  have e9 := k_set_a (w := w) (ad := ad) (ca := ca) (i := i.toNatClampNeg) (v := x) hc
  exact kk p l e s m args below meth co D ca ad H1 locs1 ls cx hX (e9 ▸ hP1) (k_D_self hD) hS1 hl
theorem l_topi {x y : Int32} (h : x = y) (kk : LJ R K J top Qf sh own cc n rt pc L (.int y :: st) w) : LJ R K J top Qf sh own cc n rt pc L (.int x :: st) w := h ▸ kk
theorem l_wd {w' : kW} (h : w = w') (kk : LJ R K J top Qf sh own cc n rt pc L st w') : LJ R K J top Qf sh own cc n rt pc L st w := h ▸ kk
theorem l_sub {L' : List (Nat × Value)} (ks : List Nat) (h : lv_pick L ks = L') (kk : LJ R K J top Qf sh own cc n rt pc L' st w) : LJ R K J top Qf sh own cc n rt pc L st w := by
  intro p l e s m args below meth co D ca ad H locs ls cx hX hP hD hS hl
  refine kk p l e s m args below meth co D ca ad H locs ls cx hX hP hD hS (lv_sub hl ks ?_)
  subst h
  simp only [lv_pick, k_L, List.getElem?_map, List.map_filterMap]
theorem l_ialdN {c N j : Nat} (hd : decode cc pc = .ok (.iaload, 1)) (hc : sh[c]? = some (.inr (.inl (0, N)))) (hi : j < N ∧ N ≤ 1000) (kk : LJ R K J top Qf sh own cc n rt (pc + 1) L (.int (w.1 c j) :: st) w) : LJ R K J top Qf sh own cc n rt pc L (.int (nI j) :: .ref c :: st) w := by
  refine l_iald hd hc (vp_nI hi) ?_
  rw [nI_clamp (by omega)]
  exact kk
theorem l_iastN {c N j : Nat} {x : Int32} (hd : decode cc pc = .ok (.iastore, 1)) (hc : sh[c]? = some (.inr (.inl (0, N)))) (hi : j < N ∧ N ≤ 1000) (kk : LJ R K J top Qf sh own cc n rt (pc + 1) L st (k_up w.1 c j x, w.2)) : LJ R K J top Qf sh own cc n rt pc L (.int x :: .int (nI j) :: .ref c :: st) w := by
  refine l_iast hd hc (vp_nI hi) ?_
  rw [nI_clamp (by omega)]
  exact kk
theorem l_ldc {ix : Nat} {v : Int32} (hd : decode cc pc = .ok (.ldc ix, 2)) (hc : Cond.constant own ix v ∈ cw) (kk : LJ R K J top Qf sh own cc n rt (pc + 2) L (.int v :: st) w) : LJ R K J top Qf sh own cc n rt pc L st w := by
  intro p l e s m args below meth co D ca ad H locs ls cx hX hP hD hS hl
  exact lv_ldc cx.1 cx.2.1 cx.2.2.2.1 (cx.2.2.2.2.1 _ hc) hd (kk p l e s m args below meth co D ca ad H locs ls cx hX hP hD hS hl)
theorem l_slen (hd : decode cc pc = .ok (.arraylength, 1)) (kk : ∀ N : Nat, N ≤ 260 → LJ R K J top Qf sh own cc n rt (pc + 1) L (.int (nI N) :: st) w) : LJ R K J top Qf sh own cc n rt pc L (.ref 1000 :: st) w := by
  intro p l e s m args below meth co D ca ad H locs ls cx hX hP hD hS hl
  obtain ⟨N, xs, hN, hx⟩ := hX.1
  exact va_slen cx.1 cx.2.1 hx hX.2.1 hX.notA hS hd (kk N hN p l e s m args below meth co D ca ad H locs ls cx hX hP hD hS hl)
/-- the law's own end -/
theorem k_goesL {p : Program} {l : Launch} {e : Env} {s : State} {m : MethodId} {args : Array Value} {below : List Frame} {meth : Method} {c : Code} {H H0 : Heap} {locs : List Loc} {Q : State → Prop} {ls : Array Slot} {st0 rest : List Value} {D : va_G} {ca : Nat → ClassId} {ad : Nat → Nat} {Ψ : Option Value → kW → Prop} {a : Array Value}
    (hr : va_Run p l e R s m args below meth c H locs K J 0 0 (F0 m pc ls st0) (rest.map (k_v ad)) (k_Qc sh D ca ad H.size Ψ a) (k_A sh ad H.size)) (hS : va_S (k_A sh ad H0.size) H0 H locs)
    (kk : ∀ (r : Option Value) (w' : kW) (H1 : Heap) (locs1 : List Loc), Ψ r w' → va_P D vwCl (k_wd ad ca sh w') H1 → va_S (k_A sh ad H0.size) H0 H1 locs1 → W p l e R s m args below meth c H1 locs1 K J Q (F0 m (pc + 3) ls ((r.toList ++ rest).map (k_v ad)))) : W p l e R s m args below meth c H locs K J Q (F0 m pc ls st0) := by
  intro T hT X
  obtain ⟨v, st₀, t, T', L, h0, X', hL, e1, e2, ⟨⟨r, w', hv, hp, hb, hK⟩, hz, hk⟩, st⟩ := hr T hT X
  cases hv
  rw [h0] at hz hk
  have hA : ∀ q, k_A sh ad H.size q → k_A sh ad H0.size q := fun q h => h.elim Or.inl (fun h => Or.inr (Nat.le_trans hS.1 h))
  obtain ⟨t2, a1, b1⟩ := kk r w' T'.heap (locs ++ L) hp (by rw [e1]; exact hb)
    ⟨Nat.le_trans hS.1 (by rw [e1]; exact hz), fun q h1 h2 => by rw [e1, hk q (Nat.lt_of_lt_of_le h1 hS.1) (fun z => h2 (hA q z))]; exact hS.2.1 q h1 h2, fun q hq => by
      rcases List.mem_append.mp hq with h | h
      · exact hS.2.2 q h
      · exact hA _ (hL q h)⟩ T' rfl X'
  refine ⟨t2, st t2 ?_, b1⟩
  have e9 : (r.map (k_v ad)).toList ++ rest.map (k_v ad) = (r.toList ++ rest).map (k_v ad) := by cases r <;> rfl
  rw [e9]
  exact a1
theorem l_callV {z : MethodName} {zc : ByteArray} {zn zf zl ix a b ci : Nat} {zr : Option FieldType} {fs : List kF} {q : vw_C} {As : List Value} {Ψ : Option Value → kW → Prop} (hKJ : K ≤ R.cells ∧ J ≤ R.slots) (hd : decode cc pc = .ok (.invokevirtual ix, 3)) (hF : k_lkV own ix z zc zn zr a) (hn : As.length = a) (hc : sh[b]? = some (.inl (ci, fs))) (hq : vwCl[ci]? = some q) (hz : q.1 = z.cls) (hR : zf + 1 ≤ R.frames ∧ 8 + (zn + 11) + zl ≤ R.locals) (hs : (st.map fun v => v.category).sum ≤ 8) (hM : Spec sh z zc zn zr zf zl (.ref b :: As) w Ψ) (kk : ∀ (r : Option Value) (w' : kW), Ψ r w' → LJ R K J top Qf sh own cc n rt (pc + 3) L (r.toList ++ st) w') : LJ R K J top Qf sh own cc n rt pc L (As.reverse ++ .ref b :: st) w := by
  intro p l e s m args below meth co D ca ad H locs ls cx hX hP hD hS hl
  obtain ⟨⟨h1, h2, h3, h4, h5, h6⟩, h7, h8⟩ := hF
  have hts := cx.2.2.2.2.1
  have hK := cx.2.2.2.2.2.2.2
  refine k_goesL (va_runV (As := As.map (k_v ad)) (rest := st.map (k_v ad)) (b := ad b) ⟨cx.1, cx.2.1, cx.2.2.1, cx.2.2.2.1, hts⟩ (hM l D ca ad H.size) ⟨callB_of a hts (k_goodIn h3) rfl rfl rfl (hts _ h2) (hts _ h1) ⟨h4, h5, h6⟩ hR, hts _ h7, hts _ h8⟩ ⟨k_blind, ?_, fun U hU hW => ⟨rfl, by rw [hU], by rw [hU]; exact hP, k_K.warm hW hK, k_D_of hD (fun _ _ => trivial)⟩⟩ rfl (by rw [List.length_map]; exact hn) hl.1 (by simp [k_v]) (lv_room (by rw [k_cats]; exact hs)) hd hKJ) hS (fun r w' H1 locs1 hp hP1 hS1 => kk r w' hp p l e s m args below meth co D ca ad H1 locs1 ls cx hX hP1 (k_D_self hD) hS1 hl)
  have h9 := va_recv hK.1 hP hq (k_obj hc)
  rw [hz] at h9
  exact h9
theorem l_callS {z : MethodName} {zc : ByteArray} {zn zf zl ix a : Nat} {zr : Option FieldType} {As : List Value} {Ψ : Option Value → kW → Prop} (hKJ : K ≤ R.cells ∧ J ≤ R.slots) (hd : decode cc pc = .ok (.invokestatic ix, 3)) (hF : k_lkS own ix z zc zn zr a) (hn : As.length = a) (hR : zf + 1 ≤ R.frames ∧ 8 + (zn + 11) + zl ≤ R.locals) (hs : (st.map fun v => v.category).sum ≤ 8) (hM : Spec sh z zc zn zr zf zl As w Ψ) (kk : ∀ (r : Option Value) (w' : kW), Ψ r w' → LJ R K J top Qf sh own cc n rt (pc + 3) L (r.toList ++ st) w') : LJ R K J top Qf sh own cc n rt pc L (As.reverse ++ st) w := by
  intro p l e s m args below meth co D ca ad H locs ls cx hX hP hD hS hl
  obtain ⟨⟨h1, h2, h3, h4, h5, h6⟩, h7⟩ := hF
  have hts := cx.2.2.2.2.1
  have hK := cx.2.2.2.2.2.2.2
  exact k_goesL (va_runS (As := As.map (k_v ad)) (rest := st.map (k_v ad)) ⟨cx.1, cx.2.1, cx.2.2.1, cx.2.2.2.1, hts⟩ (hM l D ca ad H.size) ⟨callB_of a hts (k_goodIn h3) rfl rfl rfl (hts _ h2) (hts _ h1) ⟨h4, h5, h6⟩ hR, hts _ h7⟩ ⟨k_blind, fun U hU hW => ⟨rfl, by rw [hU], by rw [hU]; exact hP, k_K.warm hW hK, k_D_of hD (fun _ _ => trivial)⟩⟩ rfl (by rw [List.length_map]; exact hn) hl.1 (by simp) (lv_room (by rw [k_cats]; exact hs)) hd hKJ) hS (fun r w' H1 locs1 hp hP1 hS1 => kk r w' hp p l e s m args below meth co D ca ad H1 locs1 ls cx hX hP1 (k_D_self hD) hS1 hl)
theorem kSc.at {U s : State} {ad : Nat → Nat} {H : Heap} {locs : List Loc} (hX : kSc top sh ad s) (hS : va_S (k_A sh ad s.heap.size) s.heap H locs) (hU : U.heap = H) (hW : s.WarmedH U.vm) : kSc false sh ad U := by
  obtain ⟨N, xs, hN, hx⟩ := hX.1
  refine ⟨⟨N, xs, hN, ?_⟩, by rw [hU]; exact Nat.lt_of_lt_of_le hX.2.1 hS.1, hX.2.2.1, fun h => absurd h (by decide)⟩
  rw [hU]
  exact (hx.kept (hS.2.1 _ hX.2.1 hX.notA)).moved hW.alike
theorem l_callX {z : MethodName} {zc : ByteArray} {zn zf zl ix a : Nat} {zr : Option FieldType} {As : List Value} {Ψ : Option Value → kW → Prop} (hKJ : K ≤ R.cells ∧ J ≤ R.slots) (hd : decode cc pc = .ok (.invokestatic ix, 3)) (hF : k_lkS own ix z zc zn zr a) (hn : As.length = a) (hR : zf + 1 ≤ R.frames ∧ 8 + (zn + 11) + zl ≤ R.locals) (hs : (st.map fun v => v.category).sum ≤ 8) (hM : SpecS sh z zc zn zr zf zl As w Ψ) (kk : ∀ (r : Option Value) (w' : kW), Ψ r w' → LJ R K J top Qf sh own cc n rt (pc + 3) L (r.toList ++ st) w') : LJ R K J top Qf sh own cc n rt pc L (As.reverse ++ st) w := by
  intro p l e s m args below meth co D ca ad H locs ls cx hX hP hD hS hl
  obtain ⟨⟨h1, h2, h3, h4, h5, h6⟩, h7⟩ := hF
  have hts := cx.2.2.2.2.1
  have hK := cx.2.2.2.2.2.2.2
  exact k_goesL (va_runS (As := As.map (k_v ad)) (rest := st.map (k_v ad)) ⟨cx.1, cx.2.1, cx.2.2.1, cx.2.2.2.1, hts⟩ (hM l D ca ad H.size) ⟨callB_of a hts (k_goodIn h3) rfl rfl rfl (hts _ h2) (hts _ h1) ⟨h4, h5, h6⟩ hR, hts _ h7⟩ ⟨k_blindS, fun U hU hW => ⟨⟨rfl, by rw [hU], by rw [hU]; exact hP, k_K.warm hW hK, k_D_of hD (fun _ _ => trivial)⟩, hX.at hS hU hW⟩⟩ rfl (by rw [List.length_map]; exact hn) hl.1 (by simp) (lv_room (by rw [k_cats]; exact hs)) hd hKJ) hS (fun r w' H1 locs1 hp hP1 hS1 => kk r w' hp p l e s m args below meth co D ca ad H1 locs1 ls cx hX hP1 (k_D_self hD) hS1 hl)
end LK
section LR
variable {sh : List kE} {own : String} {cc : ByteArray} {n : Nat} {rt : Option FieldType} {fr lo : Nat} {Φ : Option Value → kW → Prop} {pc : Nat} {L : List (Nat × Value)} {w : kW}
theorem l_iret {v : Int32} (hd : decode cc pc = .ok (.ireturn, 1)) (hr : rt = some .int) (h : Φ (some (.int v)) w) : LJ ({ frames := fr, cells := 0, slots := 0, locals := lo } : Room) 0 0 false (lMQ sh Φ) sh own cc n rt pc L [(.int v)] w := by
  intro p l e s m args below meth co D ca ad H locs ls cx hX hP hD hS hl
  exact W.iret cx.1 cx.2.1 (cx.2.2.2.2.2.1.trans hr) (fun t ht hW => ⟨⟨some (.int v), w, rfl, h, by rw [ht]; exact hP, va_K.moved hW.alike cx.2.2.2.2.2.2.2.1⟩, hS.F ht⟩) hS.2.2 hd cx.2.2.2.2.2.2.1
end LR
section LC
variable {R : Room} {K J : Nat} {top : Bool} {Qf : lQ} {sh : List kE} {own : String} {cc : ByteArray} {n : Nat} {rt : Option FieldType} {pc : Nat} {L : List (Nat × Value)} {st : List Value} {w : kW}
theorem l_callS0 {z : MethodName} {zc : ByteArray} {zn zf zl ix : Nat} {zr : Option FieldType} {Ψ : Option Value → kW → Prop} (hKJ : K ≤ R.cells ∧ J ≤ R.slots) (hd : decode cc pc = .ok (.invokestatic ix, 3)) (hF : k_lkS own ix z zc zn zr 0) (hR : zf + 1 ≤ R.frames ∧ 8 + (zn + 11) + zl ≤ R.locals) (hs : (st.map fun v => v.category).sum ≤ 8) (hM : Spec sh z zc zn zr zf zl [] w Ψ) (kk : ∀ (r : Option Value) (w' : kW), Ψ r w' → LJ R K J top Qf sh own cc n rt (pc + 3) L (r.toList ++ st) w') : LJ R K J top Qf sh own cc n rt pc L (st) w := l_callS (As := []) hKJ hd hF rfl hR hs hM kk
theorem l_callX0 {z : MethodName} {zc : ByteArray} {zn zf zl ix : Nat} {zr : Option FieldType} {Ψ : Option Value → kW → Prop} (hKJ : K ≤ R.cells ∧ J ≤ R.slots) (hd : decode cc pc = .ok (.invokestatic ix, 3)) (hF : k_lkS own ix z zc zn zr 0) (hR : zf + 1 ≤ R.frames ∧ 8 + (zn + 11) + zl ≤ R.locals) (hs : (st.map fun v => v.category).sum ≤ 8) (hM : SpecS sh z zc zn zr zf zl [] w Ψ) (kk : ∀ (r : Option Value) (w' : kW), Ψ r w' → LJ R K J top Qf sh own cc n rt (pc + 3) L (r.toList ++ st) w') : LJ R K J top Qf sh own cc n rt pc L (st) w := l_callX (As := []) hKJ hd hF rfl hR hs hM kk
theorem l_callV1 {z : MethodName} {zc : ByteArray} {zn zf zl ix b ci : Nat} {zr : Option FieldType} {fs : List kF} {q : vw_C} {x0 : Value} {Ψ : Option Value → kW → Prop} (hKJ : K ≤ R.cells ∧ J ≤ R.slots) (hd : decode cc pc = .ok (.invokevirtual ix, 3)) (hF : k_lkV own ix z zc zn zr 1) (hc : sh[b]? = some (.inl (ci, fs))) (hq : vwCl[ci]? = some q) (hz : q.1 = z.cls) (hR : zf + 1 ≤ R.frames ∧ 8 + (zn + 11) + zl ≤ R.locals) (hs : (st.map fun v => v.category).sum ≤ 8) (hM : Spec sh z zc zn zr zf zl (.ref b :: [x0]) w Ψ) (kk : ∀ (r : Option Value) (w' : kW), Ψ r w' → LJ R K J top Qf sh own cc n rt (pc + 3) L (r.toList ++ st) w') : LJ R K J top Qf sh own cc n rt pc L (x0 :: .ref b :: st) w := l_callV (As := [x0]) hKJ hd hF rfl hc hq hz hR hs hM kk
theorem l_callS1 {z : MethodName} {zc : ByteArray} {zn zf zl ix : Nat} {zr : Option FieldType} {x0 : Value} {Ψ : Option Value → kW → Prop} (hKJ : K ≤ R.cells ∧ J ≤ R.slots) (hd : decode cc pc = .ok (.invokestatic ix, 3)) (hF : k_lkS own ix z zc zn zr 1) (hR : zf + 1 ≤ R.frames ∧ 8 + (zn + 11) + zl ≤ R.locals) (hs : (st.map fun v => v.category).sum ≤ 8) (hM : Spec sh z zc zn zr zf zl [x0] w Ψ) (kk : ∀ (r : Option Value) (w' : kW), Ψ r w' → LJ R K J top Qf sh own cc n rt (pc + 3) L (r.toList ++ st) w') : LJ R K J top Qf sh own cc n rt pc L (x0 :: st) w := l_callS (As := [x0]) hKJ hd hF rfl hR hs hM kk
theorem l_callX1 {z : MethodName} {zc : ByteArray} {zn zf zl ix : Nat} {zr : Option FieldType} {x0 : Value} {Ψ : Option Value → kW → Prop} (hKJ : K ≤ R.cells ∧ J ≤ R.slots) (hd : decode cc pc = .ok (.invokestatic ix, 3)) (hF : k_lkS own ix z zc zn zr 1) (hR : zf + 1 ≤ R.frames ∧ 8 + (zn + 11) + zl ≤ R.locals) (hs : (st.map fun v => v.category).sum ≤ 8) (hM : SpecS sh z zc zn zr zf zl [x0] w Ψ) (kk : ∀ (r : Option Value) (w' : kW), Ψ r w' → LJ R K J top Qf sh own cc n rt (pc + 3) L (r.toList ++ st) w') : LJ R K J top Qf sh own cc n rt pc L (x0 :: st) w := l_callX (As := [x0]) hKJ hd hF rfl hR hs hM kk
theorem l_callV2 {z : MethodName} {zc : ByteArray} {zn zf zl ix b ci : Nat} {zr : Option FieldType} {fs : List kF} {q : vw_C} {x0 x1 : Value} {Ψ : Option Value → kW → Prop} (hKJ : K ≤ R.cells ∧ J ≤ R.slots) (hd : decode cc pc = .ok (.invokevirtual ix, 3)) (hF : k_lkV own ix z zc zn zr 2) (hc : sh[b]? = some (.inl (ci, fs))) (hq : vwCl[ci]? = some q) (hz : q.1 = z.cls) (hR : zf + 1 ≤ R.frames ∧ 8 + (zn + 11) + zl ≤ R.locals) (hs : (st.map fun v => v.category).sum ≤ 8) (hM : Spec sh z zc zn zr zf zl (.ref b :: [x0, x1]) w Ψ) (kk : ∀ (r : Option Value) (w' : kW), Ψ r w' → LJ R K J top Qf sh own cc n rt (pc + 3) L (r.toList ++ st) w') : LJ R K J top Qf sh own cc n rt pc L (x1 :: x0 :: .ref b :: st) w := l_callV (As := [x0, x1]) hKJ hd hF rfl hc hq hz hR hs hM kk
theorem l_callS2 {z : MethodName} {zc : ByteArray} {zn zf zl ix : Nat} {zr : Option FieldType} {x0 x1 : Value} {Ψ : Option Value → kW → Prop} (hKJ : K ≤ R.cells ∧ J ≤ R.slots) (hd : decode cc pc = .ok (.invokestatic ix, 3)) (hF : k_lkS own ix z zc zn zr 2) (hR : zf + 1 ≤ R.frames ∧ 8 + (zn + 11) + zl ≤ R.locals) (hs : (st.map fun v => v.category).sum ≤ 8) (hM : Spec sh z zc zn zr zf zl [x0, x1] w Ψ) (kk : ∀ (r : Option Value) (w' : kW), Ψ r w' → LJ R K J top Qf sh own cc n rt (pc + 3) L (r.toList ++ st) w') : LJ R K J top Qf sh own cc n rt pc L (x1 :: x0 :: st) w := l_callS (As := [x0, x1]) hKJ hd hF rfl hR hs hM kk
theorem l_callX2 {z : MethodName} {zc : ByteArray} {zn zf zl ix : Nat} {zr : Option FieldType} {x0 x1 : Value} {Ψ : Option Value → kW → Prop} (hKJ : K ≤ R.cells ∧ J ≤ R.slots) (hd : decode cc pc = .ok (.invokestatic ix, 3)) (hF : k_lkS own ix z zc zn zr 2) (hR : zf + 1 ≤ R.frames ∧ 8 + (zn + 11) + zl ≤ R.locals) (hs : (st.map fun v => v.category).sum ≤ 8) (hM : SpecS sh z zc zn zr zf zl [x0, x1] w Ψ) (kk : ∀ (r : Option Value) (w' : kW), Ψ r w' → LJ R K J top Qf sh own cc n rt (pc + 3) L (r.toList ++ st) w') : LJ R K J top Qf sh own cc n rt pc L (x1 :: x0 :: st) w := l_callX (As := [x0, x1]) hKJ hd hF rfl hR hs hM kk
theorem l_callV3 {z : MethodName} {zc : ByteArray} {zn zf zl ix b ci : Nat} {zr : Option FieldType} {fs : List kF} {q : vw_C} {x0 x1 x2 : Value} {Ψ : Option Value → kW → Prop} (hKJ : K ≤ R.cells ∧ J ≤ R.slots) (hd : decode cc pc = .ok (.invokevirtual ix, 3)) (hF : k_lkV own ix z zc zn zr 3) (hc : sh[b]? = some (.inl (ci, fs))) (hq : vwCl[ci]? = some q) (hz : q.1 = z.cls) (hR : zf + 1 ≤ R.frames ∧ 8 + (zn + 11) + zl ≤ R.locals) (hs : (st.map fun v => v.category).sum ≤ 8) (hM : Spec sh z zc zn zr zf zl (.ref b :: [x0, x1, x2]) w Ψ) (kk : ∀ (r : Option Value) (w' : kW), Ψ r w' → LJ R K J top Qf sh own cc n rt (pc + 3) L (r.toList ++ st) w') : LJ R K J top Qf sh own cc n rt pc L (x2 :: x1 :: x0 :: .ref b :: st) w := l_callV (As := [x0, x1, x2]) hKJ hd hF rfl hc hq hz hR hs hM kk
theorem l_callS3 {z : MethodName} {zc : ByteArray} {zn zf zl ix : Nat} {zr : Option FieldType} {x0 x1 x2 : Value} {Ψ : Option Value → kW → Prop} (hKJ : K ≤ R.cells ∧ J ≤ R.slots) (hd : decode cc pc = .ok (.invokestatic ix, 3)) (hF : k_lkS own ix z zc zn zr 3) (hR : zf + 1 ≤ R.frames ∧ 8 + (zn + 11) + zl ≤ R.locals) (hs : (st.map fun v => v.category).sum ≤ 8) (hM : Spec sh z zc zn zr zf zl [x0, x1, x2] w Ψ) (kk : ∀ (r : Option Value) (w' : kW), Ψ r w' → LJ R K J top Qf sh own cc n rt (pc + 3) L (r.toList ++ st) w') : LJ R K J top Qf sh own cc n rt pc L (x2 :: x1 :: x0 :: st) w := l_callS (As := [x0, x1, x2]) hKJ hd hF rfl hR hs hM kk
theorem l_callX3 {z : MethodName} {zc : ByteArray} {zn zf zl ix : Nat} {zr : Option FieldType} {x0 x1 x2 : Value} {Ψ : Option Value → kW → Prop} (hKJ : K ≤ R.cells ∧ J ≤ R.slots) (hd : decode cc pc = .ok (.invokestatic ix, 3)) (hF : k_lkS own ix z zc zn zr 3) (hR : zf + 1 ≤ R.frames ∧ 8 + (zn + 11) + zl ≤ R.locals) (hs : (st.map fun v => v.category).sum ≤ 8) (hM : SpecS sh z zc zn zr zf zl [x0, x1, x2] w Ψ) (kk : ∀ (r : Option Value) (w' : kW), Ψ r w' → LJ R K J top Qf sh own cc n rt (pc + 3) L (r.toList ++ st) w') : LJ R K J top Qf sh own cc n rt pc L (x2 :: x1 :: x0 :: st) w := l_callX (As := [x0, x1, x2]) hKJ hd hF rfl hR hs hM kk
theorem l_callV4 {z : MethodName} {zc : ByteArray} {zn zf zl ix b ci : Nat} {zr : Option FieldType} {fs : List kF} {q : vw_C} {x0 x1 x2 x3 : Value} {Ψ : Option Value → kW → Prop} (hKJ : K ≤ R.cells ∧ J ≤ R.slots) (hd : decode cc pc = .ok (.invokevirtual ix, 3)) (hF : k_lkV own ix z zc zn zr 4) (hc : sh[b]? = some (.inl (ci, fs))) (hq : vwCl[ci]? = some q) (hz : q.1 = z.cls) (hR : zf + 1 ≤ R.frames ∧ 8 + (zn + 11) + zl ≤ R.locals) (hs : (st.map fun v => v.category).sum ≤ 8) (hM : Spec sh z zc zn zr zf zl (.ref b :: [x0, x1, x2, x3]) w Ψ) (kk : ∀ (r : Option Value) (w' : kW), Ψ r w' → LJ R K J top Qf sh own cc n rt (pc + 3) L (r.toList ++ st) w') : LJ R K J top Qf sh own cc n rt pc L (x3 :: x2 :: x1 :: x0 :: .ref b :: st) w := l_callV (As := [x0, x1, x2, x3]) hKJ hd hF rfl hc hq hz hR hs hM kk
theorem l_callS4 {z : MethodName} {zc : ByteArray} {zn zf zl ix : Nat} {zr : Option FieldType} {x0 x1 x2 x3 : Value} {Ψ : Option Value → kW → Prop} (hKJ : K ≤ R.cells ∧ J ≤ R.slots) (hd : decode cc pc = .ok (.invokestatic ix, 3)) (hF : k_lkS own ix z zc zn zr 4) (hR : zf + 1 ≤ R.frames ∧ 8 + (zn + 11) + zl ≤ R.locals) (hs : (st.map fun v => v.category).sum ≤ 8) (hM : Spec sh z zc zn zr zf zl [x0, x1, x2, x3] w Ψ) (kk : ∀ (r : Option Value) (w' : kW), Ψ r w' → LJ R K J top Qf sh own cc n rt (pc + 3) L (r.toList ++ st) w') : LJ R K J top Qf sh own cc n rt pc L (x3 :: x2 :: x1 :: x0 :: st) w := l_callS (As := [x0, x1, x2, x3]) hKJ hd hF rfl hR hs hM kk
theorem l_callX4 {z : MethodName} {zc : ByteArray} {zn zf zl ix : Nat} {zr : Option FieldType} {x0 x1 x2 x3 : Value} {Ψ : Option Value → kW → Prop} (hKJ : K ≤ R.cells ∧ J ≤ R.slots) (hd : decode cc pc = .ok (.invokestatic ix, 3)) (hF : k_lkS own ix z zc zn zr 4) (hR : zf + 1 ≤ R.frames ∧ 8 + (zn + 11) + zl ≤ R.locals) (hs : (st.map fun v => v.category).sum ≤ 8) (hM : SpecS sh z zc zn zr zf zl [x0, x1, x2, x3] w Ψ) (kk : ∀ (r : Option Value) (w' : kW), Ψ r w' → LJ R K J top Qf sh own cc n rt (pc + 3) L (r.toList ++ st) w') : LJ R K J top Qf sh own cc n rt pc L (x3 :: x2 :: x1 :: x0 :: st) w := l_callX (As := [x0, x1, x2, x3]) hKJ hd hF rfl hR hs hM kk
theorem l_callS5 {z : MethodName} {zc : ByteArray} {zn zf zl ix : Nat} {zr : Option FieldType} {x0 x1 x2 x3 x4 : Value} {Ψ : Option Value → kW → Prop} (hKJ : K ≤ R.cells ∧ J ≤ R.slots) (hd : decode cc pc = .ok (.invokestatic ix, 3)) (hF : k_lkS own ix z zc zn zr 5) (hR : zf + 1 ≤ R.frames ∧ 8 + (zn + 11) + zl ≤ R.locals) (hs : (st.map fun v => v.category).sum ≤ 8) (hM : Spec sh z zc zn zr zf zl [x0, x1, x2, x3, x4] w Ψ) (kk : ∀ (r : Option Value) (w' : kW), Ψ r w' → LJ R K J top Qf sh own cc n rt (pc + 3) L (r.toList ++ st) w') : LJ R K J top Qf sh own cc n rt pc L (x4 :: x3 :: x2 :: x1 :: x0 :: st) w := l_callS (As := [x0, x1, x2, x3, x4]) hKJ hd hF rfl hR hs hM kk
theorem l_callX5 {z : MethodName} {zc : ByteArray} {zn zf zl ix : Nat} {zr : Option FieldType} {x0 x1 x2 x3 x4 : Value} {Ψ : Option Value → kW → Prop} (hKJ : K ≤ R.cells ∧ J ≤ R.slots) (hd : decode cc pc = .ok (.invokestatic ix, 3)) (hF : k_lkS own ix z zc zn zr 5) (hR : zf + 1 ≤ R.frames ∧ 8 + (zn + 11) + zl ≤ R.locals) (hs : (st.map fun v => v.category).sum ≤ 8) (hM : SpecS sh z zc zn zr zf zl [x0, x1, x2, x3, x4] w Ψ) (kk : ∀ (r : Option Value) (w' : kW), Ψ r w' → LJ R K J top Qf sh own cc n rt (pc + 3) L (r.toList ++ st) w') : LJ R K J top Qf sh own cc n rt pc L (x4 :: x3 :: x2 :: x1 :: x0 :: st) w := l_callX (As := [x0, x1, x2, x3, x4]) hKJ hd hF rfl hR hs hM kk
theorem l_callS6 {z : MethodName} {zc : ByteArray} {zn zf zl ix : Nat} {zr : Option FieldType} {x0 x1 x2 x3 x4 x5 : Value} {Ψ : Option Value → kW → Prop} (hKJ : K ≤ R.cells ∧ J ≤ R.slots) (hd : decode cc pc = .ok (.invokestatic ix, 3)) (hF : k_lkS own ix z zc zn zr 6) (hR : zf + 1 ≤ R.frames ∧ 8 + (zn + 11) + zl ≤ R.locals) (hs : (st.map fun v => v.category).sum ≤ 8) (hM : Spec sh z zc zn zr zf zl [x0, x1, x2, x3, x4, x5] w Ψ) (kk : ∀ (r : Option Value) (w' : kW), Ψ r w' → LJ R K J top Qf sh own cc n rt (pc + 3) L (r.toList ++ st) w') : LJ R K J top Qf sh own cc n rt pc L (x5 :: x4 :: x3 :: x2 :: x1 :: x0 :: st) w := l_callS (As := [x0, x1, x2, x3, x4, x5]) hKJ hd hF rfl hR hs hM kk
theorem l_callX6 {z : MethodName} {zc : ByteArray} {zn zf zl ix : Nat} {zr : Option FieldType} {x0 x1 x2 x3 x4 x5 : Value} {Ψ : Option Value → kW → Prop} (hKJ : K ≤ R.cells ∧ J ≤ R.slots) (hd : decode cc pc = .ok (.invokestatic ix, 3)) (hF : k_lkS own ix z zc zn zr 6) (hR : zf + 1 ≤ R.frames ∧ 8 + (zn + 11) + zl ≤ R.locals) (hs : (st.map fun v => v.category).sum ≤ 8) (hM : SpecS sh z zc zn zr zf zl [x0, x1, x2, x3, x4, x5] w Ψ) (kk : ∀ (r : Option Value) (w' : kW), Ψ r w' → LJ R K J top Qf sh own cc n rt (pc + 3) L (r.toList ++ st) w') : LJ R K J top Qf sh own cc n rt pc L (x5 :: x4 :: x3 :: x2 :: x1 :: x0 :: st) w := l_callX (As := [x0, x1, x2, x3, x4, x5]) hKJ hd hF rfl hR hs hM kk
theorem l_callS7 {z : MethodName} {zc : ByteArray} {zn zf zl ix : Nat} {zr : Option FieldType} {x0 x1 x2 x3 x4 x5 x6 : Value} {Ψ : Option Value → kW → Prop} (hKJ : K ≤ R.cells ∧ J ≤ R.slots) (hd : decode cc pc = .ok (.invokestatic ix, 3)) (hF : k_lkS own ix z zc zn zr 7) (hR : zf + 1 ≤ R.frames ∧ 8 + (zn + 11) + zl ≤ R.locals) (hs : (st.map fun v => v.category).sum ≤ 8) (hM : Spec sh z zc zn zr zf zl [x0, x1, x2, x3, x4, x5, x6] w Ψ) (kk : ∀ (r : Option Value) (w' : kW), Ψ r w' → LJ R K J top Qf sh own cc n rt (pc + 3) L (r.toList ++ st) w') : LJ R K J top Qf sh own cc n rt pc L (x6 :: x5 :: x4 :: x3 :: x2 :: x1 :: x0 :: st) w := l_callS (As := [x0, x1, x2, x3, x4, x5, x6]) hKJ hd hF rfl hR hs hM kk
theorem l_callX7 {z : MethodName} {zc : ByteArray} {zn zf zl ix : Nat} {zr : Option FieldType} {x0 x1 x2 x3 x4 x5 x6 : Value} {Ψ : Option Value → kW → Prop} (hKJ : K ≤ R.cells ∧ J ≤ R.slots) (hd : decode cc pc = .ok (.invokestatic ix, 3)) (hF : k_lkS own ix z zc zn zr 7) (hR : zf + 1 ≤ R.frames ∧ 8 + (zn + 11) + zl ≤ R.locals) (hs : (st.map fun v => v.category).sum ≤ 8) (hM : SpecS sh z zc zn zr zf zl [x0, x1, x2, x3, x4, x5, x6] w Ψ) (kk : ∀ (r : Option Value) (w' : kW), Ψ r w' → LJ R K J top Qf sh own cc n rt (pc + 3) L (r.toList ++ st) w') : LJ R K J top Qf sh own cc n rt pc L (x6 :: x5 :: x4 :: x3 :: x2 :: x1 :: x0 :: st) w := l_callX (As := [x0, x1, x2, x3, x4, x5, x6]) hKJ hd hF rfl hR hs hM kk
theorem l_callS8 {z : MethodName} {zc : ByteArray} {zn zf zl ix : Nat} {zr : Option FieldType} {x0 x1 x2 x3 x4 x5 x6 x7 : Value} {Ψ : Option Value → kW → Prop} (hKJ : K ≤ R.cells ∧ J ≤ R.slots) (hd : decode cc pc = .ok (.invokestatic ix, 3)) (hF : k_lkS own ix z zc zn zr 8) (hR : zf + 1 ≤ R.frames ∧ 8 + (zn + 11) + zl ≤ R.locals) (hs : (st.map fun v => v.category).sum ≤ 8) (hM : Spec sh z zc zn zr zf zl [x0, x1, x2, x3, x4, x5, x6, x7] w Ψ) (kk : ∀ (r : Option Value) (w' : kW), Ψ r w' → LJ R K J top Qf sh own cc n rt (pc + 3) L (r.toList ++ st) w') : LJ R K J top Qf sh own cc n rt pc L (x7 :: x6 :: x5 :: x4 :: x3 :: x2 :: x1 :: x0 :: st) w := l_callS (As := [x0, x1, x2, x3, x4, x5, x6, x7]) hKJ hd hF rfl hR hs hM kk
theorem l_callX8 {z : MethodName} {zc : ByteArray} {zn zf zl ix : Nat} {zr : Option FieldType} {x0 x1 x2 x3 x4 x5 x6 x7 : Value} {Ψ : Option Value → kW → Prop} (hKJ : K ≤ R.cells ∧ J ≤ R.slots) (hd : decode cc pc = .ok (.invokestatic ix, 3)) (hF : k_lkS own ix z zc zn zr 8) (hR : zf + 1 ≤ R.frames ∧ 8 + (zn + 11) + zl ≤ R.locals) (hs : (st.map fun v => v.category).sum ≤ 8) (hM : SpecS sh z zc zn zr zf zl [x0, x1, x2, x3, x4, x5, x6, x7] w Ψ) (kk : ∀ (r : Option Value) (w' : kW), Ψ r w' → LJ R K J top Qf sh own cc n rt (pc + 3) L (r.toList ++ st) w') : LJ R K J top Qf sh own cc n rt pc L (x7 :: x6 :: x5 :: x4 :: x3 :: x2 :: x1 :: x0 :: st) w := l_callX (As := [x0, x1, x2, x3, x4, x5, x6, x7]) hKJ hd hF rfl hR hs hM kk
end LC
