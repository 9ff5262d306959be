section LBR
variable {p : Program} {l : Launch} {e : Env} {s : State} {m : MethodId} {below : List Frame} {meth : Method} {c : Code} {b L0 : Nat} {xs : Nat → Int32} {pc : Nat} {L : List (Nat × Value)} {st : List Value} {w g : kW}
theorem l_aload {i : Fin 4} {a : Nat} (C0 : lw_At p s m meth c b L0 xs) (hd : decode code pc = .ok (.aload_n i, 1)) (hv : L.lookup (i : Nat) = some (.ref a)) (kk : LB p l e s m below meth c b (pc + 1) L (.ref a :: st) w g) : LB p l e s m below meth c b pc L st w g := by
  intro D ca ad1 ad2 H locs ls hW hl
  exact lv_aload_n C0.1 C0.2.1 hd rfl (k_lget hl hv) (kk D ca ad1 ad2 H locs ls hW hl)
theorem l_iload {i : Fin 4} {x : Int32} (C0 : lw_At p s m meth c b L0 xs) (hd : decode code pc = .ok (.iload_n i, 1)) (hv : L.lookup (i : Nat) = some (.int x)) (kk : LB p l e s m below meth c b (pc + 1) L (.int x :: st) w g) : LB p l e s m below meth c b pc L st w g := by
  intro D ca ad1 ad2 H locs ls hW hl
  exact lv_iload_n C0.1 C0.2.1 hd rfl (k_lget hl hv) (kk D ca ad1 ad2 H locs ls hW hl)
theorem l_iconst {v : Int32} {x : Int} (C0 : lw_At p s m meth c b L0 xs) (hd : decode code pc = .ok (.iconst x, 1)) (hv : Int32.ofInt x = v) (kk : LB p l e s m below meth c b (pc + 1) L (.int v :: st) w g) : LB p l e s m below meth c b pc L st w g := by
  intro D ca ad1 ad2 H locs ls hW hl
  exact lv_iconst C0.1 C0.2.1 hd hv (kk D ca ad1 ad2 H locs ls hW hl)
theorem l_bipush {v : Int32} {x : Int} (C0 : lw_At p s m meth c b L0 xs) (hd : decode code pc = .ok (.bipush x, 2)) (hv : (Int8.ofInt x).toInt32 = v) (kk : LB p l e s m below meth c b (pc + 2) L (.int v :: st) w g) : LB p l e s m below meth c b pc L st w g := by
  intro D ca ad1 ad2 H locs ls hW hl
  exact lv_bipush C0.1 C0.2.1 hd hv (kk D ca ad1 ad2 H locs ls hW hl)
theorem l_iadd {x y : Int32} (C0 : lw_At p s m meth c b L0 xs) (hd : decode code pc = .ok (.iadd, 1)) (kk : LB p l e s m below meth c b (pc + 1) L (.int (x + y) :: st) w g) : LB p l e s m below meth c b pc L (.int y :: .int x :: st) w g := by
  intro D ca ad1 ad2 H locs ls hW hl
  exact lv_iadd C0.1 C0.2.1 hd (kk D ca ad1 ad2 H locs ls hW hl)
theorem l_isub {x y : Int32} (C0 : lw_At p s m meth c b L0 xs) (hd : decode code pc = .ok (.isub, 1)) (kk : LB p l e s m below meth c b (pc + 1) L (.int (x - y) :: st) w g) : LB p l e s m below meth c b pc L (.int y :: .int x :: st) w g := by
  intro D ca ad1 ad2 H locs ls hW hl
  exact lv_isub C0.1 C0.2.1 hd (kk D ca ad1 ad2 H locs ls hW hl)
theorem l_iand {x y : Int32} (C0 : lw_At p s m meth c b L0 xs) (hd : decode code pc = .ok (.iand, 1)) (kk : LB p l e s m below meth c b (pc + 1) L (.int (x &&& y) :: st) w g) : LB p l e s m below meth c b pc L (.int y :: .int x :: st) w g := by
  intro D ca ad1 ad2 H locs ls hW hl
  exact lv_iand C0.1 C0.2.1 hd (kk D ca ad1 ad2 H locs ls hW hl)
theorem l_icmp_eq {x y : Int32} {off : Int} {tgt : Nat} (C0 : lw_At p s m meth c b L0 xs) (hd : decode code pc = .ok (.if_icmp .eq off, 3)) (ht : (pc : Int) + off = (tgt : Int)) (kt : x = y → LB p l e s m below meth c b tgt L st w g) (kf : ¬ x = y → LB p l e s m below meth c b (pc + 3) L st w g) : LB p l e s m below meth c b pc L (.int y :: .int x :: st) w g := by
  intro D ca ad1 ad2 H locs ls hW hl
  exact lv_icmp_eq C0.1 C0.2.1 hd ht (fun h => kt h D ca ad1 ad2 H locs ls hW hl) (fun h => kf h D ca ad1 ad2 H locs ls hW hl)
theorem l_icmp_gt {x y : Int32} {off : Int} {tgt : Nat} (C0 : lw_At p s m meth c b L0 xs) (hd : decode code pc = .ok (.if_icmp .gt off, 3)) (ht : (pc : Int) + off = (tgt : Int)) (kt : y < x → LB p l e s m below meth c b tgt L st w g) (kf : ¬ y < x → LB p l e s m below meth c b (pc + 3) L st w g) : LB p l e s m below meth c b pc L (.int y :: .int x :: st) w g := by
  intro D ca ad1 ad2 H locs ls hW hl
  exact lv_icmp_gt C0.1 C0.2.1 hd ht (fun h => kt h D ca ad1 ad2 H locs ls hW hl) (fun h => kf h D ca ad1 ad2 H locs ls hW hl)
theorem l_if_eq {x : Int32} {off : Int} {tgt : Nat} (C0 : lw_At p s m meth c b L0 xs) (hd : decode code pc = .ok (.ifCond .eq off, 3)) (ht : (pc : Int) + off = (tgt : Int)) (kt : x = 0 → LB p l e s m below meth c b tgt L st w g) (kf : ¬ x = 0 → LB p l e s m below meth c b (pc + 3) L st w g) : LB p l e s m below meth c b pc L (.int x :: st) w g := by
  intro D ca ad1 ad2 H locs ls hW hl
  exact lv_if_eq C0.1 C0.2.1 hd ht (fun h => kt h D ca ad1 ad2 H locs ls hW hl) (fun h => kf h D ca ad1 ad2 H locs ls hW hl)
theorem l_lcmp {x y : Int64} (C0 : lw_At p s m meth c b L0 xs) (hd : decode code pc = .ok (.lcmp, 1)) (kk : LB p l e s m below meth c b (pc + 1) L (.int (lg_cmp x y) :: st) w g) : LB p l e s m below meth c b pc L (.long y :: .long x :: st) w g := by
  intro D ca ad1 ad2 H locs ls hW hl
  exact W.lcmp C0.1 C0.2.1 hd (kk D ca ad1 ad2 H locs ls hW hl)
theorem l_goto {off : Int} {tgt : Nat} (C0 : lw_At p s m meth c b L0 xs) (hd : decode code pc = .ok (.goto off, 3)) (ht : (pc : Int) + off = (tgt : Int)) (kk : LB p l e s m below meth c b tgt L st w g) : LB p l e s m below meth c b pc L st w g := by
  intro D ca ad1 ad2 H locs ls hW hl
  exact lv_goto C0.1 C0.2.1 hd ht (kk D ca ad1 ad2 H locs ls hW hl)
theorem l_sld {x : Int32} (C0 : lw_At p s m meth c b L0 xs) (hd : decode code pc = .ok (.iaload, 1)) (hin : vp_in x L0) (kk : LB p l e s m below meth c b (pc + 1) L (.int (xs x.toNatClampNeg) :: st) w g) : LB p l e s m below meth c b pc L (.int x :: .ref 0 :: st) w g := by
  intro D ca ad1 ad2 H locs ls hW hl
  obtain ⟨hx, hb, hr, hml, hown, hts0, hX, hbl, hlocks, hgv⟩ := C0
  exact va_sld hx hb hX hbl (Nat.not_le.mpr hbl) hW.2.2.2.2.2.2 hin hd (kk D ca ad1 ad2 H locs ls hW hl)
theorem l_slen (C0 : lw_At p s m meth c b L0 xs) (hd : decode code pc = .ok (.arraylength, 1)) (kk : LB p l e s m below meth c b (pc + 1) L (.int (Int32.ofNat L0) :: st) w g) : LB p l e s m below meth c b pc L (.ref 0 :: st) w g := by
  intro D ca ad1 ad2 H locs ls hW hl
  obtain ⟨hx, hb, hr, hml, hown, hts0, hX, hbl, hlocks, hgv⟩ := C0
  exact va_slen hx hb hX hbl (Nat.not_le.mpr hbl) hW.2.2.2.2.2.2 hd (kk D ca ad1 ad2 H locs ls hW hl)
theorem l_tsIn {dflt lw hg : Int} {offs : Array Int} {len : Nat} {x : Int32} {off : Int} {tgt : Nat} (C0 : lw_At p s m meth c b L0 xs) (hd : decode code pc = .ok (.tableswitch dflt lw hg offs, len)) (h1 : ¬ x.toInt < lw) (h2 : ¬ hg < x.toInt) (ho : offs[(x.toInt - lw).toNat]? = some off) (ht : (pc : Int) + off = (tgt : Int)) (kk : LB p l e s m below meth c b tgt L st w g) : LB p l e s m below meth c b pc L (.int x :: st) w g := by
  intro D ca ad1 ad2 H locs ls hW hl
  exact lv_tableIn C0.1 C0.2.1 hd h1 h2 ho ht (kk D ca ad1 ad2 H locs ls hW hl)
theorem l_tsOut {dflt lw hg : Int} {offs : Array Int} {len : Nat} {x : Int32} {tgt : Nat} (C0 : lw_At p s m meth c b L0 xs) (hd : decode code pc = .ok (.tableswitch dflt lw hg offs, len)) (h : x.toInt < lw ∨ hg < x.toInt) (ht : (pc : Int) + dflt = (tgt : Int)) (kk : LB p l e s m below meth c b tgt L st w g) : LB p l e s m below meth c b pc L (.int x :: st) w g := by
  intro D ca ad1 ad2 H locs ls hW hl
  exact lv_tableOut C0.1 C0.2.1 hd h ht (kk D ca ad1 ad2 H locs ls hW hl)
theorem l_ret (C0 : lw_At p s m meth c b L0 xs) (h1 : decode code 1151 = .ok (.iconst 1, 1)) (h2 : decode code 1152 = .ok (.ireturn, 1)) : LB p l e s m below meth c b 1151 L [] w g := by
  intro D ca ad1 ad2 H locs ls hW hl
  obtain ⟨hx, hb, hr, hml, hown, hts0, hX, hbl, hlocks, hgv⟩ := C0
  refine lv_iconst (v := 1) hx hb h1 (by decide) ?_
  refine va_forget (fun q hq => hW.2.2.2.2.2.2.2.2 q hq) ?_
  refine W.widen (k := 600000) (n := 7302250) (by decide) (by decide) ?_
  exact lw_ret hx hb hr hlocks h2
theorem l_iinc {a : Nat} {d : Int} {x v : Int32} {L' : List (Nat × Value)} (C0 : lw_At p s m meth c b L0 xs) (hd : decode code pc = .ok (.iinc 3 d, 3)) (hv0 : L = [(0, .ref 0), (1, .ref 1), (2, .ref 2), (3, .int x)]) (hv : x + Int32.ofInt d = v) (kk : LB p l e s m below meth c b (pc + 3) [(0, .ref 0), (1, .ref 1), (2, .ref 2), (3, .int v)] st w g) : LB p l e s m below meth c b pc L st w g := by
  intro D ca ad1 ad2 H locs ls hW hl
  subst hv0
  obtain ⟨hx, hb, hr, hml, hown, hts0, hX, hbl, hlocks, hgv⟩ := C0
  exact lv_iinc (k := 3) (v := v) hx hb hd hl rfl hv (by decide) rfl (fun ls hl => kk D ca ad1 ad2 H locs ls hW (lv_sub hl [1, 2, 3, 0] rfl))
end LBR
theorem and31 (x : Int32) : ∃ m, m < 32 ∧ x &&& 31 = nI m := by
  refine ⟨x.toBitVec.toNat % 2 ^ 5, Nat.mod_lt _ (by decide), b_ext (fun i hi => ?_)⟩
  have h31 : ∀ i, i < 32 → bt 31 i = decide (i < 5) := by decide +kernel
  rw [b_and, h31 i hi, bt_nI hi, Nat.testBit_mod_two_pow, Bool.and_comm]
  rfl
theorem loop_end {L0 i : Nat} (h1 : L0 ≤ 3072) (h2 : i ≤ 4000) : Int32.ofNat L0 - 6 < nI i ↔ L0 < i + 6 := by
  rcases Nat.lt_or_ge L0 6 with h | h
  · have h6 : ∀ k, k < 6 → (nI k : Int32) - 6 < 0 := by decide +kernel
    exact ⟨fun _ => by omega, fun _ => Int32.lt_of_lt_of_le (h6 L0 h) (nI_pos' (by omega))⟩
  · rw [show Int32.ofNat L0 - 6 = nI (L0 - 6) from nI_sub (b := 6) h]
    constructor
    · intro z
      rcases Nat.lt_or_ge (L0 - 6) i with y | y
      · omega
      · exact absurd z (Int32.not_lt.mpr (nI_le y (by omega)))
    · intro z
      exact nI_lt (by omega) (by omega)
theorem hwI {Ψ1 Ψ2 : Option Value → kW → Prop} (h : PairI Ψ1 Ψ2) : ∀ r w', Ψ1 r w' → ∃ v, r = some v ∧ ∀ ad, k_v ad v = v := fun r w' z => by
  obtain ⟨v, hv⟩ := h.1 r w' z
  exact ⟨_, hv, fun _ => rfl⟩
theorem hwL {Ψ1 Ψ2 : Option Value → kW → Prop} (h : PairL Ψ1 Ψ2) : ∀ r w', Ψ1 r w' → ∃ v, r = some v ∧ ∀ ad, k_v ad v = v := fun r w' z => by
  obtain ⟨v, hv⟩ := h.1 r w' z
  exact ⟨_, hv, fun _ => rfl⟩
theorem hwI2 {Ψ1 Ψ2 : Option Value → kW → Prop} {x : Int32} {w' : kW} (h : PairI Ψ1 Ψ2) (hc : Ψ1 (some (.int x)) w') : ∀ r g', Ψ2 r g' → ∃ v, r = some v ∧ ∀ ad, k_v ad v = v := fun r g' z => ⟨_, (h.2 _ _ _ _ hc z).1.symm, fun _ => rfl⟩
theorem hwL2 {Ψ1 Ψ2 : Option Value → kW → Prop} {x : Int64} {w' : kW} (h : PairL Ψ1 Ψ2) (hc : Ψ1 (some (.long x)) w') : ∀ r g', Ψ2 r g' → ∃ v, r = some v ∧ ∀ ad, k_v ad v = v := fun r g' z => ⟨_, (h.2 _ _ _ _ hc z).1.symm, fun _ => rfl⟩
