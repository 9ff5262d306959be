theorem pn_L : plainName RL = true := by decide +kernel
theorem nI_div {a b : Nat} (ha : a < 2 ^ 31) (hb : b < 2 ^ 31) : nI a / nI b = nI (a / b) := by
  apply Int32.toInt_inj.mp
  rw [Int32.toInt_div_of_ne_right _ _ (fun h => ?_), nI_toInt ha, nI_toInt hb, nI_toInt (Nat.lt_of_le_of_lt (Nat.div_le_self a b) ha)]
  · rfl
  · have h1 := nI_toInt hb
    rw [h] at h1
    have h2 : (-1 : Int32).toInt = -1 := by decide
    omega
theorem nI_rem {a b : Nat} (ha : a < 2 ^ 31) (hb : b < 2 ^ 31) : nI a - nI a / nI b * nI b = nI (a % b) := by
  rw [nI_div ha hb, nI_mul, nI_sub (Nat.div_mul_le_self a b)]
  congr 1
  rw [Nat.mod_def, Nat.mul_comm]
theorem some_pos (v : Int32) : ¬ (v &&& 2147483647) < 0 := by
  have h := BitVec.msb_eq_toInt (x := (v &&& 2147483647).toBitVec)
  rw [Int32.toBitVec_and, BitVec.msb_and] at h
  have h2 : (2147483647 : Int32).toBitVec.msb = false := by decide
  rw [h2, Bool.and_false] at h
  intro h3
  rw [Int32.lt_iff_toInt_lt] at h3
  have h4 := of_decide_eq_false h.symm
  rw [← Int32.toBitVec_and] at h4
  exact h4 h3
theorem some_val (v : Int32) {N : Nat} (h1 : 1 ≤ N) (h2 : N ≤ 1000) : ∃ j, j < N ∧ (v &&& 2147483647) - (v &&& 2147483647) / nI N * nI N = nI j := by
  obtain ⟨a, ha, e⟩ := nI_of (some_pos v)
  rw [e, nI_rem ha (by omega)]
  exact ⟨a % N, Nat.mod_lt _ h1, rfl⟩

set_option maxRecDepth 100000 in
set_option maxHeartbeats 1000000 in
theorem s_L_some {sh : List kE} {w : kW} {v : Int32} {N : Nat} (h1 : 1 ≤ N) (h2 : N ≤ 1000) : Spec sh yL_some cL_some 2 (some .int) 0 0 [.int v, .int (nI N)] w (fun r w' => w = w' ∧ ∃ j, j < N ∧ r = some (.int (nI j))) := by
  obtain ⟨j, hj, ej⟩ := some_val v h1 h2
  refine k_enter pn_L (Nat.le_of_ble_eq_true rfl) ?_
  refine b_iload_n dL_some_0 rfl ?_
  refine b_ldc dL_some_1 lc_L_8 ?_
  refine b_iand dL_some_3 ?_
  refine b_iload_n dL_some_4 rfl ?_
  refine b_irem dL_some_5 (nI_ne0 h1 (by omega)) ?_
  refine b_iret dL_some_6 rfl ⟨rfl, j, hj, ?_⟩
  rw [ej]

set_option maxRecDepth 100000 in
set_option maxHeartbeats 1000000 in
theorem s_L_cell {sh : List kE} {w : kW} {j : Nat} (hj : j ≤ 1000) : SpecS sh yL_cell cL_cell 2 (some .int) 0 0 [.ref 1000, .int (nI j)] w (fun r w' => w = w' ∧ ∃ x : Int32, r = some (.int x)) := by
  refine l_enter pn_L (Nat.le_of_ble_eq_true rfl) ?_
  refine l_iload_n dL_cell_0 rfl ?_
  refine l_aload_n dL_cell_1 rfl ?_
  have h18 : ∀ x : Int32, LJ ({ frames := 0, cells := 0, slots := 0, locals := 0 } : Room) 0 0 false (lMQ sh (fun r w' => w = w' ∧ ∃ x : Int32, r = some (.int x))) sh RL cL_cell 2 (some .int) 18 [(0, .ref 1000), (1, .int (nI j))] [.int x] w := fun x => l_iret dL_cell_18 rfl ⟨rfl, x, rfl⟩
  have h9 : ∀ x : Int32, LJ ({ frames := 0, cells := 0, slots := 0, locals := 0 } : Room) 0 0 false (lMQ sh (fun r w' => w = w' ∧ ∃ x : Int32, r = some (.int x))) sh RL cL_cell 2 (some .int) 9 [(0, .ref 1000), (1, .int (nI j))] [.int x] w := fun x => l_goto (tgt := 18) dL_cell_9 (by decide) (h18 x)
  have h12 : LJ ({ frames := 0, cells := 0, slots := 0, locals := 0 } : Room) 0 0 false (lMQ sh (fun r w' => w = w' ∧ ∃ x : Int32, r = some (.int x))) sh RL cL_cell 2 (some .int) 12 [(0, .ref 1000), (1, .int (nI j))] [] w := by
    refine l_ldc dL_cell_12 lc_L_7 ?_
    refine l_iload_n dL_cell_14 rfl ?_
    refine l_iconst (v := 1) dL_cell_15 (by decide) ?_
    refine l_iadd dL_cell_16 ?_
    refine l_imul dL_cell_17 ?_
    exact h18 _
  intro p l e s m args below meth co D ca ad H locs ls cx hX hP hD hS hl
  obtain ⟨N, xs, hN, hx⟩ := hX.1
  refine va_slen cx.1 cx.2.1 hx hX.2.1 hX.notA hS dL_cell_2 ?_
  refine lv_icmp_ge (tgt := 12) cx.1 cx.2.1 dL_cell_3 (by decide) (fun h => h12 p l e s m args below meth co D ca ad H locs ls cx hX hP hD hS hl) (fun h => ?_)
  have hlt : j < N := Nat.not_le.mp (fun z => h (nI_le z (by omega)))
  refine lv_aload_n cx.1 cx.2.1 dL_cell_6 rfl (k_lget (v := .ref 1000) hl rfl) ?_
  refine lv_iload_n cx.1 cx.2.1 dL_cell_7 rfl (k_lget (v := .int (nI j)) hl rfl) ?_
  refine va_sld cx.1 cx.2.1 hx hX.2.1 hX.notA hS (vp_nI ⟨hlt, by omega⟩) dL_cell_8 ?_
  exact h9 _ p l e s m args below meth co D ca ad H locs ls cx hX hP hD hS hl

def lT (k h : Int32) : Int32 :=
  if k ≤ 0 then 10 - h - 0
  else if 1 ≤ 10 - h - 2 then (if k = 2 then (if 10 - h - 2 ≤ 1 then 10 - h - 2 else 10 - h - 2 - 1) else 10 - h - 2)
  else (if k = 2 then 1 else 1)
theorem lT_eq : ∀ k, k < 3 → ∀ h, h < 10 → 1 ≤ h → lT (nI k) (nI h) = mTc (nI k) (nI h) := by decide +kernel
theorem lT_2 : ∀ k, k < 3 → nI k ≤ 0 → ¬ nI k = 2 := by decide +kernel

set_option maxRecDepth 100000 in
set_option maxHeartbeats 1000000 in
theorem s_L_touchy {w : kW} {p h kd : Nat} (hp : p < 6) (h1 : 1 ≤ h) (h9 : h ≤ 9) (hk : kd ≤ 2) (eh : w.1 39 (9 + p) = nI h) (ek : w.1 39 (3 + p) = nI kd) : Spec shL yL_touchy cL_touchy 3 (some .int) 0 0 [.ref 39, .int (nI p)] w (fun r w' => r = some (.int (mTc (nI kd) (nI h))) ∧ w = w') := by
  refine k_enter pn_L (Nat.le_of_ble_eq_true rfl) ?_
  refine b_bipush (v := 10) dL_touchy_0 (by decide) ?_
  refine b_aload_n dL_touchy_2 rfl ?_
  refine b_bipush (v := 9) dL_touchy_3 (by decide) ?_
  refine b_iload_n dL_touchy_5 rfl ?_
  refine b_iadd dL_touchy_6 ?_
  refine b_topi (y := nI (9 + p)) (nI_add 9 p) ?_
  refine b_ialdN dL_touchy_7 rfl ⟨by omega, by decide⟩ ?_
  refine b_topi (y := nI h) eh ?_
  refine b_isub dL_touchy_8 ?_
  refine b_aload_n dL_touchy_9 rfl ?_
  refine b_iconst (v := 3) dL_touchy_10 (by decide) ?_
  refine b_iload_n dL_touchy_11 rfl ?_
  refine b_iadd dL_touchy_12 ?_
  refine b_topi (y := nI (3 + p)) (nI_add 3 p) ?_
  refine b_ialdN dL_touchy_13 rfl ⟨by omega, by decide⟩ ?_
  refine b_topi (y := nI kd) ek ?_
  refine b_if_le (tgt := 21) dL_touchy_14 (by decide) (fun h14 => ?_) (fun h14 => ?_)
  · refine b_iconst (v := 0) dL_touchy_21 (by decide) ?_
    refine b_isub dL_touchy_22 ?_
    refine b_istore_n dL_touchy_23 (by decide) ?_
    refine b_aload_n dL_touchy_24 rfl ?_
    refine b_iconst (v := 3) dL_touchy_25 (by decide) ?_
    refine b_iload_n dL_touchy_26 rfl ?_
    refine b_iadd dL_touchy_27 ?_
    refine b_topi (y := nI (3 + p)) (nI_add 3 p) ?_
    refine b_ialdN dL_touchy_28 rfl ⟨by omega, by decide⟩ ?_
    refine b_topi (y := nI kd) ek ?_
    refine b_if_le (tgt := 39) dL_touchy_29 (by decide) (fun h29 => ?_) (fun h29 => ?_)
    · refine b_aload_n dL_touchy_39 rfl ?_
      refine b_iconst (v := 3) dL_touchy_40 (by decide) ?_
      refine b_iload_n dL_touchy_41 rfl ?_
      refine b_iadd dL_touchy_42 ?_
      refine b_topi (y := nI (3 + p)) (nI_add 3 p) ?_
      refine b_ialdN dL_touchy_43 rfl ⟨by omega, by decide⟩ ?_
      refine b_topi (y := nI kd) ek ?_
      refine b_iconst (v := 2) dL_touchy_44 (by decide) ?_
      refine b_icmp_ne (tgt := 59) dL_touchy_45 (by decide) (fun h45 => ?_) (fun h45 => ?_)
      · refine b_iload_n dL_touchy_59 rfl ?_
        refine b_iret dL_touchy_60 rfl ⟨?_, ?_⟩
        · rw [← lT_eq kd (by omega) h (by omega) h1]; simp only [lT, if_pos h14, if_pos h29, if_neg h45]
        · rfl
      · exact absurd h45 (lT_2 kd (by omega) h14)
    · exact absurd h14 h29
  · refine b_iconst (v := 2) dL_touchy_17 (by decide) ?_
    refine b_goto (tgt := 22) dL_touchy_18 (by decide) ?_
    refine b_isub dL_touchy_22 ?_
    refine b_istore_n dL_touchy_23 (by decide) ?_
    refine b_aload_n dL_touchy_24 rfl ?_
    refine b_iconst (v := 3) dL_touchy_25 (by decide) ?_
    refine b_iload_n dL_touchy_26 rfl ?_
    refine b_iadd dL_touchy_27 ?_
    refine b_topi (y := nI (3 + p)) (nI_add 3 p) ?_
    refine b_ialdN dL_touchy_28 rfl ⟨by omega, by decide⟩ ?_
    refine b_topi (y := nI kd) ek ?_
    refine b_if_le (tgt := 39) dL_touchy_29 (by decide) (fun h29 => ?_) (fun h29 => ?_)
    · exact absurd h29 h14
    · refine b_iload_n dL_touchy_32 rfl ?_
      refine b_iconst (v := 1) dL_touchy_33 (by decide) ?_
      refine b_icmp_ge (tgt := 39) dL_touchy_34 (by decide) (fun h34 => ?_) (fun h34 => ?_)
      · refine b_aload_n dL_touchy_39 rfl ?_
        refine b_iconst (v := 3) dL_touchy_40 (by decide) ?_
        refine b_iload_n dL_touchy_41 rfl ?_
        refine b_iadd dL_touchy_42 ?_
        refine b_topi (y := nI (3 + p)) (nI_add 3 p) ?_
        refine b_ialdN dL_touchy_43 rfl ⟨by omega, by decide⟩ ?_
        refine b_topi (y := nI kd) ek ?_
        refine b_iconst (v := 2) dL_touchy_44 (by decide) ?_
        refine b_icmp_ne (tgt := 59) dL_touchy_45 (by decide) (fun h45 => ?_) (fun h45 => ?_)
        · refine b_iload_n dL_touchy_59 rfl ?_
          refine b_iret dL_touchy_60 rfl ⟨?_, ?_⟩
          · rw [← lT_eq kd (by omega) h (by omega) h1]; simp only [lT, if_neg h14, if_neg h29, if_pos h34, if_neg h45]
          · rfl
        · refine b_iload_n dL_touchy_48 rfl ?_
          refine b_iconst (v := 1) dL_touchy_49 (by decide) ?_
          refine b_icmp_le (tgt := 59) dL_touchy_50 (by decide) (fun h50 => ?_) (fun h50 => ?_)
          · refine b_iload_n dL_touchy_59 rfl ?_
            refine b_iret dL_touchy_60 rfl ⟨?_, ?_⟩
            · rw [← lT_eq kd (by omega) h (by omega) h1]; simp only [lT, if_neg h14, if_neg h29, if_pos h34, if_pos h45, if_pos h50]
            · rfl
          · refine b_iload_n dL_touchy_53 rfl ?_
            refine b_iconst (v := 1) dL_touchy_54 (by decide) ?_
            refine b_isub dL_touchy_55 ?_
            refine b_goto (tgt := 60) dL_touchy_56 (by decide) ?_
            refine b_iret dL_touchy_60 rfl ⟨?_, ?_⟩
            · rw [← lT_eq kd (by omega) h (by omega) h1]; simp only [lT, if_neg h14, if_neg h29, if_pos h34, if_pos h45, if_neg h50]
            · rfl
      · refine b_iconst (v := 1) dL_touchy_37 (by decide) ?_
        refine b_istore_n dL_touchy_38 (by decide) ?_
        refine b_aload_n dL_touchy_39 rfl ?_
        refine b_iconst (v := 3) dL_touchy_40 (by decide) ?_
        refine b_iload_n dL_touchy_41 rfl ?_
        refine b_iadd dL_touchy_42 ?_
        refine b_topi (y := nI (3 + p)) (nI_add 3 p) ?_
        refine b_ialdN dL_touchy_43 rfl ⟨by omega, by decide⟩ ?_
        refine b_topi (y := nI kd) ek ?_
        refine b_iconst (v := 2) dL_touchy_44 (by decide) ?_
        refine b_icmp_ne (tgt := 59) dL_touchy_45 (by decide) (fun h45 => ?_) (fun h45 => ?_)
        · refine b_iload_n dL_touchy_59 rfl ?_
          refine b_iret dL_touchy_60 rfl ⟨?_, ?_⟩
          · rw [← lT_eq kd (by omega) h (by omega) h1]; simp only [lT, if_neg h14, if_neg h29, if_neg h34, if_neg h45]
          · rfl
        · refine b_iload_n dL_touchy_48 rfl ?_
          refine b_iconst (v := 1) dL_touchy_49 (by decide) ?_
          refine b_icmp_le (tgt := 59) dL_touchy_50 (by decide) (fun h50 => ?_) (fun h50 => absurd h50 (by decide))
          refine b_iload_n dL_touchy_59 rfl ?_
          refine b_iret dL_touchy_60 rfl ⟨?_, ?_⟩
          · rw [← lT_eq kd (by omega) h (by omega) h1]; simp only [lT, if_neg h14, if_neg h29, if_neg h34, if_pos h45]
          · rfl

/-- the persons of the law's row beside a world of the reference's form -/
def gPn (n : Nat) (W u : kW) : Prop := Pn n u ∧ (∀ p, p < n → W.1 39 (3 + p) = u.1 4 p ∧ W.1 39 (9 + p) = u.1 5 p) ∧ (∀ k, k < 2 * n → W.1 39 (15 + k) = u.1 6 k) ∧ ∀ p, p < n → (bt (W.1 39 2) p = false ↔ u.1 7 p = 0)
theorem gPn.frd {n k : Nat} {W u : kW} (h : gPn n W u) (hk : k < 2 * n) : W.1 39 (15 + k) = nI (fr u k) ∧ fr u k < n := ⟨(h.2.2.1 k hk).trans (h.1.frd hk).2, (h.1.frd hk).1⟩
def lx (u : kW) (p k : Nat) : Nat := if k < 2 then fr u (2 * p + k) else fr u (2 * fr u (2 * p + (k - 2) / 2) + k % 2)
abbrev lMay (W : kW) (x : Nat) (p other busy dawn : Int32) : Prop := ¬ nI x = p ∧ ¬ nI x = other ∧ bt busy x = false ∧ bt (W.1 39 2) x = false ∧ W.1 41 (8 + x) ≤ dawn
def lSec (W u : kW) (p : Nat) (other busy dawn : Int32) : Option Nat := (mCh u p).find? (fun x => decide (lMay W x (nI p) other busy dawn))
theorem lx_lt {n p k : Nat} {W u : kW} (h : gPn n W u) (hp : p < n) (hk : k < 6) : lx u p k < n := by
  unfold lx
  split
  · exact (h.frd (by omega)).2
  · exact (h.frd (by have := (h.frd (k := 2 * p + (k - 2) / 2) (by omega)).2; omega)).2
theorem mCh_lx (u : kW) (p : Nat) : mCh u p = [lx u p 0, lx u p 1, lx u p 2, lx u p 3, lx u p 4, lx u p 5] := rfl

set_option maxRecDepth 100000 in
set_option maxHeartbeats 1000000 in
theorem s_L_second_it {W u : kW} {n p k : Nat} {other busy dawn : Int32} (hL : gPn n W u) (hp : p < n) (hk : k < 6) (kr : lMay W (lx u p k) (nI p) other busy dawn → lSec W u p other busy dawn = some (lx u p k)) (kk : ¬ lMay W (lx u p k) (nI p) other busy dawn → BS shL RL cL_second 8 (some .int) 0 0 (fun r w' => r = some (.int (oI (lSec W u p other busy dawn))) ∧ W = w') 3 [(0, .ref 39), (1, .int (nI p)), (2, .int other), (3, .int busy), (4, .int dawn), (5, .ref 41), (6, .int (nI (k + 1)))] [] W) : BS shL RL cL_second 8 (some .int) 0 0 (fun r w' => r = some (.int (oI (lSec W u p other busy dawn))) ∧ W = w') 3 [(0, .ref 39), (1, .int (nI p)), (2, .int other), (3, .int busy), (4, .int dawn), (5, .ref 41), (6, .int (nI k))] [] W := by
  have hn6 := hL.1.le
  have hx6 := lx_lt hL hp hk
  refine b_iload dL_second_3 rfl ?_
  refine b_bipush (v := 6) dL_second_5 (by decide) ?_
  refine b_icmp_ge (tgt := 113) dL_second_7 (by decide) (fun h7 => ?_) (fun h7 => ?_)
  · exact absurd h7 (nI_ge (b := 6) (by omega) (by omega))
  · refine b_iload dL_second_10 rfl ?_
    refine b_iconst (v := 2) dL_second_12 (by decide) ?_
    refine b_icmp_ge (tgt := 30) dL_second_13 (by decide) (fun h13 => ?_) (fun h13 => ?_)
    · have hk2 : ¬ k < 2 := fun z => nI_ge (b := 2) z (by omega) h13
      have hf := hL.frd (k := 2 * p + (k - 2) / 2) (by omega)
      refine b_aload_n dL_second_30 rfl ?_
      refine b_bipush (v := 15) dL_second_31 (by decide) ?_
      refine b_iconst (v := 2) dL_second_33 (by decide) ?_
      refine b_aload_n dL_second_34 rfl ?_
      refine b_bipush (v := 15) dL_second_35 (by decide) ?_
      refine b_iconst (v := 2) dL_second_37 (by decide) ?_
      refine b_iload_n dL_second_38 rfl ?_
      refine b_imul dL_second_39 ?_
      refine b_topi (y := nI (2 * p)) (nI_two p) ?_
      refine b_iadd dL_second_40 ?_
      refine b_topi (y := nI (15 + 2 * p)) (nI_add 15 _) ?_
      refine b_iload dL_second_41 rfl ?_
      refine b_iconst (v := 2) dL_second_43 (by decide) ?_
      refine b_isub dL_second_44 ?_
      refine b_topi (y := nI (k - 2)) (nI_sub (b := 2) (by omega)) ?_
      refine b_iconst (v := 2) dL_second_45 (by decide) ?_
      refine b_idiv dL_second_46 (by decide) ?_
      refine b_topi (y := nI ((k - 2) / 2)) (nI_div (b := 2) (by omega) (by omega)) ?_
      refine b_iadd dL_second_47 ?_
      refine b_topi (y := nI (15 + 2 * p + (k - 2) / 2)) (nI_add _ _) ?_
      refine b_ialdN dL_second_48 rfl ⟨by omega, by decide⟩ ?_
      refine b_topi (y := nI (fr u (2 * p + (k - 2) / 2))) (by rw [Nat.add_assoc]; exact hf.1) ?_
      refine b_imul dL_second_49 ?_
      refine b_topi (y := nI (2 * fr u (2 * p + (k - 2) / 2))) (nI_two _) ?_
      refine b_iadd dL_second_50 ?_
      refine b_topi (y := nI (15 + 2 * fr u (2 * p + (k - 2) / 2))) (nI_add 15 _) ?_
      refine b_iload dL_second_51 rfl ?_
      refine b_iconst (v := 2) dL_second_53 (by decide) ?_
      refine b_irem dL_second_54 (by decide) ?_
      refine b_topi (y := nI (k % 2)) (nI_rem (b := 2) (by omega) (by omega)) ?_
      refine b_iadd dL_second_55 ?_
      refine b_topi (y := nI (15 + 2 * fr u (2 * p + (k - 2) / 2) + k % 2)) (nI_add _ _) ?_
      refine b_ialdN dL_second_56 rfl ⟨by omega, by decide⟩ ?_
      refine b_topi (y := nI (lx u p k)) (by rw [lx, if_neg hk2, Nat.add_assoc]; exact (hL.frd (by omega)).1) ?_
      refine b_istore dL_second_57 (by decide) ?_
      refine b_iload dL_second_59 rfl ?_
      refine b_iload_n dL_second_61 rfl ?_
      refine b_icmp_eq (tgt := 107) dL_second_62 (by decide) (fun h62 => ?_) (fun h62 => ?_)
      · refine b_iinc dL_second_107 rfl (nI_inc k) (by decide) ?_
        refine b_goto (tgt := 3) dL_second_110 (by decide) ?_
        refine b_sub [2, 3, 4, 5, 6, 7, 0] rfl ?_
        exact kk (fun z => z.1 h62)
      · refine b_iload dL_second_65 rfl ?_
        refine b_iload_n dL_second_67 rfl ?_
        refine b_icmp_eq (tgt := 107) dL_second_68 (by decide) (fun h68 => ?_) (fun h68 => ?_)
        · refine b_iinc dL_second_107 rfl (nI_inc k) (by decide) ?_
          refine b_goto (tgt := 3) dL_second_110 (by decide) ?_
          refine b_sub [2, 3, 4, 5, 6, 7, 0] rfl ?_
          exact kk (fun z => z.2.1 h68)
        · refine b_iload_n dL_second_71 rfl ?_
          refine b_iload dL_second_72 rfl ?_
          refine b_ishr dL_second_74 ?_
          refine b_iconst (v := 1) dL_second_75 (by decide) ?_
          refine b_iand dL_second_76 ?_
          refine b_if_ne (tgt := 107) dL_second_77 (by decide) (fun h77 => ?_) (fun h77 => ?_)
          · refine b_iinc dL_second_107 rfl (nI_inc k) (by decide) ?_
            refine b_goto (tgt := 3) dL_second_110 (by decide) ?_
            refine b_sub [2, 3, 4, 5, 6, 7, 0] rfl ?_
            exact kk (fun z => h77 ((bit_0 _ (by omega)).mpr z.2.2.1))
          · refine b_aload_n dL_second_80 rfl ?_
            refine b_iconst (v := 2) dL_second_81 (by decide) ?_
            refine b_ialdN dL_second_82 rfl ⟨by decide, by decide⟩ ?_
            refine b_iload dL_second_83 rfl ?_
            refine b_ishr dL_second_85 ?_
            refine b_iconst (v := 1) dL_second_86 (by decide) ?_
            refine b_iand dL_second_87 ?_
            refine b_if_ne (tgt := 107) dL_second_88 (by decide) (fun h88 => ?_) (fun h88 => ?_)
            · refine b_iinc dL_second_107 rfl (nI_inc k) (by decide) ?_
              refine b_goto (tgt := 3) dL_second_110 (by decide) ?_
              refine b_sub [2, 3, 4, 5, 6, 7, 0] rfl ?_
              exact kk (fun z => h88 ((bit_0 _ (by omega)).mpr z.2.2.2.1))
            · refine b_aload dL_second_91 rfl ?_
              refine b_bipush (v := 8) dL_second_93 (by decide) ?_
              refine b_iload dL_second_95 rfl ?_
              refine b_iadd dL_second_97 ?_
              refine b_topi (y := nI (8 + lx u p k)) (nI_add 8 _) ?_
              refine b_ialdN dL_second_98 rfl ⟨by omega, by decide⟩ ?_
              refine b_iload dL_second_99 rfl ?_
              refine b_icmp_gt (tgt := 107) dL_second_101 (by decide) (fun h101 => ?_) (fun h101 => ?_)
              · refine b_iinc dL_second_107 rfl (nI_inc k) (by decide) ?_
                refine b_goto (tgt := 3) dL_second_110 (by decide) ?_
                refine b_sub [2, 3, 4, 5, 6, 7, 0] rfl ?_
                exact kk (fun z => absurd z.2.2.2.2 (Int32.not_le.mpr h101))
              · refine b_iload dL_second_104 rfl ?_
                refine b_iret dL_second_106 rfl ⟨?_, rfl⟩
                have hkr := kr ⟨h62, h68, (bit_0 _ (by omega)).mp h77, (bit_0 _ (by omega)).mp h88, Int32.not_lt.mp h101⟩
                rw [hkr]
                rfl
    · have hk2 : k < 2 := Nat.not_le.mp (fun z => h13 (nI_le (a := 2) z (by omega)))
      refine b_aload_n dL_second_16 rfl ?_
      refine b_bipush (v := 15) dL_second_17 (by decide) ?_
      refine b_iconst (v := 2) dL_second_19 (by decide) ?_
      refine b_iload_n dL_second_20 rfl ?_
      refine b_imul dL_second_21 ?_
      refine b_topi (y := nI (2 * p)) (nI_two p) ?_
      refine b_iadd dL_second_22 ?_
      refine b_topi (y := nI (15 + 2 * p)) (nI_add 15 _) ?_
      refine b_iload dL_second_23 rfl ?_
      refine b_iadd dL_second_25 ?_
      refine b_topi (y := nI (15 + 2 * p + k)) (nI_add _ k) ?_
      refine b_ialdN dL_second_26 rfl ⟨by omega, by decide⟩ ?_
      refine b_topi (y := nI (lx u p k)) (by rw [lx, if_pos hk2, Nat.add_assoc]; exact (hL.frd (by omega)).1) ?_
      refine b_goto (tgt := 57) dL_second_27 (by decide) ?_
      refine b_istore dL_second_57 (by decide) ?_
      refine b_iload dL_second_59 rfl ?_
      refine b_iload_n dL_second_61 rfl ?_
      refine b_icmp_eq (tgt := 107) dL_second_62 (by decide) (fun h62 => ?_) (fun h62 => ?_)
      · refine b_iinc dL_second_107 rfl (nI_inc k) (by decide) ?_
        refine b_goto (tgt := 3) dL_second_110 (by decide) ?_
        refine b_sub [2, 3, 4, 5, 6, 7, 0] rfl ?_
        exact kk (fun z => z.1 h62)
      · refine b_iload dL_second_65 rfl ?_
        refine b_iload_n dL_second_67 rfl ?_
        refine b_icmp_eq (tgt := 107) dL_second_68 (by decide) (fun h68 => ?_) (fun h68 => ?_)
        · refine b_iinc dL_second_107 rfl (nI_inc k) (by decide) ?_
          refine b_goto (tgt := 3) dL_second_110 (by decide) ?_
          refine b_sub [2, 3, 4, 5, 6, 7, 0] rfl ?_
          exact kk (fun z => z.2.1 h68)
        · refine b_iload_n dL_second_71 rfl ?_
          refine b_iload dL_second_72 rfl ?_
          refine b_ishr dL_second_74 ?_
          refine b_iconst (v := 1) dL_second_75 (by decide) ?_
          refine b_iand dL_second_76 ?_
          refine b_if_ne (tgt := 107) dL_second_77 (by decide) (fun h77 => ?_) (fun h77 => ?_)
          · refine b_iinc dL_second_107 rfl (nI_inc k) (by decide) ?_
            refine b_goto (tgt := 3) dL_second_110 (by decide) ?_
            refine b_sub [2, 3, 4, 5, 6, 7, 0] rfl ?_
            exact kk (fun z => h77 ((bit_0 _ (by omega)).mpr z.2.2.1))
          · refine b_aload_n dL_second_80 rfl ?_
            refine b_iconst (v := 2) dL_second_81 (by decide) ?_
            refine b_ialdN dL_second_82 rfl ⟨by decide, by decide⟩ ?_
            refine b_iload dL_second_83 rfl ?_
            refine b_ishr dL_second_85 ?_
            refine b_iconst (v := 1) dL_second_86 (by decide) ?_
            refine b_iand dL_second_87 ?_
            refine b_if_ne (tgt := 107) dL_second_88 (by decide) (fun h88 => ?_) (fun h88 => ?_)
            · refine b_iinc dL_second_107 rfl (nI_inc k) (by decide) ?_
              refine b_goto (tgt := 3) dL_second_110 (by decide) ?_
              refine b_sub [2, 3, 4, 5, 6, 7, 0] rfl ?_
              exact kk (fun z => h88 ((bit_0 _ (by omega)).mpr z.2.2.2.1))
            · refine b_aload dL_second_91 rfl ?_
              refine b_bipush (v := 8) dL_second_93 (by decide) ?_
              refine b_iload dL_second_95 rfl ?_
              refine b_iadd dL_second_97 ?_
              refine b_topi (y := nI (8 + lx u p k)) (nI_add 8 _) ?_
              refine b_ialdN dL_second_98 rfl ⟨by omega, by decide⟩ ?_
              refine b_iload dL_second_99 rfl ?_
              refine b_icmp_gt (tgt := 107) dL_second_101 (by decide) (fun h101 => ?_) (fun h101 => ?_)
              · refine b_iinc dL_second_107 rfl (nI_inc k) (by decide) ?_
                refine b_goto (tgt := 3) dL_second_110 (by decide) ?_
                refine b_sub [2, 3, 4, 5, 6, 7, 0] rfl ?_
                exact kk (fun z => absurd z.2.2.2.2 (Int32.not_le.mpr h101))
              · refine b_iload dL_second_104 rfl ?_
                refine b_iret dL_second_106 rfl ⟨?_, rfl⟩
                have hkr := kr ⟨h62, h68, (bit_0 _ (by omega)).mp h77, (bit_0 _ (by omega)).mp h88, Int32.not_lt.mp h101⟩
                rw [hkr]
                rfl

set_option maxRecDepth 100000 in
set_option maxHeartbeats 1000000 in
theorem s_L_second {W u : kW} {n p : Nat} {other busy dawn : Int32} (hL : gPn n W u) (hp : p < n) : Spec shL yL_second cL_second 8 (some .int) 0 0 [.ref 39, .int (nI p), .int other, .int busy, .int dawn, .ref 41] W (fun r w' => r = some (.int (oI (lSec W u p other busy dawn))) ∧ W = w') := by
  refine k_enter pn_L (Nat.le_of_ble_eq_true rfl) ?_
  refine b_iconst (v := 0) dL_second_0 (by decide) ?_
  refine b_istore dL_second_1 (by decide) ?_
  refine b_sub [1, 2, 3, 4, 5, 6, 0] rfl ?_
  have e : lSec W u p other busy dawn = _ := congrArg (List.find? _) (mCh_lx u p)
  refine s_L_second_it (k := 0) hL hp (by decide) (fun h => e.trans (fr_stop (decide_eq_true h))) (fun h0 => ?_)
  rw [fr_step (decide_eq_false h0)] at e
  refine s_L_second_it (k := 1) hL hp (by decide) (fun h => e.trans (fr_stop (decide_eq_true h))) (fun h1 => ?_)
  rw [fr_step (decide_eq_false h1)] at e
  refine s_L_second_it (k := 2) hL hp (by decide) (fun h => e.trans (fr_stop (decide_eq_true h))) (fun h2 => ?_)
  rw [fr_step (decide_eq_false h2)] at e
  refine s_L_second_it (k := 3) hL hp (by decide) (fun h => e.trans (fr_stop (decide_eq_true h))) (fun h3 => ?_)
  rw [fr_step (decide_eq_false h3)] at e
  refine s_L_second_it (k := 4) hL hp (by decide) (fun h => e.trans (fr_stop (decide_eq_true h))) (fun h4 => ?_)
  rw [fr_step (decide_eq_false h4)] at e
  refine s_L_second_it (k := 5) hL hp (by decide) (fun h => e.trans (fr_stop (decide_eq_true h))) (fun h5 => ?_)
  rw [fr_step (decide_eq_false h5)] at e
  refine b_iload dL_second_3 rfl ?_
  refine b_bipush (v := 6) dL_second_5 (by decide) ?_
  refine b_icmp_ge (tgt := 113) dL_second_7 (by decide) (fun h => ?_) (fun h => absurd (by decide) h)
  refine b_bipush (v := (-9)) dL_second_113 (by decide) ?_
  exact b_iret dL_second_115 rfl ⟨by rw [e]; rfl, rfl⟩
