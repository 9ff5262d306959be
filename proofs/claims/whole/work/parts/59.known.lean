set_option maxRecDepth 100000 in
set_option maxHeartbeats 4000000 in
theorem nst_in : ∀ q ∈ nst, Cond.methodLinkNest q.1 q.2.1 q.2.2.1 q.2.2.2 ∈ lw_tbl := List.forall_mem_cons.mpr ⟨(List.mem_append_right _ (show _ ∈ tables_1 from List.mem_append_left _ (List.mem_of_getElem? (i := 24) rfl))), List.forall_mem_cons.mpr ⟨(List.mem_append_right _ (show _ ∈ tables_1 from List.mem_append_left _ (List.mem_of_getElem? (i := 92) rfl))), List.forall_mem_cons.mpr ⟨(List.mem_append_right _ (show _ ∈ tables_1 from List.mem_append_left _ (List.mem_of_getElem? (i := 119) rfl))), List.forall_mem_cons.mpr ⟨(List.mem_append_right _ (show _ ∈ tables_1 from List.mem_append_left _ (List.mem_of_getElem? (i := 176) rfl))), List.forall_mem_cons.mpr ⟨(List.mem_append_right _ (show _ ∈ tables_1 from List.mem_append_right _ (List.mem_append_left _ (List.mem_of_getElem? (i := 88) rfl)))), List.forall_mem_cons.mpr ⟨(List.mem_append_right _ (show _ ∈ tables_1 from List.mem_append_right _ (List.mem_append_left _ (List.mem_of_getElem? (i := 100) rfl)))), List.forall_mem_cons.mpr ⟨(List.mem_append_right _ (show _ ∈ tables_1 from List.mem_append_right _ (List.mem_append_left _ (List.mem_of_getElem? (i := 110) rfl)))), List.forall_mem_cons.mpr ⟨(List.mem_append_right _ (show _ ∈ tables_1 from List.mem_append_right _ (List.mem_append_left _ (List.mem_of_getElem? (i := 167) rfl)))), List.forall_mem_cons.mpr ⟨(List.mem_append_right _ (show _ ∈ tables_1 from List.mem_append_right _ (List.mem_append_left _ (List.mem_of_getElem? (i := 197) rfl)))), fun _ h => absurd h List.not_mem_nil⟩⟩⟩⟩⟩⟩⟩⟩⟩

theorem ao_in : Cond.arrayOver (.object "DuelSeconds$Sheet") ∈ lw_tbl := (List.mem_append_right _ (show _ ∈ tables_1 from List.mem_append_left _ (List.mem_of_getElem? (i := 174) rfl)))

theorem aoa_in : Cond.arrayOver (.array .int) ∈ lw_tbl := (List.mem_append_right _ (show _ ∈ tables_1 from List.mem_append_left _ (List.mem_of_getElem? (i := 124) rfl)))

set_option maxRecDepth 100000 in
set_option maxHeartbeats 4000000 in
theorem lw_known {p : Program} {s : State} {m : MethodId} {meth : Method} {c : Code} {b L0 : Nat} {xs : Nat → Int32} (C0 : lw_At p s m meth c b L0 xs) : ∃ (D : va_G) (ca : Nat → ClassId), k_K D ca s ∧ k_O s := by
  obtain ⟨hx, hb, hr, hml, hown, hts0, hX, hbl, hlocks, hgv⟩ := C0
  have hts : ∀ w ∈ cw, w.before #[Value.ref b] s = true := fun w hw => hts0 w (cw_in hw)
  obtain ⟨c0, i0, K0⟩ := u_known (C := RX0) (T := TX0) (N := 5) (n := 5) hts in_X0 (hts _ (cw_1 63 rfl rfl))
  obtain ⟨c1, i1, K1⟩ := u_known (C := RX1) (T := TX1) (N := 2) (n := 2) hts in_X1 (hts _ (cw_1 118 rfl rfl))
  obtain ⟨c2, i2, K2⟩ := u_known (C := RX2) (T := TX2) (N := 6) (n := 6) hts in_X2 (hts _ (cw_1 23 rfl rfl))
  obtain ⟨c3, i3, K3⟩ := u_known (C := RX3) (T := TX3) (N := 4) (n := 4) hts in_X3 (hts _ (cw_1 91 rfl rfl))
  obtain ⟨c4, i4, K4⟩ := u_known (C := RX4) (T := TX4) (N := 11) (n := 11) hts in_X4 (hts _ (cw_1 112 rfl rfl))
  obtain ⟨c5, i5, K5⟩ := u_known (C := RX5) (T := TX5) (N := 4) (n := 4) hts in_X5 (hts _ (cw_1 175 rfl rfl))
  obtain ⟨c6, i6, K6⟩ := u_known (C := RX7) (T := TX7) (N := 7) (n := 7) hts in_X7 (hts _ (cw_1 15 rfl rfl))
  obtain ⟨c7, i7, K7⟩ := u_known (C := RX8) (T := TX8) (N := 39) (n := 39) hts in_X8 (hts _ (cw_3 56 rfl rfl))
  obtain ⟨dC, dI, hKc⟩ : ∃ (dC : Nat → ClassId) (dI : Nat → Nat → Nat), ∀ (k : Nat) (q : vw_C), vwCl[k]? = some q → u_Kn s q.1 q.2.1 q.2.2 (dC k) (dI k) := by
    refine ⟨fun k => match k with | 0 => c0 | 1 => c1 | 2 => c2 | 3 => c3 | 4 => c4 | 5 => c5 | 6 => c6 | 7 => c7 | _ => c0, fun k => match k with | 0 => i0 | 1 => i1 | 2 => i2 | 3 => i3 | 4 => i4 | 5 => i5 | 6 => i6 | 7 => i7 | _ => i0, ?_⟩
    intro k q hq
    match k, hq with
    | 0, hq => cases hq; exact K0
    | 1, hq => cases hq; exact K1
    | 2, hq => cases hq; exact K2
    | 3, hq => cases hq; exact K3
    | 4, hq => cases hq; exact K4
    | 5, hq => cases hq; exact K5
    | 6, hq => cases hq; exact K6
    | 7, hq => cases hq; exact K7
    | k + 8, hq => simp [vwCl] at hq
  have hAO : va_AO "DuelSeconds$Sheet" s := hts0 _ ao_in
  have hAA : va_AOA .int s := hts0 _ aoa_in
  obtain ⟨a0, k0, m0, f0, g0, e0⟩ := Cond.arrayClass_spec (hts _ aw_int)
  obtain ⟨a1, k1, m1, f1, g1, e1⟩ := Cond.arrayClass_spec (hts _ aw_bool)
  obtain ⟨m2, a2, k2, f2, _, g2, e2, j2⟩ := Cond.arrayOver_spec hAO
  obtain ⟨m3, a3, k3, f3, _, g3, e3, j3⟩ := arrayOverA_spec hAA
  refine ⟨(dC, dI), fun t => match t with | 0 => a0 | 1 => a1 | 2 => a2 | _ => a3, ⟨⟨hKc, fun k q hk => ?_⟩, fun q hq => va_Nw.of rfl (hts0 _ (nst_in q hq))⟩, hAO, hAA⟩
  match k, hk with
  | 0, hk => cases hk; exact ⟨fun n z => ⟨fun k h => (by cases h), k0, g0, m0, e0⟩, f0⟩
  | 1, hk => cases hk; exact ⟨fun n z => ⟨fun k h => (by cases h), k1, g1, m1, e1⟩, f1⟩
  | 2, hk => cases hk; exact ⟨fun n z => ⟨fun k h => (by cases h), k2, g2, m2, e2⟩, k2, m2, g2, e2, f2, j2⟩
  | 3, hk => cases hk; exact ⟨fun n z => ⟨fun k h => (by cases h), k3, g3, m3, e3⟩, j3⟩
  | k + 4, hk => simp [k_tys] at hk
