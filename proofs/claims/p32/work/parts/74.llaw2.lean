/-! ===== a row of seconds, laid by the law ===== -/
def gRw (n c k t : Nat) (ps : Nat → Nat) (g : kW) : Prop := (∀ s, s < k → ps s < n ∧ g.1 3 (52 + s) = nI (ps s)) ∧ t ≤ k ∧ (∀ s, s < t → fr1 n c g (ps s) s) ∧ (t < k → ¬ fr1 n c g (ps t) t)
theorem gRw.up {n c k t p : Nat} {ps : Nat → Nat} {W g : kW} (h : gL n c W g) (hr : gRw n c k t ps g) (hp : p < n) (hk : k < 9) (hx : gAx g (kset (kset g 0 0 0) 3 (50 + (2 + k)) (nI p))) : (t < k → gRw n c (k + 1) t (fun s => if s = k then p else ps s) (kset (kset g 0 0 0) 3 (50 + (2 + k)) (nI p))) ∧ (t = k → fr1 n c (kset (kset g 0 0 0) 3 (50 + (2 + k)) (nI p)) p k → gRw n c (k + 1) (k + 1) (fun s => if s = k then p else ps s) (kset (kset g 0 0 0) 3 (50 + (2 + k)) (nI p))) ∧ (t = k → ¬ fr1 n c (kset (kset g 0 0 0) 3 (50 + (2 + k)) (nI p)) p k → gRw n c (k + 1) k (fun s => if s = k then p else ps s) (kset (kset g 0 0 0) 3 (50 + (2 + k)) (nI p))) := by
  obtain ⟨h1, h2, h3, h4⟩ := hr
  have hc : ∀ s, s < k + 1 → (if s = k then p else ps s) < n ∧ (kset (kset g 0 0 0) 3 (50 + (2 + k)) (nI p)).1 3 (52 + s) = nI (if s = k then p else ps s) := fun s hs => by
    by_cases e : s = k
    · subst e
      rw [if_pos rfl, show 50 + (2 + s) = 52 + s by omega, kset_eq]
      exact ⟨hp, rfl⟩
    · rw [if_neg e, kset_ne _ _ (by omega), kset_ne _ _ (by omega)]
      exact h1 s (by omega)
  have hf : ∀ s, s < t → fr1 n c (kset (kset g 0 0 0) 3 (50 + (2 + k)) (nI p)) (if s = k then p else ps s) s := fun s hs => by
    rw [if_neg (by omega)]
    exact (fr1_ax h hx (h1 s (by omega)).1 (by omega)).mpr (h3 s hs)
  refine ⟨fun ht => ⟨hc, by omega, hf, fun _ => ?_⟩, fun ht hy => ⟨hc, Nat.le_refl _, fun s hs => ?_, fun z => absurd z (Nat.lt_irrefl _)⟩, fun ht hy => ⟨hc, by omega, by subst ht; exact hf, fun _ => ?_⟩⟩
  · show ¬ fr1 n c _ (if t = k then p else ps t) t
    rw [if_neg (by omega)]
    exact fun z => h4 ht ((fr1_ax h hx (h1 t ht).1 (by omega)).mp z)
  · by_cases e : s = k
    · subst e
      show fr1 n c _ (if s = s then p else ps s) s
      rw [if_pos rfl]; exact hy
    · exact hf s (by omega)
  · show ¬ fr1 n c _ (if k = k then p else ps k) k
    rw [if_pos rfl]; exact hy
theorem gRw.fst {n c m t : Nat} {ps : Nat → Nat} {W g : kW} (h : gL n c W g) (hr : gRw n c m t ps g) (hm : m ≤ 9) : FstP (frAt n c g (txt g 1 2)) m t := by
  obtain ⟨h1, h2, h3, h4⟩ := hr
  have hl := h.le
  have key : ∀ s, s < m → (frAt n c g (txt g 1 2) s ↔ fr1 n c g (ps s) s) := fun s hs => by
    unfold frAt
    rw [txt_1, (h1 s hs).2, dn_nI (by have := (h1 s hs).1; omega)]
    exact mFree_fr1 h (by omega)
  exact ⟨h2, fun s hs => (key s (by omega)).mpr (h3 s hs), fun ht z => h4 ht ((key t ht).mp z)⟩

set_option maxRecDepth 100000 in
set_option maxHeartbeats 1000000 in
theorem law_656 {n c tn mm : Nat} (htn : tn < 4) (hmm : mm < 9) (kk : ∀ (W g : kW), gL n c W g → gS1 g → LJ room_1 1004 10106 true lawQ shL RL code 15 (some .boolean) 793 [(0, .ref 1000), (1, .ref 0), (2, .ref 39), (4, .int (nI n)), (5, .ref 40), (6, .ref 41), (7, .ref 42), (8, .int (nI tn))] [] W) : ∀ q k, k + q = mm → ∀ (W g : kW) (t : Nat) (ps : Nat → Nat), gL n c W g → gS1 g → gRw n c k t ps g → LJ room_1 1004 10106 true lawQ shL RL code 15 (some .boolean) 656 [(0, .ref 1000), (1, .ref 0), (2, .ref 39), (4, .int (nI n)), (5, .ref 40), (6, .ref 41), (7, .ref 42), (8, .int (nI tn)), (10, .int (nI mm)), (11, .int (nI t)), (12, .int (if t = k then 1 else 0)), (13, .int (nI k))] [] W := by
  intro q
  induction q with
  | zero =>
    intro k hk W g t ps h S hr
    have hl := h.le
    have e : k = mm := by omega
    obtain ⟨qq, hq⟩ := h.1
    have hr2 : gRw n c mm t ps g := by rw [← e]; exact hr
    have ht9 := hr.2.1
    refine l_iload dL_law_656 rfl ?_
    refine l_iload dL_law_658 rfl ?_
    refine l_icmp_ge (tgt := 777) dL_law_660 (by decide) (fun h660 => ?_) (fun h660 => ?_)
    · refine l_aload_n dL_law_777 rfl ?_
      refine l_iconst (v := 1) dL_law_778 (by decide) ?_
      refine l_iconst (v := 1) dL_law_779 (by decide) ?_
      refine l_iconst (v := 2) dL_law_780 (by decide) ?_
      refine l_iload dL_law_781 rfl ?_
      refine l_callV4 ⟨Nat.le_of_ble_eq_true rfl, Nat.le_of_ble_eq_true rfl⟩ dL_law_783 lk_L_82 rfl rfl rfl ⟨Nat.le_of_ble_eq_true rfl, Nat.le_of_ble_eq_true rfl⟩ (Nat.le_of_ble_eq_true rfl) (Spec.up (s_X7_row hq)) (fun r w783 h783 => ?_)
      obtain ⟨v, f, hv, rfl, hr3, hk3⟩ := up_R hq h783
      have ev : v = nI t := rowT (t := t) hv (show isS 1 from ⟨by decide, by decide⟩) (show isT 1 from ⟨by decide, by decide⟩) (mAg_1 (m := mm) S (by omega)) h.n0 (fun s hs => by rw [dn_nI (by omega)] at hs; rw [txt_1, (hr2.1 s hs).2]; exact h.isP (hr2.1 s hs).1) (by rw [dn_nI (by omega)]; exact hr2.fst h (by omega))
      rw [ev]
      have h := h.aux gAx.flt hr3 hk3
      have S := S.flt (f := f)
      refine l_iload dL_law_786 rfl ?_
      refine l_icmp_eq (tgt := 793) dL_law_788 (by decide) (fun h788 => ?_) (fun h788 => ?_)
      · refine l_sub [0, 1, 2, 3, 4, 5, 6, 7] rfl ?_
        exact kk _ _ h S
      · exact absurd rfl h788
    · exact absurd (nI_le (by omega) (by omega)) h660
  | succ q ih =>
    intro k hk W g t ps h S hr
    have hl := h.le
    have hn2 := h.2.2.2.2.2
    have ht9 := hr.2.1
    obtain ⟨qq, hq⟩ := h.1
    by_cases ht : t = k
    · rw [if_pos ht]
      refine l_iload dL_law_656 rfl ?_
      refine l_iload dL_law_658 rfl ?_
      refine l_icmp_ge (tgt := 777) dL_law_660 (by decide) (fun h660 => ?_) (fun h660 => ?_)
      · exact absurd h660 (nI_ge (by omega) (by omega))
      · refine l_aload_n dL_law_663 rfl ?_
        refine l_bipush (v := 12) dL_law_664 (by decide) ?_
        refine l_iload dL_law_666 rfl ?_
        refine l_iadd dL_law_668 ?_
        refine l_topi (y := nI (12 + tn)) (nI_add 12 tn) ?_
        refine l_callX2 ⟨Nat.le_of_ble_eq_true rfl, Nat.le_of_ble_eq_true rfl⟩ dL_law_669 lk_L_9 ⟨Nat.le_of_ble_eq_true rfl, Nat.le_of_ble_eq_true rfl⟩ (Nat.le_of_ble_eq_true rfl) (s_L_cell (j := 12 + tn) (by omega)) (fun r w669 h669 => ?_)
        obtain ⟨rfl, x669, rfl⟩ := h669
        refine l_iconst (v := 3) dL_law_672 (by decide) ?_
        refine l_iload dL_law_673 rfl ?_
        refine l_iadd dL_law_675 ?_
        refine l_ishr dL_law_676 ?_
        refine l_iload dL_law_677 rfl ?_
        refine l_callS2 ⟨Nat.le_of_ble_eq_true rfl, Nat.le_of_ble_eq_true rfl⟩ dL_law_679 lk_L_15 ⟨Nat.le_of_ble_eq_true rfl, Nat.le_of_ble_eq_true rfl⟩ (Nat.le_of_ble_eq_true rfl) (s_L_some (N := n) (by omega) (by omega)) (fun r w679 h679 => ?_)
        obtain ⟨rfl, p, hp, rfl⟩ := h679
        refine l_istore dL_law_682 (by decide) ?_
        refine l_aload_n dL_law_684 rfl ?_
        refine l_iconst (v := 1) dL_law_685 (by decide) ?_
        refine l_iconst (v := 2) dL_law_686 (by decide) ?_
        refine l_iload dL_law_687 rfl ?_
        refine l_iadd dL_law_689 ?_
        refine l_topi (y := nI (2 + k)) (nI_add 2 k) ?_
        refine l_iload dL_law_690 rfl ?_
        refine l_callV3 ⟨Nat.le_of_ble_eq_true rfl, Nat.le_of_ble_eq_true rfl⟩ dL_law_692 lk_L_25 rfl rfl rfl ⟨Nat.le_of_ble_eq_true rfl, Nat.le_of_ble_eq_true rfl⟩ (Nat.le_of_ble_eq_true rfl) (Spec.up (s_X7_put hq)) (fun r w692 h692 => ?_)
        obtain ⟨rfl, ⟨n9, c9, q9, hr9⟩, hk9⟩ := up_Q h692
        have eR := R_put_1 S (i := 2 + k) (v := p) (by omega) (by omega)
        rw [eR] at hr9 ⊢
        have hS2 := S.put (i := 50 + (2 + k)) (v := nI p)
        have hu := hr.up h hp (by omega) hS2.2
        have h := h.aux hS2.2 hr9 hk9
        refine l_topi (y := 1) rfl ?_
        refine l_iconst (v := 1) dL_law_695 (by decide) ?_
        refine l_icmp_eq (tgt := 701) dL_law_696 (by decide) (fun h696 => ?_) (fun h696 => absurd h696 (by decide))
        refine l_aload_n dL_law_701 rfl ?_
        refine l_aload dL_law_702 rfl ?_
        refine l_aload_n dL_law_704 rfl ?_
        refine l_iconst (v := 1) dL_law_705 (by decide) ?_
        refine l_ialdN dL_law_706 rfl ⟨by decide, by decide⟩ ?_
        refine l_topi (y := nI c) h.2.2.2.2.1 ?_
        refine l_iconst (v := 0) dL_law_707 (by decide) ?_
        refine l_iload dL_law_708 rfl ?_
        refine l_iconst (v := 1) dL_law_710 (by decide) ?_
        refine l_isub dL_law_711 ?_
        refine l_iconst (v := (-1)) dL_law_712 (by decide) ?_
        refine l_aload dL_law_713 rfl ?_
        refine l_aload dL_law_715 rfl ?_
        refine l_callS8 ⟨Nat.le_of_ble_eq_true rfl, Nat.le_of_ble_eq_true rfl⟩ dL_law_717 lk_L_61 ⟨Nat.le_of_ble_eq_true rfl, Nat.le_of_ble_eq_true rfl⟩ (Nat.le_of_ble_eq_true rfl) (s_L_go (n := n) (D := k) (by omega) h.2.1 h.2.2.1 h.ins0.1 (fun k _ => by rw [h.ins0.2.2]) (by omega) rfl) (fun r w717 h717 => ?_)
        obtain ⟨rfl, hkp, m9, -, -, -, -, hw9, -⟩ := h717
        have h := h.sea hkp
        have hb9 := h.2.1.2.2.2 p hp
        have hw := hw9 p hp
        refine l_iload dL_law_720 rfl ?_
        refine l_if_eq (tgt := 753) dL_law_722 (by decide) (fun h722 => absurd h722 (by decide)) (fun h722 => ?_)
        refine l_aload_n dL_law_725 rfl ?_
        refine l_iconst (v := 2) dL_law_726 (by decide) ?_
        refine l_ialdN dL_law_727 rfl ⟨by decide, by decide⟩ ?_
        refine l_iload dL_law_728 rfl ?_
        refine l_ishr dL_law_730 ?_
        refine l_iconst (v := 1) dL_law_731 (by decide) ?_
        refine l_iand dL_law_732 ?_
        refine l_if_ne (tgt := 753) dL_law_733 (by decide) (fun h733 => ?_) (fun h733 => ?_)
        · refine l_iconst (v := 0) dL_law_753 (by decide) ?_
          refine l_istore dL_law_754 (by decide) ?_
          refine l_iload dL_law_756 rfl ?_
          refine l_iload dL_law_758 rfl ?_
          refine l_if_eq (tgt := 767) dL_law_760 (by decide) (fun h760 => ?_) (fun h760 => absurd h760 (by decide))
          refine l_iconst (v := 0) dL_law_767 (by decide) ?_
          refine l_iadd dL_law_768 ?_
          refine l_topi (y := nI t) (Int32.add_zero _) ?_
          refine l_istore dL_law_769 (by decide) ?_
          refine l_iinc dL_law_771 rfl (nI_inc k) (by decide) ?_
          refine l_goto (tgt := 656) dL_law_774 (by decide) ?_
          refine l_sub [4, 5, 6, 7, 8, 9, 10, 11, 12, 1, 2, 0] rfl ?_
          have hy : ¬ fr1 n c _ p k := fun z => h733 ((bit_0 _ (by omega)).mpr (hb9.mpr z.1))
          have := ih (k + 1) (by omega) _ _ k _ h hS2.1 (hu.2.2 ht hy)
          rw [if_neg (by omega)] at this
          rw [ht]
          exact this
        · refine l_aload dL_law_736 rfl ?_
          refine l_bipush (v := 8) dL_law_738 (by decide) ?_
          refine l_iload dL_law_740 rfl ?_
          refine l_iadd dL_law_742 ?_
          refine l_topi (y := nI (8 + p)) (nI_add 8 p) ?_
          refine l_ialdN dL_law_743 rfl ⟨by omega, by decide⟩ ?_
          refine l_topi (y := (mAhead n c _ k).1 15 p) hw ?_
          refine l_iload dL_law_744 rfl ?_
          refine l_icmp_gt (tgt := 753) dL_law_746 (by decide) (fun h746 => ?_) (fun h746 => ?_)
          · refine l_iconst (v := 0) dL_law_753 (by decide) ?_
            refine l_istore dL_law_754 (by decide) ?_
            refine l_iload dL_law_756 rfl ?_
            refine l_iload dL_law_758 rfl ?_
            refine l_if_eq (tgt := 767) dL_law_760 (by decide) (fun h760 => ?_) (fun h760 => absurd h760 (by decide))
            refine l_iconst (v := 0) dL_law_767 (by decide) ?_
            refine l_iadd dL_law_768 ?_
            refine l_topi (y := nI t) (Int32.add_zero _) ?_
            refine l_istore dL_law_769 (by decide) ?_
            refine l_iinc dL_law_771 rfl (nI_inc k) (by decide) ?_
            refine l_goto (tgt := 656) dL_law_774 (by decide) ?_
            refine l_sub [4, 5, 6, 7, 8, 9, 10, 11, 12, 1, 2, 0] rfl ?_
            have hy : ¬ fr1 n c _ p k := fun z => absurd h746 (Int32.not_lt.mpr z.2)
            have := ih (k + 1) (by omega) _ _ k _ h hS2.1 (hu.2.2 ht hy)
            rw [if_neg (by omega)] at this
            rw [ht]
            exact this
          · refine l_iconst (v := 1) dL_law_749 (by decide) ?_
            refine l_goto (tgt := 754) dL_law_750 (by decide) ?_
            refine l_istore dL_law_754 (by decide) ?_
            refine l_iload dL_law_756 rfl ?_
            refine l_iload dL_law_758 rfl ?_
            refine l_if_eq (tgt := 767) dL_law_760 (by decide) (fun h760 => absurd h760 (by decide)) (fun h760 => ?_)
            refine l_iconst (v := 1) dL_law_763 (by decide) ?_
            refine l_goto (tgt := 768) dL_law_764 (by decide) ?_
            refine l_iadd dL_law_768 ?_
            refine l_topi (y := nI (t + 1)) (nI_1 t) ?_
            refine l_istore dL_law_769 (by decide) ?_
            refine l_iinc dL_law_771 rfl (nI_inc k) (by decide) ?_
            refine l_goto (tgt := 656) dL_law_774 (by decide) ?_
            refine l_sub [4, 5, 6, 7, 8, 9, 10, 11, 12, 1, 2, 0] rfl ?_
            have hy : fr1 n c _ p k := ⟨hb9.mp ((bit_0 _ (by omega)).mp (by simpa using h733)), Int32.not_lt.mp h746⟩
            have := ih (k + 1) (by omega) _ _ (k + 1) _ h hS2.1 (hu.2.1 ht hy)
            rw [if_pos rfl] at this
            rw [ht]
            exact this
    · rw [if_neg ht]
      refine l_iload dL_law_656 rfl ?_
      refine l_iload dL_law_658 rfl ?_
      refine l_icmp_ge (tgt := 777) dL_law_660 (by decide) (fun h660 => ?_) (fun h660 => ?_)
      · exact absurd h660 (nI_ge (by omega) (by omega))
      · refine l_aload_n dL_law_663 rfl ?_
        refine l_bipush (v := 12) dL_law_664 (by decide) ?_
        refine l_iload dL_law_666 rfl ?_
        refine l_iadd dL_law_668 ?_
        refine l_topi (y := nI (12 + tn)) (nI_add 12 tn) ?_
        refine l_callX2 ⟨Nat.le_of_ble_eq_true rfl, Nat.le_of_ble_eq_true rfl⟩ dL_law_669 lk_L_9 ⟨Nat.le_of_ble_eq_true rfl, Nat.le_of_ble_eq_true rfl⟩ (Nat.le_of_ble_eq_true rfl) (s_L_cell (j := 12 + tn) (by omega)) (fun r w669 h669 => ?_)
        obtain ⟨rfl, x669, rfl⟩ := h669
        refine l_iconst (v := 3) dL_law_672 (by decide) ?_
        refine l_iload dL_law_673 rfl ?_
        refine l_iadd dL_law_675 ?_
        refine l_ishr dL_law_676 ?_
        refine l_iload dL_law_677 rfl ?_
        refine l_callS2 ⟨Nat.le_of_ble_eq_true rfl, Nat.le_of_ble_eq_true rfl⟩ dL_law_679 lk_L_15 ⟨Nat.le_of_ble_eq_true rfl, Nat.le_of_ble_eq_true rfl⟩ (Nat.le_of_ble_eq_true rfl) (s_L_some (N := n) (by omega) (by omega)) (fun r w679 h679 => ?_)
        obtain ⟨rfl, p, hp, rfl⟩ := h679
        refine l_istore dL_law_682 (by decide) ?_
        refine l_aload_n dL_law_684 rfl ?_
        refine l_iconst (v := 1) dL_law_685 (by decide) ?_
        refine l_iconst (v := 2) dL_law_686 (by decide) ?_
        refine l_iload dL_law_687 rfl ?_
        refine l_iadd dL_law_689 ?_
        refine l_topi (y := nI (2 + k)) (nI_add 2 k) ?_
        refine l_iload dL_law_690 rfl ?_
        refine l_callV3 ⟨Nat.le_of_ble_eq_true rfl, Nat.le_of_ble_eq_true rfl⟩ dL_law_692 lk_L_25 rfl rfl rfl ⟨Nat.le_of_ble_eq_true rfl, Nat.le_of_ble_eq_true rfl⟩ (Nat.le_of_ble_eq_true rfl) (Spec.up (s_X7_put hq)) (fun r w692 h692 => ?_)
        obtain ⟨rfl, ⟨n9, c9, q9, hr9⟩, hk9⟩ := up_Q h692
        have eR := R_put_1 S (i := 2 + k) (v := p) (by omega) (by omega)
        rw [eR] at hr9 ⊢
        have hS2 := S.put (i := 50 + (2 + k)) (v := nI p)
        have hu := hr.up h hp (by omega) hS2.2
        have h := h.aux hS2.2 hr9 hk9
        refine l_topi (y := 1) rfl ?_
        refine l_iconst (v := 1) dL_law_695 (by decide) ?_
        refine l_icmp_eq (tgt := 701) dL_law_696 (by decide) (fun h696 => ?_) (fun h696 => absurd h696 (by decide))
        refine l_aload_n dL_law_701 rfl ?_
        refine l_aload dL_law_702 rfl ?_
        refine l_aload_n dL_law_704 rfl ?_
        refine l_iconst (v := 1) dL_law_705 (by decide) ?_
        refine l_ialdN dL_law_706 rfl ⟨by decide, by decide⟩ ?_
        refine l_topi (y := nI c) h.2.2.2.2.1 ?_
        refine l_iconst (v := 0) dL_law_707 (by decide) ?_
        refine l_iload dL_law_708 rfl ?_
        refine l_iconst (v := 1) dL_law_710 (by decide) ?_
        refine l_isub dL_law_711 ?_
        refine l_iconst (v := (-1)) dL_law_712 (by decide) ?_
        refine l_aload dL_law_713 rfl ?_
        refine l_aload dL_law_715 rfl ?_
        refine l_callS8 ⟨Nat.le_of_ble_eq_true rfl, Nat.le_of_ble_eq_true rfl⟩ dL_law_717 lk_L_61 ⟨Nat.le_of_ble_eq_true rfl, Nat.le_of_ble_eq_true rfl⟩ (Nat.le_of_ble_eq_true rfl) (s_L_go (n := n) (D := k) (by omega) h.2.1 h.2.2.1 h.ins0.1 (fun k _ => by rw [h.ins0.2.2]) (by omega) rfl) (fun r w717 h717 => ?_)
        obtain ⟨rfl, hkp, m9, -, -, -, -, hw9, -⟩ := h717
        have h := h.sea hkp
        have hb9 := h.2.1.2.2.2 p hp
        have hw := hw9 p hp
        refine l_iload dL_law_720 rfl ?_
        refine l_if_eq (tgt := 753) dL_law_722 (by decide) (fun h722 => ?_) (fun h722 => absurd h722 (by decide))
        refine l_iconst (v := 0) dL_law_753 (by decide) ?_
        refine l_istore dL_law_754 (by decide) ?_
        refine l_iload dL_law_756 rfl ?_
        refine l_iload dL_law_758 rfl ?_
        refine l_if_eq (tgt := 767) dL_law_760 (by decide) (fun h760 => ?_) (fun h760 => absurd h760 (by decide))
        refine l_iconst (v := 0) dL_law_767 (by decide) ?_
        refine l_iadd dL_law_768 ?_
        refine l_topi (y := nI t) (Int32.add_zero _) ?_
        refine l_istore dL_law_769 (by decide) ?_
        refine l_iinc dL_law_771 rfl (nI_inc k) (by decide) ?_
        refine l_goto (tgt := 656) dL_law_774 (by decide) ?_
        refine l_sub [4, 5, 6, 7, 8, 9, 10, 11, 12, 1, 2, 0] rfl ?_
        have e9 : ¬ t = k + 1 := by omega
        have := ih (k + 1) (by omega) _ _ t _ h hS2.1 (hu.1 (by omega))
        rw [if_neg e9] at this
        exact this

set_option maxRecDepth 100000 in
set_option maxHeartbeats 1000000 in
theorem law_617 {n c tn : Nat} {W g : kW} (htn : tn < 4) (h : gL n c W g) (h9 : g.1 1 2 = -9) (kk : ∀ (W g : kW), gL n c W g → gS1 g → LJ room_1 1004 10106 true lawQ shL RL code 15 (some .boolean) 793 [(0, .ref 1000), (1, .ref 0), (2, .ref 39), (4, .int (nI n)), (5, .ref 40), (6, .ref 41), (7, .ref 42), (8, .int (nI tn))] [] W) : LJ room_1 1004 10106 true lawQ shL RL code 15 (some .boolean) 617 [(0, .ref 1000), (1, .ref 0), (2, .ref 39), (4, .int (nI n)), (5, .ref 40), (6, .ref 41), (7, .ref 42), (8, .int (nI tn))] [] W := by
  obtain ⟨qq, hq⟩ := h.1
  refine l_aload_n dL_law_617 rfl ?_
  refine l_bipush (v := 12) dL_law_618 (by decide) ?_
  refine l_iload dL_law_620 rfl ?_
  refine l_iadd dL_law_622 ?_
  refine l_topi (y := nI (12 + tn)) (nI_add 12 tn) ?_
  refine l_callX2 ⟨Nat.le_of_ble_eq_true rfl, Nat.le_of_ble_eq_true rfl⟩ dL_law_623 lk_L_9 ⟨Nat.le_of_ble_eq_true rfl, Nat.le_of_ble_eq_true rfl⟩ (Nat.le_of_ble_eq_true rfl) (s_L_cell (j := 12 + tn) (by omega)) (fun r w623 h623 => ?_)
  obtain ⟨rfl, x623, rfl⟩ := h623
  refine l_bipush (v := 9) dL_law_626 (by decide) ?_
  refine l_callS2 ⟨Nat.le_of_ble_eq_true rfl, Nat.le_of_ble_eq_true rfl⟩ dL_law_628 lk_L_15 ⟨Nat.le_of_ble_eq_true rfl, Nat.le_of_ble_eq_true rfl⟩ (Nat.le_of_ble_eq_true rfl) (s_L_some (N := 9) (by decide) (by omega)) (fun r w628 h628 => ?_)
  obtain ⟨rfl, mm, hmm, rfl⟩ := h628
  refine l_istore dL_law_631 (by decide) ?_
  refine l_iconst (v := 0) dL_law_633 (by decide) ?_
  refine l_istore dL_law_634 (by decide) ?_
  refine l_iconst (v := 1) dL_law_636 (by decide) ?_
  refine l_istore dL_law_637 (by decide) ?_
  refine l_aload_n dL_law_639 rfl ?_
  refine l_iconst (v := 1) dL_law_640 (by decide) ?_
  refine l_iconst (v := 1) dL_law_641 (by decide) ?_
  refine l_bipush (v := 12) dL_law_642 (by decide) ?_
  refine l_callV3 ⟨Nat.le_of_ble_eq_true rfl, Nat.le_of_ble_eq_true rfl⟩ dL_law_644 lk_L_19 rfl rfl rfl ⟨Nat.le_of_ble_eq_true rfl, Nat.le_of_ble_eq_true rfl⟩ (Nat.le_of_ble_eq_true rfl) (Spec.up (s_X7_sheet hq)) (fun r w644 h644 => ?_)
  obtain ⟨rfl, ⟨n9, c9, q9, hr9⟩, hk9⟩ := up_Q h644
  rw [R_sheet_1] at hr9 ⊢
  have hS2 := gS1.of h9
  have h := h.aux hS2.2 hr9 hk9
  refine l_topi (y := 1) rfl ?_
  refine l_iconst (v := 1) dL_law_647 (by decide) ?_
  refine l_icmp_eq (tgt := 653) dL_law_648 (by decide) (fun h648 => ?_) (fun h648 => absurd h648 (by decide))
  refine l_iconst (v := 0) dL_law_653 (by decide) ?_
  refine l_istore dL_law_654 (by decide) ?_
  refine l_sub [4, 5, 6, 7, 8, 9, 10, 11, 3, 2, 1, 0] rfl ?_
  exact law_656 htn hmm kk mm 0 (by omega) _ _ 0 (fun _ => 0) h hS2.1 ⟨fun s hs => absurd hs (Nat.not_lt_zero _), Nat.le_refl _, fun s hs => absurd hs (Nat.not_lt_zero _), fun z => absurd z (Nat.lt_irrefl _)⟩
