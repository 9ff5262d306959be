set_option maxRecDepth 100000 in
set_option maxHeartbeats 1000000 in
theorem law_561 {n c tn m : Nat} {g : kW} (hm : (mAhead n c g 60).1 0 28 = nI m) (kk : ∀ W : kW, gL n c W g → LJ room_1 1004 10106 true lawQ shL RL code 15 (some .boolean) 617 [(0, .ref 1000), (1, .ref 0), (2, .ref 39), (4, .int (nI n)), (5, .ref 40), (6, .ref 41), (7, .ref 42), (8, .int (nI tn))] [] W) : ∀ q k, k + q = c → ∀ W : kW, gL n c W g → LJ room_1 1004 10106 true lawQ shL RL code 15 (some .boolean) 561 [(0, .ref 1000), (1, .ref 0), (2, .ref 39), (4, .int (nI n)), (5, .ref 40), (6, .ref 41), (7, .ref 42), (8, .int (nI tn)), (9, .int (nI m)), (10, .int (nI k))] [] W := by
  intro q
  induction q with
  | zero =>
    intro k hk W h
    have hl := h.le
    refine l_iload dL_law_561 rfl ?_
    refine l_aload_n dL_law_563 rfl ?_
    refine l_iconst (v := 1) dL_law_564 (by decide) ?_
    refine l_ialdN dL_law_565 rfl ⟨by decide, by decide⟩ ?_
    refine l_topi (y := nI c) h.2.2.2.2.1 ?_
    refine l_icmp_ge (tgt := 617) dL_law_566 (by decide) (fun h566 => ?_) (fun h566 => ?_)
    · refine l_sub [0, 1, 2, 3, 4, 5, 6, 7] rfl ?_
      exact kk W h
    · exact absurd (nI_le (by omega) (by omega)) h566
  | succ q ih =>
    intro k hk W h
    have hl := h.le
    have hu := h.un (x := 1 <<< (nI k &&& 31))
    refine l_iload dL_law_561 rfl ?_
    refine l_aload_n dL_law_563 rfl ?_
    refine l_iconst (v := 1) dL_law_564 (by decide) ?_
    refine l_ialdN dL_law_565 rfl ⟨by decide, by decide⟩ ?_
    refine l_topi (y := nI c) h.2.2.2.2.1 ?_
    refine l_icmp_ge (tgt := 617) dL_law_566 (by decide) (fun h566 => ?_) (fun h566 => ?_)
    · exact absurd h566 (nI_ge (by omega) (by omega))
    · refine l_aload_n dL_law_569 rfl ?_
      refine l_aload dL_law_570 rfl ?_
      refine l_aload_n dL_law_572 rfl ?_
      refine l_iconst (v := 1) dL_law_573 (by decide) ?_
      refine l_ialdN dL_law_574 rfl ⟨by decide, by decide⟩ ?_
      refine l_topi (y := nI c) h.2.2.2.2.1 ?_
      refine l_iconst (v := 1) dL_law_575 (by decide) ?_
      refine l_iload dL_law_576 rfl ?_
      refine l_ishl dL_law_578 ?_
      refine l_bipush (v := 59) dL_law_579 (by decide) ?_
      refine l_iconst (v := (-1)) dL_law_581 (by decide) ?_
      refine l_aload dL_law_582 rfl ?_
      refine l_aload dL_law_584 rfl ?_
      refine l_callS8 ⟨Nat.le_of_ble_eq_true rfl, Nat.le_of_ble_eq_true rfl⟩ dL_law_586 lk_L_61 ⟨Nat.le_of_ble_eq_true rfl, Nat.le_of_ble_eq_true rfl⟩ (Nat.le_of_ble_eq_true rfl) (s_L_go (n := n) (D := 60) (u := kset g 0 20 (1 <<< (nI k &&& 31))) (by omega) hu.1 hu.2.1 hu.2.2 (fun k _ => rfl) (by decide) (by decide)) (fun r w586 h586 => ?_)
      obtain ⟨rfl, hkp, m2, m9, hm2, hw0, -⟩ := h586
      have h := h.sea hkp
      obtain ⟨qq, hq⟩ := h.1
      refine l_aload_n dL_law_589 rfl ?_
      refine l_iload dL_law_590 rfl ?_
      refine l_callV1 ⟨Nat.le_of_ble_eq_true rfl, Nat.le_of_ble_eq_true rfl⟩ dL_law_592 lk_L_79 rfl rfl rfl ⟨Nat.le_of_ble_eq_true rfl, Nat.le_of_ble_eq_true rfl⟩ (Nat.le_of_ble_eq_true rfl) (Spec.up (s_X7_worth hq)) (fun r w592 h592 => ?_)
      obtain ⟨rfl, hr, hk9⟩ := up_K hq h592
      have h := h.ask hr hk9
      refine l_topi (y := 1000 + nI m - nI m2) (by rw [A_worth_k h (by omega), hm, hm2]) ?_
      refine l_sipush (v := 1000) dL_law_595 (by decide) ?_
      refine l_iload dL_law_598 rfl ?_
      refine l_iadd dL_law_600 ?_
      refine l_aload dL_law_601 rfl ?_
      refine l_iconst (v := 0) dL_law_603 (by decide) ?_
      refine l_ialdN dL_law_604 rfl ⟨by decide, by decide⟩ ?_
      refine l_topi (y := nI m2) (by rw [hk9 41 (by decide)]; exact hw0) ?_
      refine l_isub dL_law_605 ?_
      refine l_icmp_eq (tgt := 611) dL_law_606 (by decide) (fun h606 => ?_) (fun h606 => ?_)
      · refine l_iinc dL_law_611 rfl (nI_inc k) (by decide) ?_
        refine l_goto (tgt := 561) dL_law_614 (by decide) ?_
        refine l_sub [1, 2, 3, 4, 5, 6, 7, 8, 9, 0] rfl ?_
        exact ih (k + 1) (by omega) _ h
      · exact absurd rfl h606

set_option maxRecDepth 100000 in
set_option maxHeartbeats 1000000 in
theorem law_558 {n c tn m : Nat} {W g : kW} (h : gL n c W g) (hm : (mAhead n c g 60).1 0 28 = nI m) (kk : ∀ W : kW, gL n c W g → LJ room_1 1004 10106 true lawQ shL RL code 15 (some .boolean) 617 [(0, .ref 1000), (1, .ref 0), (2, .ref 39), (4, .int (nI n)), (5, .ref 40), (6, .ref 41), (7, .ref 42), (8, .int (nI tn))] [] W) : LJ room_1 1004 10106 true lawQ shL RL code 15 (some .boolean) 558 [(0, .ref 1000), (1, .ref 0), (2, .ref 39), (4, .int (nI n)), (5, .ref 40), (6, .ref 41), (7, .ref 42), (8, .int (nI tn)), (9, .int (nI m))] [] W := by
  refine l_iconst (v := 0) dL_law_558 (by decide) ?_
  refine l_istore dL_law_559 (by decide) ?_
  refine l_sub [1, 2, 3, 4, 5, 6, 7, 8, 9, 0] rfl ?_
  exact law_561 hm kk c 0 (by omega) W h

set_option maxRecDepth 100000 in
set_option maxHeartbeats 1000000 in
theorem law_426 {n c tn m d : Nat} {g : kW} (hd : d < 60) (htn : tn < 4) (kk : ∀ W : kW, gL n c W g → LJ room_1 1004 10106 true lawQ shL RL code 15 (some .boolean) 544 [(0, .ref 1000), (1, .ref 0), (2, .ref 39), (4, .int (nI n)), (5, .ref 40), (6, .ref 41), (7, .ref 42), (8, .int (nI tn)), (9, .int (nI m)), (10, .int (nI d))] [] W) : ∀ q p, p + q = n → ∀ W : kW, gL n c W g → (∀ p, p < n → W.1 41 (8 + p) = (mAhead n c g d).1 15 p) → LJ room_1 1004 10106 true lawQ shL RL code 15 (some .boolean) 426 [(0, .ref 1000), (1, .ref 0), (2, .ref 39), (4, .int (nI n)), (5, .ref 40), (6, .ref 41), (7, .ref 42), (8, .int (nI tn)), (9, .int (nI m)), (10, .int (nI d)), (11, .int (nI p))] [] W := by
  intro q
  induction q with
  | zero =>
    intro p hp W h hr
    have hl := h.le
    refine l_iload dL_law_426 rfl ?_
    refine l_iload dL_law_428 rfl ?_
    refine l_icmp_ge (tgt := 544) dL_law_430 (by decide) (fun h430 => ?_) (fun h430 => ?_)
    · refine l_sub [0, 1, 2, 3, 4, 5, 6, 7, 8, 9] rfl ?_
      exact kk W h
    · exact absurd (nI_le (by omega) (by omega)) h430
  | succ q ih =>
    intro p hp W h hr
    have hl := h.le
    have hn2 := h.2.2.2.2.2
    have hp9 : p < n := by omega
    have hb9 := h.2.1.2.2.2 p hp9
    have hw := hr p hp9
    obtain ⟨qq, hq⟩ := h.1
    have hon : (p + 1 + tn) % n < n := Nat.mod_lt _ (by omega)
    by_cases ho : (p + 1 + tn) % n = p
    · refine l_iload dL_law_426 rfl ?_
      refine l_iload dL_law_428 rfl ?_
      refine l_icmp_ge (tgt := 544) dL_law_430 (by decide) (fun h430 => ?_) (fun h430 => ?_)
      · exact absurd h430 (nI_ge (by omega) (by omega))
      · refine l_aload_n dL_law_433 rfl ?_
        refine l_iconst (v := 2) dL_law_434 (by decide) ?_
        refine l_ialdN dL_law_435 rfl ⟨by decide, by decide⟩ ?_
        refine l_iload dL_law_436 rfl ?_
        refine l_ishr dL_law_438 ?_
        refine l_iconst (v := 1) dL_law_439 (by decide) ?_
        refine l_iand dL_law_440 ?_
        refine l_if_ne (tgt := 461) dL_law_441 (by decide) (fun h441 => ?_) (fun h441 => ?_)
        · refine l_iconst (v := 0) dL_law_461 (by decide) ?_
          refine l_istore dL_law_462 (by decide) ?_
          refine l_aload_n dL_law_464 rfl ?_
          refine l_iload dL_law_465 rfl ?_
          refine l_iload dL_law_467 rfl ?_
          refine l_callV2 ⟨Nat.le_of_ble_eq_true rfl, Nat.le_of_ble_eq_true rfl⟩ dL_law_469 lk_L_74 rfl rfl rfl ⟨Nat.le_of_ble_eq_true rfl, Nat.le_of_ble_eq_true rfl⟩ (Nat.le_of_ble_eq_true rfl) (Spec.up (s_X7_free hq)) (fun r w469 h469 => ?_)
          obtain ⟨rfl, hr9, hk9⟩ := up_K hq h469
          have h := h.ask hr9 hk9
          have hr : ∀ p, p < n → w469.1 41 (8 + p) = (mAhead n c g d).1 15 p := fun p hp => by rw [hk9 41 (by decide)]; exact hr p hp
          obtain ⟨qq, hq⟩ := h.1
          refine l_topi (y := 0) (by rw [A_free_p h hd hp9 false ⟨fun z => absurd z (by decide), fun z => absurd z (fun z : fr1 n c g p d => h441 ((bit_0 _ (by omega)).mpr (hb9.mpr z.1)))⟩]; rfl) ?_
          refine l_iload dL_law_472 rfl ?_
          refine l_if_eq (tgt := 481) dL_law_474 (by decide) (fun h474 => ?_) (fun h474 => absurd h474 (by decide))
          refine l_iconst (v := 0) dL_law_481 (by decide) ?_
          refine l_icmp_eq (tgt := 487) dL_law_482 (by decide) (fun h482 => ?_) (fun h482 => absurd h482 (by decide))
          refine l_iload dL_law_487 rfl ?_
          refine l_iconst (v := 1) dL_law_489 (by decide) ?_
          refine l_iadd dL_law_490 ?_
          refine l_topi (y := nI (p + 1)) (nI_1 p) ?_
          refine l_iload dL_law_491 rfl ?_
          refine l_iadd dL_law_493 ?_
          refine l_topi (y := nI (p + 1 + tn)) (nI_add _ _) ?_
          refine l_iload dL_law_494 rfl ?_
          refine l_irem dL_law_496 (nI_ne0 (by omega) (by omega)) ?_
          refine l_topi (y := nI p) (by rw [nI_rem (by omega) (by omega), ho]) ?_
          refine l_istore dL_law_497 (by decide) ?_
          refine l_aload_n dL_law_499 rfl ?_
          refine l_iload dL_law_500 rfl ?_
          refine l_iload dL_law_502 rfl ?_
          refine l_iload dL_law_504 rfl ?_
          refine l_callV3 ⟨Nat.le_of_ble_eq_true rfl, Nat.le_of_ble_eq_true rfl⟩ dL_law_506 lk_L_77 rfl rfl rfl ⟨Nat.le_of_ble_eq_true rfl, Nat.le_of_ble_eq_true rfl⟩ (Nat.le_of_ble_eq_true rfl) (Spec.up (s_X7_second hq)) (fun r w506 h506 => ?_)
          obtain ⟨rfl, hr9, hk9⟩ := up_K hq h506
          have h := h.ask hr9 hk9
          have hr : ∀ p, p < n → w506.1 41 (8 + p) = (mAhead n c g d).1 15 p := fun p hp => by rw [hk9 41 (by decide)]; exact hr p hp
          refine l_topi (y := -1) (A_second_e h) ?_
          refine l_iload dL_law_509 rfl ?_
          refine l_iload dL_law_511 rfl ?_
          refine l_icmp_ne (tgt := 520) dL_law_513 (by decide) (fun h513 => ?_) (fun h513 => ?_)
          · exact absurd rfl h513
          · refine l_iconst (v := (-1)) dL_law_516 (by decide) ?_
            refine l_goto (tgt := 533) dL_law_517 (by decide) ?_
            refine l_icmp_eq (tgt := 538) dL_law_533 (by decide) (fun h533 => ?_) (fun h533 => ?_)
            · refine l_iinc dL_law_538 rfl (nI_inc p) (by decide) ?_
              refine l_goto (tgt := 426) dL_law_541 (by decide) ?_
              refine l_sub [3, 4, 5, 6, 7, 8, 9, 10, 11, 12, 0] rfl ?_
              exact ih (p + 1) (by omega) _ h hr
            · exact absurd rfl h533
        · refine l_aload dL_law_444 rfl ?_
          refine l_bipush (v := 8) dL_law_446 (by decide) ?_
          refine l_iload dL_law_448 rfl ?_
          refine l_iadd dL_law_450 ?_
          refine l_topi (y := nI (8 + p)) (nI_add 8 p) ?_
          refine l_ialdN dL_law_451 rfl ⟨by omega, by decide⟩ ?_
          refine l_topi (y := (mAhead n c g d).1 15 p) hw ?_
          refine l_iload dL_law_452 rfl ?_
          refine l_icmp_gt (tgt := 461) dL_law_454 (by decide) (fun h454 => ?_) (fun h454 => ?_)
          · refine l_iconst (v := 0) dL_law_461 (by decide) ?_
            refine l_istore dL_law_462 (by decide) ?_
            refine l_aload_n dL_law_464 rfl ?_
            refine l_iload dL_law_465 rfl ?_
            refine l_iload dL_law_467 rfl ?_
            refine l_callV2 ⟨Nat.le_of_ble_eq_true rfl, Nat.le_of_ble_eq_true rfl⟩ dL_law_469 lk_L_74 rfl rfl rfl ⟨Nat.le_of_ble_eq_true rfl, Nat.le_of_ble_eq_true rfl⟩ (Nat.le_of_ble_eq_true rfl) (Spec.up (s_X7_free hq)) (fun r w469 h469 => ?_)
            obtain ⟨rfl, hr9, hk9⟩ := up_K hq h469
            have h := h.ask hr9 hk9
            have hr : ∀ p, p < n → w469.1 41 (8 + p) = (mAhead n c g d).1 15 p := fun p hp => by rw [hk9 41 (by decide)]; exact hr p hp
            obtain ⟨qq, hq⟩ := h.1
            refine l_topi (y := 0) (by rw [A_free_p h hd hp9 false ⟨fun z => absurd z (by decide), fun z => absurd z (fun z : fr1 n c g p d => absurd h454 (Int32.not_lt.mpr z.2))⟩]; rfl) ?_
            refine l_iload dL_law_472 rfl ?_
            refine l_if_eq (tgt := 481) dL_law_474 (by decide) (fun h474 => ?_) (fun h474 => absurd h474 (by decide))
            refine l_iconst (v := 0) dL_law_481 (by decide) ?_
            refine l_icmp_eq (tgt := 487) dL_law_482 (by decide) (fun h482 => ?_) (fun h482 => absurd h482 (by decide))
            refine l_iload dL_law_487 rfl ?_
            refine l_iconst (v := 1) dL_law_489 (by decide) ?_
            refine l_iadd dL_law_490 ?_
            refine l_topi (y := nI (p + 1)) (nI_1 p) ?_
            refine l_iload dL_law_491 rfl ?_
            refine l_iadd dL_law_493 ?_
            refine l_topi (y := nI (p + 1 + tn)) (nI_add _ _) ?_
            refine l_iload dL_law_494 rfl ?_
            refine l_irem dL_law_496 (nI_ne0 (by omega) (by omega)) ?_
            refine l_topi (y := nI p) (by rw [nI_rem (by omega) (by omega), ho]) ?_
            refine l_istore dL_law_497 (by decide) ?_
            refine l_aload_n dL_law_499 rfl ?_
            refine l_iload dL_law_500 rfl ?_
            refine l_iload dL_law_502 rfl ?_
            refine l_iload dL_law_504 rfl ?_
            refine l_callV3 ⟨Nat.le_of_ble_eq_true rfl, Nat.le_of_ble_eq_true rfl⟩ dL_law_506 lk_L_77 rfl rfl rfl ⟨Nat.le_of_ble_eq_true rfl, Nat.le_of_ble_eq_true rfl⟩ (Nat.le_of_ble_eq_true rfl) (Spec.up (s_X7_second hq)) (fun r w506 h506 => ?_)
            obtain ⟨rfl, hr9, hk9⟩ := up_K hq h506
            have h := h.ask hr9 hk9
            have hr : ∀ p, p < n → w506.1 41 (8 + p) = (mAhead n c g d).1 15 p := fun p hp => by rw [hk9 41 (by decide)]; exact hr p hp
            refine l_topi (y := -1) (A_second_e h) ?_
            refine l_iload dL_law_509 rfl ?_
            refine l_iload dL_law_511 rfl ?_
            refine l_icmp_ne (tgt := 520) dL_law_513 (by decide) (fun h513 => ?_) (fun h513 => ?_)
            · exact absurd rfl h513
            · refine l_iconst (v := (-1)) dL_law_516 (by decide) ?_
              refine l_goto (tgt := 533) dL_law_517 (by decide) ?_
              refine l_icmp_eq (tgt := 538) dL_law_533 (by decide) (fun h533 => ?_) (fun h533 => ?_)
              · refine l_iinc dL_law_538 rfl (nI_inc p) (by decide) ?_
                refine l_goto (tgt := 426) dL_law_541 (by decide) ?_
                refine l_sub [3, 4, 5, 6, 7, 8, 9, 10, 11, 12, 0] rfl ?_
                exact ih (p + 1) (by omega) _ h hr
              · exact absurd rfl h533
          · refine l_iconst (v := 1) dL_law_457 (by decide) ?_
            refine l_goto (tgt := 462) dL_law_458 (by decide) ?_
            refine l_istore dL_law_462 (by decide) ?_
            refine l_aload_n dL_law_464 rfl ?_
            refine l_iload dL_law_465 rfl ?_
            refine l_iload dL_law_467 rfl ?_
            refine l_callV2 ⟨Nat.le_of_ble_eq_true rfl, Nat.le_of_ble_eq_true rfl⟩ dL_law_469 lk_L_74 rfl rfl rfl ⟨Nat.le_of_ble_eq_true rfl, Nat.le_of_ble_eq_true rfl⟩ (Nat.le_of_ble_eq_true rfl) (Spec.up (s_X7_free hq)) (fun r w469 h469 => ?_)
            obtain ⟨rfl, hr9, hk9⟩ := up_K hq h469
            have h := h.ask hr9 hk9
            have hr : ∀ p, p < n → w469.1 41 (8 + p) = (mAhead n c g d).1 15 p := fun p hp => by rw [hk9 41 (by decide)]; exact hr p hp
            obtain ⟨qq, hq⟩ := h.1
            refine l_topi (y := 1) (by rw [A_free_p h hd hp9 true ⟨fun _ => (⟨hb9.mp ((bit_0 _ (by omega)).mp (by simpa using h441)), Int32.not_lt.mp h454⟩ : fr1 n c g p d), fun _ => rfl⟩]; rfl) ?_
            refine l_iload dL_law_472 rfl ?_
            refine l_if_eq (tgt := 481) dL_law_474 (by decide) (fun h474 => absurd h474 (by decide)) (fun h474 => ?_)
            refine l_iconst (v := 1) dL_law_477 (by decide) ?_
            refine l_goto (tgt := 482) dL_law_478 (by decide) ?_
            refine l_icmp_eq (tgt := 487) dL_law_482 (by decide) (fun h482 => ?_) (fun h482 => absurd h482 (by decide))
            refine l_iload dL_law_487 rfl ?_
            refine l_iconst (v := 1) dL_law_489 (by decide) ?_
            refine l_iadd dL_law_490 ?_
            refine l_topi (y := nI (p + 1)) (nI_1 p) ?_
            refine l_iload dL_law_491 rfl ?_
            refine l_iadd dL_law_493 ?_
            refine l_topi (y := nI (p + 1 + tn)) (nI_add _ _) ?_
            refine l_iload dL_law_494 rfl ?_
            refine l_irem dL_law_496 (nI_ne0 (by omega) (by omega)) ?_
            refine l_topi (y := nI p) (by rw [nI_rem (by omega) (by omega), ho]) ?_
            refine l_istore dL_law_497 (by decide) ?_
            refine l_aload_n dL_law_499 rfl ?_
            refine l_iload dL_law_500 rfl ?_
            refine l_iload dL_law_502 rfl ?_
            refine l_iload dL_law_504 rfl ?_
            refine l_callV3 ⟨Nat.le_of_ble_eq_true rfl, Nat.le_of_ble_eq_true rfl⟩ dL_law_506 lk_L_77 rfl rfl rfl ⟨Nat.le_of_ble_eq_true rfl, Nat.le_of_ble_eq_true rfl⟩ (Nat.le_of_ble_eq_true rfl) (Spec.up (s_X7_second hq)) (fun r w506 h506 => ?_)
            obtain ⟨rfl, hr9, hk9⟩ := up_K hq h506
            have h := h.ask hr9 hk9
            have hr : ∀ p, p < n → w506.1 41 (8 + p) = (mAhead n c g d).1 15 p := fun p hp => by rw [hk9 41 (by decide)]; exact hr p hp
            refine l_topi (y := -1) (A_second_e h) ?_
            refine l_iload dL_law_509 rfl ?_
            refine l_iload dL_law_511 rfl ?_
            refine l_icmp_ne (tgt := 520) dL_law_513 (by decide) (fun h513 => ?_) (fun h513 => ?_)
            · exact absurd rfl h513
            · refine l_iconst (v := (-1)) dL_law_516 (by decide) ?_
              refine l_goto (tgt := 533) dL_law_517 (by decide) ?_
              refine l_icmp_eq (tgt := 538) dL_law_533 (by decide) (fun h533 => ?_) (fun h533 => ?_)
              · refine l_iinc dL_law_538 rfl (nI_inc p) (by decide) ?_
                refine l_goto (tgt := 426) dL_law_541 (by decide) ?_
                refine l_sub [3, 4, 5, 6, 7, 8, 9, 10, 11, 12, 0] rfl ?_
                exact ih (p + 1) (by omega) _ h hr
              · exact absurd rfl h533
    · refine l_iload dL_law_426 rfl ?_
      refine l_iload dL_law_428 rfl ?_
      refine l_icmp_ge (tgt := 544) dL_law_430 (by decide) (fun h430 => ?_) (fun h430 => ?_)
      · exact absurd h430 (nI_ge (by omega) (by omega))
      · refine l_aload_n dL_law_433 rfl ?_
        refine l_iconst (v := 2) dL_law_434 (by decide) ?_
        refine l_ialdN dL_law_435 rfl ⟨by decide, by decide⟩ ?_
        refine l_iload dL_law_436 rfl ?_
        refine l_ishr dL_law_438 ?_
        refine l_iconst (v := 1) dL_law_439 (by decide) ?_
        refine l_iand dL_law_440 ?_
        refine l_if_ne (tgt := 461) dL_law_441 (by decide) (fun h441 => ?_) (fun h441 => ?_)
        · refine l_iconst (v := 0) dL_law_461 (by decide) ?_
          refine l_istore dL_law_462 (by decide) ?_
          refine l_aload_n dL_law_464 rfl ?_
          refine l_iload dL_law_465 rfl ?_
          refine l_iload dL_law_467 rfl ?_
          refine l_callV2 ⟨Nat.le_of_ble_eq_true rfl, Nat.le_of_ble_eq_true rfl⟩ dL_law_469 lk_L_74 rfl rfl rfl ⟨Nat.le_of_ble_eq_true rfl, Nat.le_of_ble_eq_true rfl⟩ (Nat.le_of_ble_eq_true rfl) (Spec.up (s_X7_free hq)) (fun r w469 h469 => ?_)
          obtain ⟨rfl, hr9, hk9⟩ := up_K hq h469
          have h := h.ask hr9 hk9
          have hr : ∀ p, p < n → w469.1 41 (8 + p) = (mAhead n c g d).1 15 p := fun p hp => by rw [hk9 41 (by decide)]; exact hr p hp
          obtain ⟨qq, hq⟩ := h.1
          refine l_topi (y := 0) (by rw [A_free_p h hd hp9 false ⟨fun z => absurd z (by decide), fun z => absurd z (fun z : fr1 n c g p d => h441 ((bit_0 _ (by omega)).mpr (hb9.mpr z.1)))⟩]; rfl) ?_
          refine l_iload dL_law_472 rfl ?_
          refine l_if_eq (tgt := 481) dL_law_474 (by decide) (fun h474 => ?_) (fun h474 => absurd h474 (by decide))
          refine l_iconst (v := 0) dL_law_481 (by decide) ?_
          refine l_icmp_eq (tgt := 487) dL_law_482 (by decide) (fun h482 => ?_) (fun h482 => absurd h482 (by decide))
          refine l_iload dL_law_487 rfl ?_
          refine l_iconst (v := 1) dL_law_489 (by decide) ?_
          refine l_iadd dL_law_490 ?_
          refine l_topi (y := nI (p + 1)) (nI_1 p) ?_
          refine l_iload dL_law_491 rfl ?_
          refine l_iadd dL_law_493 ?_
          refine l_topi (y := nI (p + 1 + tn)) (nI_add _ _) ?_
          refine l_iload dL_law_494 rfl ?_
          refine l_irem dL_law_496 (nI_ne0 (by omega) (by omega)) ?_
          refine l_topi (y := nI ((p + 1 + tn) % n)) (by rw [nI_rem (by omega) (by omega)]) ?_
          refine l_istore dL_law_497 (by decide) ?_
          refine l_aload_n dL_law_499 rfl ?_
          refine l_iload dL_law_500 rfl ?_
          refine l_iload dL_law_502 rfl ?_
          refine l_iload dL_law_504 rfl ?_
          refine l_callV3 ⟨Nat.le_of_ble_eq_true rfl, Nat.le_of_ble_eq_true rfl⟩ dL_law_506 lk_L_77 rfl rfl rfl ⟨Nat.le_of_ble_eq_true rfl, Nat.le_of_ble_eq_true rfl⟩ (Nat.le_of_ble_eq_true rfl) (Spec.up (s_X7_second hq)) (fun r w506 h506 => ?_)
          obtain ⟨rfl, hr9, hk9⟩ := up_K hq h506
          have h := h.ask hr9 hk9
          have hr : ∀ p, p < n → w506.1 41 (8 + p) = (mAhead n c g d).1 15 p := fun p hp => by rw [hk9 41 (by decide)]; exact hr p hp
          refine l_iload dL_law_509 rfl ?_
          refine l_iload dL_law_511 rfl ?_
          refine l_icmp_ne (tgt := 520) dL_law_513 (by decide) (fun h513 => ?_) (fun h513 => ?_)
          · refine l_aload_n dL_law_520 rfl ?_
            refine l_iload dL_law_521 rfl ?_
            refine l_iload dL_law_523 rfl ?_
            refine l_iconst (v := 0) dL_law_525 (by decide) ?_
            refine l_iload dL_law_526 rfl ?_
            refine l_aload dL_law_528 rfl ?_
            refine l_callS6 ⟨Nat.le_of_ble_eq_true rfl, Nat.le_of_ble_eq_true rfl⟩ dL_law_530 lk_L_43 ⟨Nat.le_of_ble_eq_true rfl, Nat.le_of_ble_eq_true rfl⟩ (Nat.le_of_ble_eq_true rfl) (s_L_second (gPn.go h (d := d) (by omega)) hp9) (fun r w530 h530 => ?_)
            obtain ⟨rfl, rfl⟩ := h530
            refine l_icmp_eq (tgt := 538) dL_law_533 (by decide) (fun h533 => ?_) (fun h533 => ?_)
            · refine l_iinc dL_law_538 rfl (nI_inc p) (by decide) ?_
              refine l_goto (tgt := 426) dL_law_541 (by decide) ?_
              refine l_sub [3, 4, 5, 6, 7, 8, 9, 10, 11, 12, 0] rfl ?_
              exact ih (p + 1) (by omega) _ h hr
            · exact absurd (A_second_p h hd hp9 hon (fun z => ho z.symm) hr) h533
          · exact absurd (nI_inj (by omega) (by omega) h513) ho
        · refine l_aload dL_law_444 rfl ?_
          refine l_bipush (v := 8) dL_law_446 (by decide) ?_
          refine l_iload dL_law_448 rfl ?_
          refine l_iadd dL_law_450 ?_
          refine l_topi (y := nI (8 + p)) (nI_add 8 p) ?_
          refine l_ialdN dL_law_451 rfl ⟨by omega, by decide⟩ ?_
          refine l_topi (y := (mAhead n c g d).1 15 p) hw ?_
          refine l_iload dL_law_452 rfl ?_
          refine l_icmp_gt (tgt := 461) dL_law_454 (by decide) (fun h454 => ?_) (fun h454 => ?_)
          · refine l_iconst (v := 0) dL_law_461 (by decide) ?_
            refine l_istore dL_law_462 (by decide) ?_
            refine l_aload_n dL_law_464 rfl ?_
            refine l_iload dL_law_465 rfl ?_
            refine l_iload dL_law_467 rfl ?_
            refine l_callV2 ⟨Nat.le_of_ble_eq_true rfl, Nat.le_of_ble_eq_true rfl⟩ dL_law_469 lk_L_74 rfl rfl rfl ⟨Nat.le_of_ble_eq_true rfl, Nat.le_of_ble_eq_true rfl⟩ (Nat.le_of_ble_eq_true rfl) (Spec.up (s_X7_free hq)) (fun r w469 h469 => ?_)
            obtain ⟨rfl, hr9, hk9⟩ := up_K hq h469
            have h := h.ask hr9 hk9
            have hr : ∀ p, p < n → w469.1 41 (8 + p) = (mAhead n c g d).1 15 p := fun p hp => by rw [hk9 41 (by decide)]; exact hr p hp
            obtain ⟨qq, hq⟩ := h.1
            refine l_topi (y := 0) (by rw [A_free_p h hd hp9 false ⟨fun z => absurd z (by decide), fun z => absurd z (fun z : fr1 n c g p d => absurd h454 (Int32.not_lt.mpr z.2))⟩]; rfl) ?_
            refine l_iload dL_law_472 rfl ?_
            refine l_if_eq (tgt := 481) dL_law_474 (by decide) (fun h474 => ?_) (fun h474 => absurd h474 (by decide))
            refine l_iconst (v := 0) dL_law_481 (by decide) ?_
            refine l_icmp_eq (tgt := 487) dL_law_482 (by decide) (fun h482 => ?_) (fun h482 => absurd h482 (by decide))
            refine l_iload dL_law_487 rfl ?_
            refine l_iconst (v := 1) dL_law_489 (by decide) ?_
            refine l_iadd dL_law_490 ?_
            refine l_topi (y := nI (p + 1)) (nI_1 p) ?_
            refine l_iload dL_law_491 rfl ?_
            refine l_iadd dL_law_493 ?_
            refine l_topi (y := nI (p + 1 + tn)) (nI_add _ _) ?_
            refine l_iload dL_law_494 rfl ?_
            refine l_irem dL_law_496 (nI_ne0 (by omega) (by omega)) ?_
            refine l_topi (y := nI ((p + 1 + tn) % n)) (by rw [nI_rem (by omega) (by omega)]) ?_
            refine l_istore dL_law_497 (by decide) ?_
            refine l_aload_n dL_law_499 rfl ?_
            refine l_iload dL_law_500 rfl ?_
            refine l_iload dL_law_502 rfl ?_
            refine l_iload dL_law_504 rfl ?_
            refine l_callV3 ⟨Nat.le_of_ble_eq_true rfl, Nat.le_of_ble_eq_true rfl⟩ dL_law_506 lk_L_77 rfl rfl rfl ⟨Nat.le_of_ble_eq_true rfl, Nat.le_of_ble_eq_true rfl⟩ (Nat.le_of_ble_eq_true rfl) (Spec.up (s_X7_second hq)) (fun r w506 h506 => ?_)
            obtain ⟨rfl, hr9, hk9⟩ := up_K hq h506
            have h := h.ask hr9 hk9
            have hr : ∀ p, p < n → w506.1 41 (8 + p) = (mAhead n c g d).1 15 p := fun p hp => by rw [hk9 41 (by decide)]; exact hr p hp
            refine l_iload dL_law_509 rfl ?_
            refine l_iload dL_law_511 rfl ?_
            refine l_icmp_ne (tgt := 520) dL_law_513 (by decide) (fun h513 => ?_) (fun h513 => ?_)
            · refine l_aload_n dL_law_520 rfl ?_
              refine l_iload dL_law_521 rfl ?_
              refine l_iload dL_law_523 rfl ?_
              refine l_iconst (v := 0) dL_law_525 (by decide) ?_
              refine l_iload dL_law_526 rfl ?_
              refine l_aload dL_law_528 rfl ?_
              refine l_callS6 ⟨Nat.le_of_ble_eq_true rfl, Nat.le_of_ble_eq_true rfl⟩ dL_law_530 lk_L_43 ⟨Nat.le_of_ble_eq_true rfl, Nat.le_of_ble_eq_true rfl⟩ (Nat.le_of_ble_eq_true rfl) (s_L_second (gPn.go h (d := d) (by omega)) hp9) (fun r w530 h530 => ?_)
              obtain ⟨rfl, rfl⟩ := h530
              refine l_icmp_eq (tgt := 538) dL_law_533 (by decide) (fun h533 => ?_) (fun h533 => ?_)
              · refine l_iinc dL_law_538 rfl (nI_inc p) (by decide) ?_
                refine l_goto (tgt := 426) dL_law_541 (by decide) ?_
                refine l_sub [3, 4, 5, 6, 7, 8, 9, 10, 11, 12, 0] rfl ?_
                exact ih (p + 1) (by omega) _ h hr
              · exact absurd (A_second_p h hd hp9 hon (fun z => ho z.symm) hr) h533
            · exact absurd (nI_inj (by omega) (by omega) h513) ho
          · refine l_iconst (v := 1) dL_law_457 (by decide) ?_
            refine l_goto (tgt := 462) dL_law_458 (by decide) ?_
            refine l_istore dL_law_462 (by decide) ?_
            refine l_aload_n dL_law_464 rfl ?_
            refine l_iload dL_law_465 rfl ?_
            refine l_iload dL_law_467 rfl ?_
            refine l_callV2 ⟨Nat.le_of_ble_eq_true rfl, Nat.le_of_ble_eq_true rfl⟩ dL_law_469 lk_L_74 rfl rfl rfl ⟨Nat.le_of_ble_eq_true rfl, Nat.le_of_ble_eq_true rfl⟩ (Nat.le_of_ble_eq_true rfl) (Spec.up (s_X7_free hq)) (fun r w469 h469 => ?_)
            obtain ⟨rfl, hr9, hk9⟩ := up_K hq h469
            have h := h.ask hr9 hk9
            have hr : ∀ p, p < n → w469.1 41 (8 + p) = (mAhead n c g d).1 15 p := fun p hp => by rw [hk9 41 (by decide)]; exact hr p hp
            obtain ⟨qq, hq⟩ := h.1
            refine l_topi (y := 1) (by rw [A_free_p h hd hp9 true ⟨fun _ => (⟨hb9.mp ((bit_0 _ (by omega)).mp (by simpa using h441)), Int32.not_lt.mp h454⟩ : fr1 n c g p d), fun _ => rfl⟩]; rfl) ?_
            refine l_iload dL_law_472 rfl ?_
            refine l_if_eq (tgt := 481) dL_law_474 (by decide) (fun h474 => absurd h474 (by decide)) (fun h474 => ?_)
            refine l_iconst (v := 1) dL_law_477 (by decide) ?_
            refine l_goto (tgt := 482) dL_law_478 (by decide) ?_
            refine l_icmp_eq (tgt := 487) dL_law_482 (by decide) (fun h482 => ?_) (fun h482 => absurd h482 (by decide))
            refine l_iload dL_law_487 rfl ?_
            refine l_iconst (v := 1) dL_law_489 (by decide) ?_
            refine l_iadd dL_law_490 ?_
            refine l_topi (y := nI (p + 1)) (nI_1 p) ?_
            refine l_iload dL_law_491 rfl ?_
            refine l_iadd dL_law_493 ?_
            refine l_topi (y := nI (p + 1 + tn)) (nI_add _ _) ?_
            refine l_iload dL_law_494 rfl ?_
            refine l_irem dL_law_496 (nI_ne0 (by omega) (by omega)) ?_
            refine l_topi (y := nI ((p + 1 + tn) % n)) (by rw [nI_rem (by omega) (by omega)]) ?_
            refine l_istore dL_law_497 (by decide) ?_
            refine l_aload_n dL_law_499 rfl ?_
            refine l_iload dL_law_500 rfl ?_
            refine l_iload dL_law_502 rfl ?_
            refine l_iload dL_law_504 rfl ?_
            refine l_callV3 ⟨Nat.le_of_ble_eq_true rfl, Nat.le_of_ble_eq_true rfl⟩ dL_law_506 lk_L_77 rfl rfl rfl ⟨Nat.le_of_ble_eq_true rfl, Nat.le_of_ble_eq_true rfl⟩ (Nat.le_of_ble_eq_true rfl) (Spec.up (s_X7_second hq)) (fun r w506 h506 => ?_)
            obtain ⟨rfl, hr9, hk9⟩ := up_K hq h506
            have h := h.ask hr9 hk9
            have hr : ∀ p, p < n → w506.1 41 (8 + p) = (mAhead n c g d).1 15 p := fun p hp => by rw [hk9 41 (by decide)]; exact hr p hp
            refine l_iload dL_law_509 rfl ?_
            refine l_iload dL_law_511 rfl ?_
            refine l_icmp_ne (tgt := 520) dL_law_513 (by decide) (fun h513 => ?_) (fun h513 => ?_)
            · refine l_aload_n dL_law_520 rfl ?_
              refine l_iload dL_law_521 rfl ?_
              refine l_iload dL_law_523 rfl ?_
              refine l_iconst (v := 0) dL_law_525 (by decide) ?_
              refine l_iload dL_law_526 rfl ?_
              refine l_aload dL_law_528 rfl ?_
              refine l_callS6 ⟨Nat.le_of_ble_eq_true rfl, Nat.le_of_ble_eq_true rfl⟩ dL_law_530 lk_L_43 ⟨Nat.le_of_ble_eq_true rfl, Nat.le_of_ble_eq_true rfl⟩ (Nat.le_of_ble_eq_true rfl) (s_L_second (gPn.go h (d := d) (by omega)) hp9) (fun r w530 h530 => ?_)
              obtain ⟨rfl, rfl⟩ := h530
              refine l_icmp_eq (tgt := 538) dL_law_533 (by decide) (fun h533 => ?_) (fun h533 => ?_)
              · refine l_iinc dL_law_538 rfl (nI_inc p) (by decide) ?_
                refine l_goto (tgt := 426) dL_law_541 (by decide) ?_
                refine l_sub [3, 4, 5, 6, 7, 8, 9, 10, 11, 12, 0] rfl ?_
                exact ih (p + 1) (by omega) _ h hr
              · exact absurd (A_second_p h hd hp9 hon (fun z => ho z.symm) hr) h533
            · exact absurd (nI_inj (by omega) (by omega) h513) ho

set_option maxRecDepth 100000 in
set_option maxHeartbeats 1000000 in
theorem law_365 {n c tn m : Nat} {g : kW} (htn : tn < 4) (kk : ∀ W : kW, gL n c W g → LJ room_1 1004 10106 true lawQ shL RL code 15 (some .boolean) 558 [(0, .ref 1000), (1, .ref 0), (2, .ref 39), (4, .int (nI n)), (5, .ref 40), (6, .ref 41), (7, .ref 42), (8, .int (nI tn)), (9, .int (nI m))] [] W) : ∀ q d, 60 ≤ d + q → d ≤ 100 → ∀ W : kW, gL n c W g → LJ room_1 1004 10106 true lawQ shL RL code 15 (some .boolean) 365 [(0, .ref 1000), (1, .ref 0), (2, .ref 39), (4, .int (nI n)), (5, .ref 40), (6, .ref 41), (7, .ref 42), (8, .int (nI tn)), (9, .int (nI m)), (10, .int (nI d))] [] W := by
  intro q
  induction q with
  | zero =>
    intro d hd hd2 W h
    refine l_iload dL_law_365 rfl ?_
    refine l_bipush (v := 60) dL_law_367 (by decide) ?_
    refine l_icmp_ge (tgt := 558) dL_law_369 (by decide) (fun h369 => ?_) (fun h369 => ?_)
    · refine l_sub [0, 1, 2, 3, 4, 5, 6, 7, 8] rfl ?_
      exact kk W h
    · exact absurd (nI_le (a := 60) (by omega) (by omega)) h369
  | succ q ih =>
    intro d hd hd2 W h
    have hl := h.le
    by_cases hd9 : d < 60
    · refine l_iload dL_law_365 rfl ?_
      refine l_bipush (v := 60) dL_law_367 (by decide) ?_
      refine l_icmp_ge (tgt := 558) dL_law_369 (by decide) (fun h369 => ?_) (fun h369 => ?_)
      · exact absurd h369 (nI_ge (b := 60) (by omega) (by omega))
      · refine l_aload_n dL_law_372 rfl ?_
        refine l_aload dL_law_373 rfl ?_
        refine l_aload_n dL_law_375 rfl ?_
        refine l_iconst (v := 1) dL_law_376 (by decide) ?_
        refine l_ialdN dL_law_377 rfl ⟨by decide, by decide⟩ ?_
        refine l_topi (y := nI c) h.2.2.2.2.1 ?_
        refine l_iconst (v := 0) dL_law_378 (by decide) ?_
        refine l_iload dL_law_379 rfl ?_
        refine l_iconst (v := (-1)) dL_law_381 (by decide) ?_
        refine l_aload dL_law_382 rfl ?_
        refine l_aload dL_law_384 rfl ?_
        refine l_callS8 ⟨Nat.le_of_ble_eq_true rfl, Nat.le_of_ble_eq_true rfl⟩ dL_law_386 lk_L_61 ⟨Nat.le_of_ble_eq_true rfl, Nat.le_of_ble_eq_true rfl⟩ (Nat.le_of_ble_eq_true rfl) (s_L_go (n := n) (D := d + 1) (by omega) h.2.1 h.2.2.1 h.ins0.1 (fun k _ => by rw [h.ins0.2.2]) (by omega) (nI_pred d).symm) (fun r w386 h386 => ?_)
        obtain ⟨rfl, hkp386, m386, m9386, hm386, hw386, -, hv386, -⟩ := h386
        have h := h.sea hkp386
        obtain ⟨qq, hq⟩ := h.1
        refine l_aload_n dL_law_389 rfl ?_
        refine l_iload dL_law_390 rfl ?_
        refine l_callV1 ⟨Nat.le_of_ble_eq_true rfl, Nat.le_of_ble_eq_true rfl⟩ dL_law_392 lk_L_71 rfl rfl rfl ⟨Nat.le_of_ble_eq_true rfl, Nat.le_of_ble_eq_true rfl⟩ (Nat.le_of_ble_eq_true rfl) (Spec.up (s_X7_meetings hq)) (fun r w392 h392 => ?_)
        obtain ⟨rfl, hr392, hk392⟩ := up_K hq h392
        have h := h.ask hr392 hk392
        refine l_topi (y := nI m386) (by rw [A_meetings_d h hd9, hm386]) ?_
        refine l_aload dL_law_395 rfl ?_
        refine l_iconst (v := 0) dL_law_397 (by decide) ?_
        refine l_ialdN dL_law_398 rfl ⟨by decide, by decide⟩ ?_
        refine l_topi (y := nI m386) (by rw [hk392 41 (by decide)]; exact hw386) ?_
        refine l_icmp_eq (tgt := 404) dL_law_399 (by decide) (fun h399 => ?_) (fun h399 => ?_)
        · refine l_aload_n dL_law_404 rfl ?_
          refine l_aload dL_law_405 rfl ?_
          refine l_aload_n dL_law_407 rfl ?_
          refine l_iconst (v := 1) dL_law_408 (by decide) ?_
          refine l_ialdN dL_law_409 rfl ⟨by decide, by decide⟩ ?_
          refine l_topi (y := nI c) h.2.2.2.2.1 ?_
          refine l_iconst (v := 0) dL_law_410 (by decide) ?_
          refine l_iload dL_law_411 rfl ?_
          refine l_iconst (v := 1) dL_law_413 (by decide) ?_
          refine l_isub dL_law_414 ?_
          refine l_iconst (v := (-1)) dL_law_415 (by decide) ?_
          refine l_aload dL_law_416 rfl ?_
          refine l_aload dL_law_418 rfl ?_
          refine l_callS8 ⟨Nat.le_of_ble_eq_true rfl, Nat.le_of_ble_eq_true rfl⟩ dL_law_420 lk_L_61 ⟨Nat.le_of_ble_eq_true rfl, Nat.le_of_ble_eq_true rfl⟩ (Nat.le_of_ble_eq_true rfl) (s_L_go (n := n) (D := d) (by omega) h.2.1 h.2.2.1 h.ins0.1 (fun k _ => by rw [h.ins0.2.2]) (by omega) rfl) (fun r w420 h420 => ?_)
          obtain ⟨rfl, hkp420, m420, m9420, hm420, hw420, -, hv420, -⟩ := h420
          have h := h.sea hkp420
          obtain ⟨qq, hq⟩ := h.1
          refine l_iconst (v := 0) dL_law_423 (by decide) ?_
          refine l_istore dL_law_424 (by decide) ?_
          refine l_sub [1, 2, 3, 4, 5, 6, 7, 8, 9, 10, 0] rfl ?_
          refine law_426 hd9 htn (fun W9 h => ?_) n 0 (by omega) _ h hv420
          refine l_iload dL_law_544 rfl ?_
          refine l_iconst (v := 1) dL_law_546 (by decide) ?_
          refine l_iload dL_law_547 rfl ?_
          refine l_iconst (v := 4) dL_law_549 (by decide) ?_
          refine l_idiv dL_law_550 (by decide) ?_
          refine l_topi (y := nI (d / 4)) (nI_div (b := 4) (by omega) (by omega)) ?_
          refine l_iadd dL_law_551 ?_
          refine l_topi (y := nI (1 + d / 4)) (nI_add 1 _) ?_
          refine l_iadd dL_law_552 ?_
          refine l_topi (y := nI (d + (1 + d / 4))) (nI_add _ _) ?_
          refine l_istore dL_law_553 (by decide) ?_
          refine l_goto (tgt := 365) dL_law_555 (by decide) ?_
          refine l_sub [1, 2, 3, 4, 5, 6, 7, 8, 9, 0] rfl ?_
          exact ih (d + (1 + d / 4)) (by omega) (by omega) W9 h
        · exact absurd rfl h399
    · refine l_iload dL_law_365 rfl ?_
      refine l_bipush (v := 60) dL_law_367 (by decide) ?_
      refine l_icmp_ge (tgt := 558) dL_law_369 (by decide) (fun h369 => ?_) (fun h369 => ?_)
      · refine l_sub [0, 1, 2, 3, 4, 5, 6, 7, 8] rfl ?_
        exact kk W h
      · exact absurd (nI_le (a := 60) (by omega) (by omega)) h369
