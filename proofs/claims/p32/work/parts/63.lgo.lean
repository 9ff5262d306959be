set_option maxRecDepth 100000 in
set_option maxHeartbeats 1000000 in
theorem s_go_447n {Φ : Option Value → kW → Prop} {c old d y k i j a b : Nat} {un till td deg : Int32} {V : kW} (kk : BS shL RL cL_go 21 none 1 27 Φ 569 [(0, .ref 39), (1, .ref 40), (2, .int (nI c)), (3, .int un), (4, .int till), (5, .int td), (6, .ref 41), (7, .ref 42), (8, .int (nI old)), (9, .int (nI d)), (10, .int (nI y)), (11, .int (nI k))] [] V) : BS shL RL cL_go 21 none 1 27 Φ 447 [(0, .ref 39), (1, .ref 40), (2, .int (nI c)), (3, .int un), (4, .int till), (5, .int td), (6, .ref 41), (7, .ref 42), (8, .int (nI old)), (9, .int (nI d)), (10, .int (nI y)), (11, .int (nI k)), (12, .int (nI i)), (13, .int (nI j)), (14, .int deg), (15, .int (nI a)), (16, .int (nI b)), (17, .int (-9))] [] V := by
  refine b_iload dL_go_447 rfl ?_
  refine b_if_ge (tgt := 455) dL_go_449 (by decide) (fun h449 => ?_) (fun h449 => ?_)
  · exact absurd h449 (by decide)
  · refine b_goto (tgt := 569) dL_go_452 (by decide) ?_
    refine b_sub [0, 1, 2, 3, 4, 5, 6, 7, 8, 9, 10, 11] rfl ?_
    exact kk

set_option maxRecDepth 100000 in
set_option maxHeartbeats 1000000 in
theorem s_go_447h {Φ : Option Value → kW → Prop} {c old d y k i j a b : Nat} {un till td deg : Int32} {hu w : Nat} {V : kW} (hsum : a + b = hu + w) (h6 : hu < 6 ∧ w < 6 ∧ a < 6 ∧ b < 6) (hy : y ≤ 3) (hF : ∃ f, f < 6 ∧ V.1 39 (15 + 2 * hu) = nI f) (kk1 : V.1 39 (15 + 2 * hu) = nI w → ∀ Z, BS shL RL cL_go 21 none 1 27 Φ 569 [(0, .ref 39), (1, .ref 40), (2, .int (nI c)), (3, .int un), (4, .int till), (5, .int td), (6, .ref 41), (7, .ref 42), (8, .int (nI old)), (9, .int (nI d)), (10, .int (nI y)), (11, .int (nI k))] [] (kset (kset V 41 (8 + hu) (nI d + (V.1 39 (9 + w) - V.1 39 (9 + hu)) + 2)) 41 14 Z)) (kk2 : ¬ V.1 39 (15 + 2 * hu) = nI w → ∀ Z, BS shL RL cL_go 21 none 1 27 Φ 569 [(0, .ref 39), (1, .ref 40), (2, .int (nI c)), (3, .int un), (4, .int till), (5, .int td), (6, .ref 41), (7, .ref 42), (8, .int (nI old)), (9, .int (nI d)), (10, .int (nI (y + 1))), (11, .int (nI k))] [] (kset (kset (kset (kset (kset V 41 (8 + hu) (nI d + (V.1 39 (9 + w) - V.1 39 (9 + hu)) + 2)) 41 14 Z) 42 (12 + 3 * y) (nI w)) 42 (13 + 3 * y) (V.1 39 (15 + 2 * hu))) 42 (14 + 3 * y) (V.1 39 (9 + w) - V.1 39 (9 + hu)))) : BS shL RL cL_go 21 none 1 27 Φ 447 [(0, .ref 39), (1, .ref 40), (2, .int (nI c)), (3, .int un), (4, .int till), (5, .int td), (6, .ref 41), (7, .ref 42), (8, .int (nI old)), (9, .int (nI d)), (10, .int (nI y)), (11, .int (nI k)), (12, .int (nI i)), (13, .int (nI j)), (14, .int deg), (15, .int (nI a)), (16, .int (nI b)), (17, .int (nI hu))] [] V := by
  obtain ⟨h61, h62, h63, h64⟩ := h6
  obtain ⟨f, hf6, hf⟩ := hF
  refine b_iload dL_go_447 rfl ?_
  refine b_if_ge (tgt := 455) dL_go_449 (by decide) (fun h449 => ?_) (fun h449 => ?_)
  · refine b_iload dL_go_455 rfl ?_
    refine b_iload dL_go_457 rfl ?_
    refine b_iadd dL_go_459 ?_
    refine b_topi (y := nI (a + b)) (nI_add a b) ?_
    refine b_iload dL_go_460 rfl ?_
    refine b_isub dL_go_462 ?_
    refine b_topi (y := nI w) (by rw [hsum, nI_sub (by omega), Nat.add_sub_cancel_left]) ?_
    refine b_istore dL_go_463 (by decide) ?_
    refine b_aload_n dL_go_465 rfl ?_
    refine b_bipush (v := 9) dL_go_466 (by decide) ?_
    refine b_iload dL_go_468 rfl ?_
    refine b_iadd dL_go_470 ?_
    refine b_topi (y := nI (9 + w)) (nI_add 9 w) ?_
    refine b_ialdN dL_go_471 rfl ⟨by omega, by decide⟩ ?_
    refine b_aload_n dL_go_472 rfl ?_
    refine b_bipush (v := 9) dL_go_473 (by decide) ?_
    refine b_iload dL_go_475 rfl ?_
    refine b_iadd dL_go_477 ?_
    refine b_topi (y := nI (9 + hu)) (nI_add 9 hu) ?_
    refine b_ialdN dL_go_478 rfl ⟨by omega, by decide⟩ ?_
    refine b_isub dL_go_479 ?_
    refine b_istore dL_go_480 (by decide) ?_
    refine b_aload dL_go_482 rfl ?_
    refine b_bipush (v := 8) dL_go_484 (by decide) ?_
    refine b_iload dL_go_486 rfl ?_
    refine b_iadd dL_go_488 ?_
    refine b_topi (y := nI (8 + hu)) (nI_add 8 hu) ?_
    refine b_iload dL_go_489 rfl ?_
    refine b_iload dL_go_491 rfl ?_
    refine b_iadd dL_go_493 ?_
    refine b_iconst (v := 2) dL_go_494 (by decide) ?_
    refine b_iadd dL_go_495 ?_
    refine b_iastN dL_go_496 rfl ⟨by omega, by decide⟩ ?_
    refine b_aload dL_go_497 rfl ?_
    refine b_bipush (v := 14) dL_go_499 (by decide) ?_
    refine b_dup2 dL_go_501 rfl rfl ?_
    refine b_ialdN dL_go_502 rfl ⟨by decide, by decide⟩ ?_
    refine b_iconst (v := 1) dL_go_503 (by decide) ?_
    refine b_iload dL_go_504 rfl ?_
    refine b_ishl dL_go_506 ?_
    refine b_ior dL_go_507 ?_
    refine b_iastN dL_go_508 rfl ⟨by decide, by decide⟩ ?_
    refine b_aload_n dL_go_509 rfl ?_
    refine b_bipush (v := 15) dL_go_510 (by decide) ?_
    refine b_iconst (v := 2) dL_go_512 (by decide) ?_
    refine b_iload dL_go_513 rfl ?_
    refine b_imul dL_go_515 ?_
    refine b_topi (y := nI (2 * hu)) (nI_two hu) ?_
    refine b_iadd dL_go_516 ?_
    refine b_topi (y := nI (15 + 2 * hu)) (nI_add 15 _) ?_
    refine b_ialdN dL_go_517 rfl ⟨by omega, by decide⟩ ?_
    refine b_topi (y := V.1 39 (15 + 2 * hu)) rfl ?_
    refine b_istore dL_go_518 (by decide) ?_
    refine b_iload dL_go_520 rfl ?_
    refine b_iload dL_go_522 rfl ?_
    refine b_icmp_ne (tgt := 530) dL_go_524 (by decide) (fun h524 => ?_) (fun h524 => ?_)
    · refine b_aload dL_go_530 rfl ?_
      refine b_bipush (v := 12) dL_go_532 (by decide) ?_
      refine b_iconst (v := 3) dL_go_534 (by decide) ?_
      refine b_iload dL_go_535 rfl ?_
      refine b_imul dL_go_537 ?_
      refine b_topi (y := nI (3 * y)) (nI_mul 3 y) ?_
      refine b_iadd dL_go_538 ?_
      refine b_topi (y := nI (12 + 3 * y)) (nI_add 12 _) ?_
      refine b_iload dL_go_539 rfl ?_
      refine b_iastN dL_go_541 rfl ⟨by omega, by decide⟩ ?_
      refine b_aload dL_go_542 rfl ?_
      refine b_bipush (v := 13) dL_go_544 (by decide) ?_
      refine b_iconst (v := 3) dL_go_546 (by decide) ?_
      refine b_iload dL_go_547 rfl ?_
      refine b_imul dL_go_549 ?_
      refine b_topi (y := nI (3 * y)) (nI_mul 3 y) ?_
      refine b_iadd dL_go_550 ?_
      refine b_topi (y := nI (13 + 3 * y)) (nI_add 13 _) ?_
      refine b_iload dL_go_551 rfl ?_
      refine b_iastN dL_go_553 rfl ⟨by omega, by decide⟩ ?_
      refine b_aload dL_go_554 rfl ?_
      refine b_bipush (v := 14) dL_go_556 (by decide) ?_
      refine b_iconst (v := 3) dL_go_558 (by decide) ?_
      refine b_iload dL_go_559 rfl ?_
      refine b_imul dL_go_561 ?_
      refine b_topi (y := nI (3 * y)) (nI_mul 3 y) ?_
      refine b_iadd dL_go_562 ?_
      refine b_topi (y := nI (14 + 3 * y)) (nI_add 14 _) ?_
      refine b_iload dL_go_563 rfl ?_
      refine b_iastN dL_go_565 rfl ⟨by omega, by decide⟩ ?_
      refine b_iinc dL_go_566 rfl (nI_inc y) (by decide) ?_
      refine b_sub [4, 5, 6, 7, 8, 9, 10, 11, 12, 13, 0, 14] rfl ?_
      exact kk2 h524 _
    · refine b_goto (tgt := 569) dL_go_527 (by decide) ?_
      refine b_sub [3, 4, 5, 6, 7, 8, 9, 10, 11, 12, 13, 14] rfl ?_
      exact kk1 h524 _
  · exact absurd (nI_pos' (by omega)) h449

set_option maxRecDepth 100000 in
set_option maxHeartbeats 1000000 in
theorem s_go_383 {Φ : Option Value → kW → Prop} {c old d y k i j a b : Nat} {un till td deg : Int32} {hv : Int32} {V : kW} (kk : ∀ U, (U = kset V 41 0 (V.1 41 0 + 1) ∨ U = kset (kset V 41 0 (V.1 41 0 + 1)) 41 15 1) → BS shL RL cL_go 21 none 1 27 Φ 447 [(0, .ref 39), (1, .ref 40), (2, .int (nI c)), (3, .int un), (4, .int till), (5, .int td), (6, .ref 41), (7, .ref 42), (8, .int (nI old)), (9, .int (nI d)), (10, .int (nI y)), (11, .int (nI k)), (12, .int (nI i)), (13, .int (nI j)), (14, .int deg), (15, .int (nI a)), (16, .int (nI b)), (17, .int hv)] [] U) : BS shL RL cL_go 21 none 1 27 Φ 383 [(0, .ref 39), (1, .ref 40), (2, .int (nI c)), (3, .int un), (4, .int till), (5, .int td), (6, .ref 41), (7, .ref 42), (8, .int (nI old)), (9, .int (nI d)), (10, .int (nI y)), (11, .int (nI k)), (12, .int (nI i)), (13, .int (nI j)), (14, .int deg), (15, .int (nI a)), (16, .int (nI b)), (17, .int hv)] [] V := by
  refine b_aload dL_go_383 rfl ?_
  refine b_iconst (v := 0) dL_go_385 (by decide) ?_
  refine b_dup2 dL_go_386 rfl rfl ?_
  refine b_ialdN dL_go_387 rfl ⟨by decide, by decide⟩ ?_
  refine b_iconst (v := 1) dL_go_388 (by decide) ?_
  refine b_iadd dL_go_389 ?_
  refine b_iastN dL_go_390 rfl ⟨by decide, by decide⟩ ?_
  refine b_iload dL_go_391 rfl ?_
  refine b_aload dL_go_393 rfl ?_
  refine b_bipush (v := 18) dL_go_395 (by decide) ?_
  refine b_ialdN dL_go_397 rfl ⟨by decide, by decide⟩ ?_
  refine b_icmp_le (tgt := 447) dL_go_398 (by decide) (fun h398 => ?_) (fun h398 => ?_)
  · refine b_sub [0, 1, 2, 3, 4, 5, 6, 7, 8, 9, 10, 11, 12, 13, 14, 15, 16, 17] rfl ?_
    exact kk _ (Or.inl rfl)
  · refine b_iload dL_go_401 rfl ?_
    refine b_aload dL_go_403 rfl ?_
    refine b_bipush (v := 16) dL_go_405 (by decide) ?_
    refine b_ialdN dL_go_407 rfl ⟨by decide, by decide⟩ ?_
    refine b_icmp_ne (tgt := 421) dL_go_408 (by decide) (fun h408 => ?_) (fun h408 => ?_)
    · refine b_iload dL_go_421 rfl ?_
      refine b_aload dL_go_423 rfl ?_
      refine b_bipush (v := 17) dL_go_425 (by decide) ?_
      refine b_ialdN dL_go_427 rfl ⟨by decide, by decide⟩ ?_
      refine b_icmp_ne (tgt := 447) dL_go_428 (by decide) (fun h428 => ?_) (fun h428 => ?_)
      · refine b_sub [0, 1, 2, 3, 4, 5, 6, 7, 8, 9, 10, 11, 12, 13, 14, 15, 16, 17] rfl ?_
        exact kk _ (Or.inl rfl)
      · refine b_iload dL_go_431 rfl ?_
        refine b_aload dL_go_433 rfl ?_
        refine b_bipush (v := 16) dL_go_435 (by decide) ?_
        refine b_ialdN dL_go_437 rfl ⟨by decide, by decide⟩ ?_
        refine b_icmp_ne (tgt := 447) dL_go_438 (by decide) (fun h438 => ?_) (fun h438 => ?_)
        · refine b_sub [0, 1, 2, 3, 4, 5, 6, 7, 8, 9, 10, 11, 12, 13, 14, 15, 16, 17] rfl ?_
          exact kk _ (Or.inl rfl)
        · refine b_aload dL_go_441 rfl ?_
          refine b_bipush (v := 15) dL_go_443 (by decide) ?_
          refine b_iconst (v := 1) dL_go_445 (by decide) ?_
          refine b_iastN dL_go_446 rfl ⟨by decide, by decide⟩ ?_
          refine b_sub [0, 1, 2, 3, 4, 5, 6, 7, 8, 9, 10, 11, 12, 13, 14, 15, 16, 17] rfl ?_
          exact kk _ (Or.inr rfl)
    · refine b_iload dL_go_411 rfl ?_
      refine b_aload dL_go_413 rfl ?_
      refine b_bipush (v := 17) dL_go_415 (by decide) ?_
      refine b_ialdN dL_go_417 rfl ⟨by decide, by decide⟩ ?_
      refine b_icmp_eq (tgt := 441) dL_go_418 (by decide) (fun h418 => ?_) (fun h418 => ?_)
      · refine b_aload dL_go_441 rfl ?_
        refine b_bipush (v := 15) dL_go_443 (by decide) ?_
        refine b_iconst (v := 1) dL_go_445 (by decide) ?_
        refine b_iastN dL_go_446 rfl ⟨by decide, by decide⟩ ?_
        refine b_sub [0, 1, 2, 3, 4, 5, 6, 7, 8, 9, 10, 11, 12, 13, 14, 15, 16, 17] rfl ?_
        exact kk _ (Or.inr rfl)
      · refine b_iload dL_go_421 rfl ?_
        refine b_aload dL_go_423 rfl ?_
        refine b_bipush (v := 17) dL_go_425 (by decide) ?_
        refine b_ialdN dL_go_427 rfl ⟨by decide, by decide⟩ ?_
        refine b_icmp_ne (tgt := 447) dL_go_428 (by decide) (fun h428 => ?_) (fun h428 => ?_)
        · refine b_sub [0, 1, 2, 3, 4, 5, 6, 7, 8, 9, 10, 11, 12, 13, 14, 15, 16, 17] rfl ?_
          exact kk _ (Or.inl rfl)
        · refine b_iload dL_go_431 rfl ?_
          refine b_aload dL_go_433 rfl ?_
          refine b_bipush (v := 16) dL_go_435 (by decide) ?_
          refine b_ialdN dL_go_437 rfl ⟨by decide, by decide⟩ ?_
          refine b_icmp_ne (tgt := 447) dL_go_438 (by decide) (fun h438 => ?_) (fun h438 => ?_)
          · refine b_sub [0, 1, 2, 3, 4, 5, 6, 7, 8, 9, 10, 11, 12, 13, 14, 15, 16, 17] rfl ?_
            exact kk _ (Or.inl rfl)
          · refine b_aload dL_go_441 rfl ?_
            refine b_bipush (v := 15) dL_go_443 (by decide) ?_
            refine b_iconst (v := 1) dL_go_445 (by decide) ?_
            refine b_iastN dL_go_446 rfl ⟨by decide, by decide⟩ ?_
            refine b_sub [0, 1, 2, 3, 4, 5, 6, 7, 8, 9, 10, 11, 12, 13, 14, 15, 16, 17] rfl ?_
            exact kk _ (Or.inr rfl)

def gTold (V : kW) (td : Int32) (a b : Nat) (X Y D hv : Int32) : kW := if V.1 41 0 = td then kset (kset (kset (kset (kset (kset V 41 1 D) 41 2 (nI a)) 41 3 (nI b)) 41 4 X) 41 5 Y) 41 6 hv else V

set_option maxRecDepth 100000 in
set_option maxHeartbeats 1000000 in
theorem s_go_337 {Φ : Option Value → kW → Prop} {c old d y k i j a b : Nat} {un till td deg : Int32} {hv : Int32} {V : kW} (kk : BS shL RL cL_go 21 none 1 27 Φ 383 [(0, .ref 39), (1, .ref 40), (2, .int (nI c)), (3, .int un), (4, .int till), (5, .int td), (6, .ref 41), (7, .ref 42), (8, .int (nI old)), (9, .int (nI d)), (10, .int (nI y)), (11, .int (nI k)), (12, .int (nI i)), (13, .int (nI j)), (14, .int deg), (15, .int (nI a)), (16, .int (nI b)), (17, .int hv)] [] (gTold V td a b (nI j) (nI i) (nI d) hv)) : BS shL RL cL_go 21 none 1 27 Φ 337 [(0, .ref 39), (1, .ref 40), (2, .int (nI c)), (3, .int un), (4, .int till), (5, .int td), (6, .ref 41), (7, .ref 42), (8, .int (nI old)), (9, .int (nI d)), (10, .int (nI y)), (11, .int (nI k)), (12, .int (nI i)), (13, .int (nI j)), (14, .int deg), (15, .int (nI a)), (16, .int (nI b)), (17, .int hv)] [] V := by
  refine b_aload dL_go_337 rfl ?_
  refine b_iconst (v := 0) dL_go_339 (by decide) ?_
  refine b_ialdN dL_go_340 rfl ⟨by decide, by decide⟩ ?_
  refine b_iload dL_go_341 rfl ?_
  refine b_icmp_ne (tgt := 383) dL_go_343 (by decide) (fun h343 => ?_) (fun h343 => ?_)
  · refine b_sub [0, 1, 2, 3, 4, 5, 6, 7, 8, 9, 10, 11, 12, 13, 14, 15, 16, 17] rfl ?_
    rw [gTold, if_neg h343] at kk
    exact kk
  · refine b_aload dL_go_346 rfl ?_
    refine b_iconst (v := 1) dL_go_348 (by decide) ?_
    refine b_iload dL_go_349 rfl ?_
    refine b_iastN dL_go_351 rfl ⟨by decide, by decide⟩ ?_
    refine b_aload dL_go_352 rfl ?_
    refine b_iconst (v := 2) dL_go_354 (by decide) ?_
    refine b_iload dL_go_355 rfl ?_
    refine b_iastN dL_go_357 rfl ⟨by decide, by decide⟩ ?_
    refine b_aload dL_go_358 rfl ?_
    refine b_iconst (v := 3) dL_go_360 (by decide) ?_
    refine b_iload dL_go_361 rfl ?_
    refine b_iastN dL_go_363 rfl ⟨by decide, by decide⟩ ?_
    refine b_aload dL_go_364 rfl ?_
    refine b_iconst (v := 4) dL_go_366 (by decide) ?_
    refine b_iload dL_go_367 rfl ?_
    refine b_iastN dL_go_369 rfl ⟨by decide, by decide⟩ ?_
    refine b_aload dL_go_370 rfl ?_
    refine b_iconst (v := 5) dL_go_372 (by decide) ?_
    refine b_iload dL_go_373 rfl ?_
    refine b_iastN dL_go_375 rfl ⟨by decide, by decide⟩ ?_
    refine b_aload dL_go_376 rfl ?_
    refine b_bipush (v := 6) dL_go_378 (by decide) ?_
    refine b_iload dL_go_380 rfl ?_
    refine b_iastN dL_go_382 rfl ⟨by decide, by decide⟩ ?_
    refine b_sub [0, 1, 2, 3, 4, 5, 6, 7, 8, 9, 10, 11, 12, 13, 14, 15, 16, 17] rfl ?_
    rw [gTold, if_pos h343] at kk
    exact kk

set_option maxRecDepth 100000 in
set_option maxHeartbeats 1000000 in
theorem s_go_272n {Φ : Option Value → kW → Prop} {c old d y k i j a b : Nat} {un till td deg : Int32} {x z : Nat} {V : kW} (h6 : a < 6 ∧ b < 6) (h9 : x < 10 ∧ z < 10) (he : x = z) (ex : V.1 39 (9 + a) = nI x) (ez : V.1 39 (9 + b) = nI z) (kk : BS shL RL cL_go 21 none 1 27 Φ 337 [(0, .ref 39), (1, .ref 40), (2, .int (nI c)), (3, .int un), (4, .int till), (5, .int td), (6, .ref 41), (7, .ref 42), (8, .int (nI old)), (9, .int (nI d)), (10, .int (nI y)), (11, .int (nI k)), (12, .int (nI i)), (13, .int (nI j)), (14, .int deg), (15, .int (nI a)), (16, .int (nI b)), (17, .int (-9))] [] (kset V 41 7 (V.1 41 7 ||| mB a b))) : BS shL RL cL_go 21 none 1 27 Φ 272 [(0, .ref 39), (1, .ref 40), (2, .int (nI c)), (3, .int un), (4, .int till), (5, .int td), (6, .ref 41), (7, .ref 42), (8, .int (nI old)), (9, .int (nI d)), (10, .int (nI y)), (11, .int (nI k)), (12, .int (nI i)), (13, .int (nI j)), (14, .int deg), (15, .int (nI a)), (16, .int (nI b))] [] V := by
  obtain ⟨h61, h62⟩ := h6
  obtain ⟨h91, h92⟩ := h9
  refine b_aload dL_go_272 rfl ?_
  refine b_bipush (v := 7) dL_go_274 (by decide) ?_
  refine b_dup2 dL_go_276 rfl rfl ?_
  refine b_ialdN dL_go_277 rfl ⟨by decide, by decide⟩ ?_
  refine b_iconst (v := 1) dL_go_278 (by decide) ?_
  refine b_iload dL_go_279 rfl ?_
  refine b_ishl dL_go_281 ?_
  refine b_iconst (v := 1) dL_go_282 (by decide) ?_
  refine b_iload dL_go_283 rfl ?_
  refine b_ishl dL_go_285 ?_
  refine b_ior dL_go_286 ?_
  refine b_ior dL_go_287 ?_
  refine b_iastN dL_go_288 rfl ⟨by decide, by decide⟩ ?_
  refine b_aload_n dL_go_289 rfl ?_
  refine b_bipush (v := 9) dL_go_290 (by decide) ?_
  refine b_iload dL_go_292 rfl ?_
  refine b_iadd dL_go_294 ?_
  refine b_topi (y := nI (9 + a)) (nI_add 9 a) ?_
  refine b_ialdN dL_go_295 rfl ⟨by omega, by decide⟩ ?_
  refine b_topi (y := nI x) ex ?_
  refine b_aload_n dL_go_296 rfl ?_
  refine b_bipush (v := 9) dL_go_297 (by decide) ?_
  refine b_iload dL_go_299 rfl ?_
  refine b_iadd dL_go_301 ?_
  refine b_topi (y := nI (9 + b)) (nI_add 9 b) ?_
  refine b_ialdN dL_go_302 rfl ⟨by omega, by decide⟩ ?_
  refine b_topi (y := nI z) ez ?_
  refine b_icmp_ge (tgt := 311) dL_go_303 (by decide) (fun h303 => ?_) (fun h303 => ?_)
  · refine b_aload_n dL_go_311 rfl ?_
    refine b_bipush (v := 9) dL_go_312 (by decide) ?_
    refine b_iload dL_go_314 rfl ?_
    refine b_iadd dL_go_316 ?_
    refine b_topi (y := nI (9 + b)) (nI_add 9 b) ?_
    refine b_ialdN dL_go_317 rfl ⟨by omega, by decide⟩ ?_
    refine b_topi (y := nI z) ez ?_
    refine b_aload_n dL_go_318 rfl ?_
    refine b_bipush (v := 9) dL_go_319 (by decide) ?_
    refine b_iload dL_go_321 rfl ?_
    refine b_iadd dL_go_323 ?_
    refine b_topi (y := nI (9 + a)) (nI_add 9 a) ?_
    refine b_ialdN dL_go_324 rfl ⟨by omega, by decide⟩ ?_
    refine b_topi (y := nI x) ex ?_
    refine b_icmp_ge (tgt := 333) dL_go_325 (by decide) (fun h325 => ?_) (fun h325 => ?_)
    · refine b_bipush (v := (-9)) dL_go_333 (by decide) ?_
      refine b_istore dL_go_335 (by decide) ?_
      refine b_sub [1, 2, 3, 4, 5, 6, 7, 8, 9, 10, 11, 12, 13, 14, 15, 16, 17, 0] rfl ?_
      exact kk
    · exact absurd (he ▸ Int32.le_refl _) h325
  · exact absurd (he ▸ Int32.le_refl _) h303

set_option maxRecDepth 100000 in
set_option maxHeartbeats 1000000 in
theorem s_go_272b {Φ : Option Value → kW → Prop} {c old d y k i j a b : Nat} {un till td deg : Int32} {x z : Nat} {V : kW} (h6 : a < 6 ∧ b < 6) (h9 : x < 10 ∧ z < 10) (he : z < x) (ex : V.1 39 (9 + a) = nI x) (ez : V.1 39 (9 + b) = nI z) (kk : BS shL RL cL_go 21 none 1 27 Φ 337 [(0, .ref 39), (1, .ref 40), (2, .int (nI c)), (3, .int un), (4, .int till), (5, .int td), (6, .ref 41), (7, .ref 42), (8, .int (nI old)), (9, .int (nI d)), (10, .int (nI y)), (11, .int (nI k)), (12, .int (nI i)), (13, .int (nI j)), (14, .int deg), (15, .int (nI a)), (16, .int (nI b)), (17, .int (nI b))] [] (kset V 41 7 (V.1 41 7 ||| mB a b))) : BS shL RL cL_go 21 none 1 27 Φ 272 [(0, .ref 39), (1, .ref 40), (2, .int (nI c)), (3, .int un), (4, .int till), (5, .int td), (6, .ref 41), (7, .ref 42), (8, .int (nI old)), (9, .int (nI d)), (10, .int (nI y)), (11, .int (nI k)), (12, .int (nI i)), (13, .int (nI j)), (14, .int deg), (15, .int (nI a)), (16, .int (nI b))] [] V := by
  obtain ⟨h61, h62⟩ := h6
  obtain ⟨h91, h92⟩ := h9
  refine b_aload dL_go_272 rfl ?_
  refine b_bipush (v := 7) dL_go_274 (by decide) ?_
  refine b_dup2 dL_go_276 rfl rfl ?_
  refine b_ialdN dL_go_277 rfl ⟨by decide, by decide⟩ ?_
  refine b_iconst (v := 1) dL_go_278 (by decide) ?_
  refine b_iload dL_go_279 rfl ?_
  refine b_ishl dL_go_281 ?_
  refine b_iconst (v := 1) dL_go_282 (by decide) ?_
  refine b_iload dL_go_283 rfl ?_
  refine b_ishl dL_go_285 ?_
  refine b_ior dL_go_286 ?_
  refine b_ior dL_go_287 ?_
  refine b_iastN dL_go_288 rfl ⟨by decide, by decide⟩ ?_
  refine b_aload_n dL_go_289 rfl ?_
  refine b_bipush (v := 9) dL_go_290 (by decide) ?_
  refine b_iload dL_go_292 rfl ?_
  refine b_iadd dL_go_294 ?_
  refine b_topi (y := nI (9 + a)) (nI_add 9 a) ?_
  refine b_ialdN dL_go_295 rfl ⟨by omega, by decide⟩ ?_
  refine b_topi (y := nI x) ex ?_
  refine b_aload_n dL_go_296 rfl ?_
  refine b_bipush (v := 9) dL_go_297 (by decide) ?_
  refine b_iload dL_go_299 rfl ?_
  refine b_iadd dL_go_301 ?_
  refine b_topi (y := nI (9 + b)) (nI_add 9 b) ?_
  refine b_ialdN dL_go_302 rfl ⟨by omega, by decide⟩ ?_
  refine b_topi (y := nI z) ez ?_
  refine b_icmp_ge (tgt := 311) dL_go_303 (by decide) (fun h303 => ?_) (fun h303 => ?_)
  · refine b_aload_n dL_go_311 rfl ?_
    refine b_bipush (v := 9) dL_go_312 (by decide) ?_
    refine b_iload dL_go_314 rfl ?_
    refine b_iadd dL_go_316 ?_
    refine b_topi (y := nI (9 + b)) (nI_add 9 b) ?_
    refine b_ialdN dL_go_317 rfl ⟨by omega, by decide⟩ ?_
    refine b_topi (y := nI z) ez ?_
    refine b_aload_n dL_go_318 rfl ?_
    refine b_bipush (v := 9) dL_go_319 (by decide) ?_
    refine b_iload dL_go_321 rfl ?_
    refine b_iadd dL_go_323 ?_
    refine b_topi (y := nI (9 + a)) (nI_add 9 a) ?_
    refine b_ialdN dL_go_324 rfl ⟨by omega, by decide⟩ ?_
    refine b_topi (y := nI x) ex ?_
    refine b_icmp_ge (tgt := 333) dL_go_325 (by decide) (fun h325 => ?_) (fun h325 => ?_)
    · exact absurd h325 (nI_ge he (by omega))
    · refine b_iload dL_go_328 rfl ?_
      refine b_goto (tgt := 335) dL_go_330 (by decide) ?_
      refine b_istore dL_go_335 (by decide) ?_
      refine b_sub [1, 2, 3, 4, 5, 6, 7, 8, 9, 10, 11, 12, 13, 14, 15, 16, 17, 0] rfl ?_
      exact kk
  · exact absurd (nI_le (Nat.le_of_lt he) (by omega)) h303

set_option maxRecDepth 100000 in
set_option maxHeartbeats 1000000 in
theorem s_go_272a {Φ : Option Value → kW → Prop} {c old d y k i j a b : Nat} {un till td deg : Int32} {x z : Nat} {V : kW} (h6 : a < 6 ∧ b < 6) (h9 : x < 10 ∧ z < 10) (he : x < z) (ex : V.1 39 (9 + a) = nI x) (ez : V.1 39 (9 + b) = nI z) (kk : BS shL RL cL_go 21 none 1 27 Φ 337 [(0, .ref 39), (1, .ref 40), (2, .int (nI c)), (3, .int un), (4, .int till), (5, .int td), (6, .ref 41), (7, .ref 42), (8, .int (nI old)), (9, .int (nI d)), (10, .int (nI y)), (11, .int (nI k)), (12, .int (nI i)), (13, .int (nI j)), (14, .int deg), (15, .int (nI a)), (16, .int (nI b)), (17, .int (nI a))] [] (kset V 41 7 (V.1 41 7 ||| mB a b))) : BS shL RL cL_go 21 none 1 27 Φ 272 [(0, .ref 39), (1, .ref 40), (2, .int (nI c)), (3, .int un), (4, .int till), (5, .int td), (6, .ref 41), (7, .ref 42), (8, .int (nI old)), (9, .int (nI d)), (10, .int (nI y)), (11, .int (nI k)), (12, .int (nI i)), (13, .int (nI j)), (14, .int deg), (15, .int (nI a)), (16, .int (nI b))] [] V := by
  obtain ⟨h61, h62⟩ := h6
  obtain ⟨h91, h92⟩ := h9
  refine b_aload dL_go_272 rfl ?_
  refine b_bipush (v := 7) dL_go_274 (by decide) ?_
  refine b_dup2 dL_go_276 rfl rfl ?_
  refine b_ialdN dL_go_277 rfl ⟨by decide, by decide⟩ ?_
  refine b_iconst (v := 1) dL_go_278 (by decide) ?_
  refine b_iload dL_go_279 rfl ?_
  refine b_ishl dL_go_281 ?_
  refine b_iconst (v := 1) dL_go_282 (by decide) ?_
  refine b_iload dL_go_283 rfl ?_
  refine b_ishl dL_go_285 ?_
  refine b_ior dL_go_286 ?_
  refine b_ior dL_go_287 ?_
  refine b_iastN dL_go_288 rfl ⟨by decide, by decide⟩ ?_
  refine b_aload_n dL_go_289 rfl ?_
  refine b_bipush (v := 9) dL_go_290 (by decide) ?_
  refine b_iload dL_go_292 rfl ?_
  refine b_iadd dL_go_294 ?_
  refine b_topi (y := nI (9 + a)) (nI_add 9 a) ?_
  refine b_ialdN dL_go_295 rfl ⟨by omega, by decide⟩ ?_
  refine b_topi (y := nI x) ex ?_
  refine b_aload_n dL_go_296 rfl ?_
  refine b_bipush (v := 9) dL_go_297 (by decide) ?_
  refine b_iload dL_go_299 rfl ?_
  refine b_iadd dL_go_301 ?_
  refine b_topi (y := nI (9 + b)) (nI_add 9 b) ?_
  refine b_ialdN dL_go_302 rfl ⟨by omega, by decide⟩ ?_
  refine b_topi (y := nI z) ez ?_
  refine b_icmp_ge (tgt := 311) dL_go_303 (by decide) (fun h303 => ?_) (fun h303 => ?_)
  · exact absurd h303 (nI_ge he (by omega))
  · refine b_iload dL_go_306 rfl ?_
    refine b_goto (tgt := 335) dL_go_308 (by decide) ?_
    refine b_istore dL_go_335 (by decide) ?_
    refine b_sub [1, 2, 3, 4, 5, 6, 7, 8, 9, 10, 11, 12, 13, 14, 15, 16, 17, 0] rfl ?_
    exact kk
