def idM : List Nat := [236, 237, 238, 239, 240, 241, 242, 243, 244, 245, 246, 247, 248, 249, 250, 251, 252, 253, 254, 255, 256, 257, 258, 259, 260, 261, 262, 263, 264, 265, 266, 267, 268, 269, 270, 271, 272, 273, 274, 275, 276]
theorem idM_in : ∀ i, 236 ≤ i ∧ i < 277 → i ∈ idM := by
  have h : ∀ k, k < 41 → 236 + k ∈ idM := by decide +kernel
  intro i hi
  have := h (i - 236) (by omega)
  rwa [show 236 + (i - 236) = i by omega] at this
set_option maxHeartbeats 40000000 in
set_option maxRecDepth 100000 in
theorem m_tail {Γ : GT} {ad : Nat → Nat} {ca : Nat → ClassId} {l0 : Launch} {D0 : va_G} (C : CT idM ad ca Γ cX12_init yX12_init.cls l0 D0 2 48 1) (Rt : RV idM ad ca Γ cX12_init (fun σ => agree idM σ s0)) : AW idM ad ca Γ 340 [some (.ref (ad 236))] [] (hI (fun _ _ => 0, fun _ _ => 0, fun _ => 0) 236 17 (-1)) := by
  have hid := idM_in
  show AW idM ad ca _ 340 [some (.ref (ad 236))] [] _
  refine a_aload_n C dX12_init_340 (i := 0) rfl rfl ?_
  refine a_iconst C dX12_init_341 (v := 0) rfl ?_
  refine a_callVv C (i := 236) kd_236 (hid 236 (by decide)) ⟨_, _, rfl⟩ (by decide) (i_plain hid) mi_X12_plain ml_RX12_140 rfl rfl (Nat.le_of_ble_eq_true rfl) (Nat.le_of_ble_eq_true rfl) (Nat.le_of_ble_eq_true rfl) dX12_init_342 (fun σ2 q3 => ?_)
  subst q3
  refine a_aload_n C dX12_init_345 (i := 0) rfl rfl ?_
  refine a_get C fl_RX12_34 (i := 236) kd_236 (hid 236 (by decide)) (v := .ref (ad 243)) rfl dX12_init_346 ?_
  refine a_iconst C dX12_init_349 (v := 0) rfl ?_
  refine a_bipush C dX12_init_350 (v := 116) rfl ?_
  refine a_bipush C dX12_init_352 (v := 104) rfl ?_
  refine a_bipush C dX12_init_354 (v := 105) rfl ?_
  refine a_bipush C dX12_init_356 (v := 110) rfl ?_
  refine a_bipush C dX12_init_358 (v := 103) rfl ?_
  refine a_iconst C dX12_init_360 (v := 0) rfl ?_
  refine a_iconst C dX12_init_361 (v := 0) rfl ?_
  refine a_callSl C (i_word_0 hid) ms_X12_word ml_RX12_144 rfl rfl (Nat.le_of_ble_eq_true rfl) (Nat.le_of_ble_eq_true rfl) (Nat.le_of_ble_eq_true rfl) dX12_init_362 (fun r4 σ5 q6 => ?_)
  obtain ⟨rfl, q6⟩ := q6
  rw [q6]
  refine a_last C (i := 243) 0 kd_243 (hid 243 (by decide)) (by decide) rfl (by rw [al_243]; decide) dX12_init_365 ?_
  refine a_aload_n C dX12_init_366 (i := 0) rfl rfl ?_
  refine a_get C fl_RX12_34 (i := 236) kd_236 (hid 236 (by decide)) (v := .ref (ad 243)) rfl dX12_init_367 ?_
  refine a_iconst C dX12_init_370 (v := 1) rfl ?_
  refine a_bipush C dX12_init_371 (v := 112) rfl ?_
  refine a_bipush C dX12_init_373 (v := 97) rfl ?_
  refine a_bipush C dX12_init_375 (v := 116) rfl ?_
  refine a_bipush C dX12_init_377 (v := 116) rfl ?_
  refine a_bipush C dX12_init_379 (v := 101) rfl ?_
  refine a_bipush C dX12_init_381 (v := 114) rfl ?_
  refine a_bipush C dX12_init_383 (v := 110) rfl ?_
  refine a_callSl C (i_word_1 hid) ms_X12_word ml_RX12_144 rfl rfl (Nat.le_of_ble_eq_true rfl) (Nat.le_of_ble_eq_true rfl) (Nat.le_of_ble_eq_true rfl) dX12_init_385 (fun r7 σ8 q9 => ?_)
  obtain ⟨rfl, q9⟩ := q9
  rw [q9]
  refine a_last C (i := 243) 1 kd_243 (hid 243 (by decide)) (by decide) rfl (by rw [al_243]; decide) dX12_init_388 ?_
  refine a_aload_n C dX12_init_389 (i := 0) rfl rfl ?_
  refine a_get C fl_RX12_34 (i := 236) kd_236 (hid 236 (by decide)) (v := .ref (ad 243)) rfl dX12_init_390 ?_
  refine a_iconst C dX12_init_393 (v := 2) rfl ?_
  refine a_bipush C dX12_init_394 (v := 116) rfl ?_
  refine a_bipush C dX12_init_396 (v := 105) rfl ?_
  refine a_bipush C dX12_init_398 (v := 114) rfl ?_
  refine a_bipush C dX12_init_400 (v := 101) rfl ?_
  refine a_bipush C dX12_init_402 (v := 115) rfl ?_
  refine a_iconst C dX12_init_404 (v := 0) rfl ?_
  refine a_iconst C dX12_init_405 (v := 0) rfl ?_
  refine a_callSl C (i_word_2 hid) ms_X12_word ml_RX12_144 rfl rfl (Nat.le_of_ble_eq_true rfl) (Nat.le_of_ble_eq_true rfl) (Nat.le_of_ble_eq_true rfl) dX12_init_406 (fun r10 σ11 q12 => ?_)
  obtain ⟨rfl, q12⟩ := q12
  rw [q12]
  refine a_last C (i := 243) 2 kd_243 (hid 243 (by decide)) (by decide) rfl (by rw [al_243]; decide) dX12_init_409 ?_
  refine a_aload_n C dX12_init_410 (i := 0) rfl rfl ?_
  refine a_get C fl_RX12_34 (i := 236) kd_236 (hid 236 (by decide)) (v := .ref (ad 243)) rfl dX12_init_411 ?_
  refine a_iconst C dX12_init_414 (v := 3) rfl ?_
  refine a_bipush C dX12_init_415 (v := 100) rfl ?_
  refine a_bipush C dX12_init_417 (v := 114) rfl ?_
  refine a_bipush C dX12_init_419 (v := 111) rfl ?_
  refine a_bipush C dX12_init_421 (v := 112) rfl ?_
  refine a_bipush C dX12_init_423 (v := 115) rfl ?_
  refine a_iconst C dX12_init_425 (v := 0) rfl ?_
  refine a_iconst C dX12_init_426 (v := 0) rfl ?_
  refine a_callSl C (i_word_3 hid) ms_X12_word ml_RX12_144 rfl rfl (Nat.le_of_ble_eq_true rfl) (Nat.le_of_ble_eq_true rfl) (Nat.le_of_ble_eq_true rfl) dX12_init_427 (fun r13 σ14 q15 => ?_)
  obtain ⟨rfl, q15⟩ := q15
  rw [q15]
  refine a_last C (i := 243) 3 kd_243 (hid 243 (by decide)) (by decide) rfl (by rw [al_243]; decide) dX12_init_430 ?_
  refine a_aload_n C dX12_init_431 (i := 0) rfl rfl ?_
  refine a_get C fl_RX12_34 (i := 236) kd_236 (hid 236 (by decide)) (v := .ref (ad 243)) rfl dX12_init_432 ?_
  refine a_iconst C dX12_init_435 (v := 4) rfl ?_
  refine a_bipush C dX12_init_436 (v := 102) rfl ?_
  refine a_bipush C dX12_init_438 (v := 111) rfl ?_
  refine a_bipush C dX12_init_440 (v := 114) rfl ?_
  refine a_bipush C dX12_init_442 (v := 99) rfl ?_
  refine a_bipush C dX12_init_444 (v := 101) rfl ?_
  refine a_iconst C dX12_init_446 (v := 0) rfl ?_
  refine a_iconst C dX12_init_447 (v := 0) rfl ?_
  refine a_callSl C (i_word_4 hid) ms_X12_word ml_RX12_144 rfl rfl (Nat.le_of_ble_eq_true rfl) (Nat.le_of_ble_eq_true rfl) (Nat.le_of_ble_eq_true rfl) dX12_init_448 (fun r16 σ17 q18 => ?_)
  obtain ⟨rfl, q18⟩ := q18
  rw [q18]
  refine a_last C (i := 243) 4 kd_243 (hid 243 (by decide)) (by decide) rfl (by rw [al_243]; decide) dX12_init_451 ?_
  refine a_aload_n C dX12_init_452 (i := 0) rfl rfl ?_
  refine a_get C fl_RX12_34 (i := 236) kd_236 (hid 236 (by decide)) (v := .ref (ad 243)) rfl dX12_init_453 ?_
  refine a_iconst C dX12_init_456 (v := 5) rfl ?_
  refine a_bipush C dX12_init_457 (v := 112) rfl ?_
  refine a_bipush C dX12_init_459 (v := 97) rfl ?_
  refine a_bipush C dX12_init_461 (v := 121) rfl ?_
  refine a_bipush C dX12_init_463 (v := 115) rfl ?_
  refine a_iconst C dX12_init_465 (v := 0) rfl ?_
  refine a_iconst C dX12_init_466 (v := 0) rfl ?_
  refine a_iconst C dX12_init_467 (v := 0) rfl ?_
  refine a_callSl C (i_word_5 hid) ms_X12_word ml_RX12_144 rfl rfl (Nat.le_of_ble_eq_true rfl) (Nat.le_of_ble_eq_true rfl) (Nat.le_of_ble_eq_true rfl) dX12_init_468 (fun r19 σ20 q21 => ?_)
  obtain ⟨rfl, q21⟩ := q21
  rw [q21]
  refine a_last C (i := 243) 5 kd_243 (hid 243 (by decide)) (by decide) rfl (by rw [al_243]; decide) dX12_init_471 ?_
  refine a_aload_n C dX12_init_472 (i := 0) rfl rfl ?_
  refine a_get C fl_RX12_34 (i := 236) kd_236 (hid 236 (by decide)) (v := .ref (ad 243)) rfl dX12_init_473 ?_
  refine a_bipush C dX12_init_476 (v := 6) rfl ?_
  refine a_bipush C dX12_init_478 (v := 114) rfl ?_
  refine a_bipush C dX12_init_480 (v := 101) rfl ?_
  refine a_bipush C dX12_init_482 (v := 115) rfl ?_
  refine a_bipush C dX12_init_484 (v := 116) rfl ?_
  refine a_bipush C dX12_init_486 (v := 115) rfl ?_
  refine a_iconst C dX12_init_488 (v := 0) rfl ?_
  refine a_iconst C dX12_init_489 (v := 0) rfl ?_
  refine a_callSl C (i_word_6 hid) ms_X12_word ml_RX12_144 rfl rfl (Nat.le_of_ble_eq_true rfl) (Nat.le_of_ble_eq_true rfl) (Nat.le_of_ble_eq_true rfl) dX12_init_490 (fun r22 σ23 q24 => ?_)
  obtain ⟨rfl, q24⟩ := q24
  rw [q24]
  refine a_last C (i := 243) 6 kd_243 (hid 243 (by decide)) (by decide) rfl (by rw [al_243]; decide) dX12_init_493 ?_
  refine a_aload_n C dX12_init_494 (i := 0) rfl rfl ?_
  refine a_get C fl_RX12_34 (i := 236) kd_236 (hid 236 (by decide)) (v := .ref (ad 243)) rfl dX12_init_495 ?_
  refine a_bipush C dX12_init_498 (v := 7) rfl ?_
  refine a_bipush C dX12_init_500 (v := 115) rfl ?_
  refine a_bipush C dX12_init_502 (v := 101) rfl ?_
  refine a_bipush C dX12_init_504 (v := 101) rfl ?_
  refine a_bipush C dX12_init_506 (v := 100) rfl ?_
  refine a_iconst C dX12_init_508 (v := 0) rfl ?_
  refine a_iconst C dX12_init_509 (v := 0) rfl ?_
  refine a_iconst C dX12_init_510 (v := 0) rfl ?_
  refine a_callSl C (i_word_7 hid) ms_X12_word ml_RX12_144 rfl rfl (Nat.le_of_ble_eq_true rfl) (Nat.le_of_ble_eq_true rfl) (Nat.le_of_ble_eq_true rfl) dX12_init_511 (fun r25 σ26 q27 => ?_)
  obtain ⟨rfl, q27⟩ := q27
  rw [q27]
  refine a_last C (i := 243) 7 kd_243 (hid 243 (by decide)) (by decide) rfl (by rw [al_243]; decide) dX12_init_514 ?_
  refine a_aload_n C dX12_init_515 (i := 0) rfl rfl ?_
  refine a_get C fl_RX12_34 (i := 236) kd_236 (hid 236 (by decide)) (v := .ref (ad 243)) rfl dX12_init_516 ?_
  refine a_bipush C dX12_init_519 (v := 8) rfl ?_
  refine a_bipush C dX12_init_521 (v := 105) rfl ?_
  refine a_bipush C dX12_init_523 (v := 102) rfl ?_
  refine a_iconst C dX12_init_525 (v := 0) rfl ?_
  refine a_iconst C dX12_init_526 (v := 0) rfl ?_
  refine a_iconst C dX12_init_527 (v := 0) rfl ?_
  refine a_iconst C dX12_init_528 (v := 0) rfl ?_
  refine a_iconst C dX12_init_529 (v := 0) rfl ?_
  refine a_callSl C (i_word_8 hid) ms_X12_word ml_RX12_144 rfl rfl (Nat.le_of_ble_eq_true rfl) (Nat.le_of_ble_eq_true rfl) (Nat.le_of_ble_eq_true rfl) dX12_init_530 (fun r28 σ29 q30 => ?_)
  obtain ⟨rfl, q30⟩ := q30
  rw [q30]
  refine a_last C (i := 243) 8 kd_243 (hid 243 (by decide)) (by decide) rfl (by rw [al_243]; decide) dX12_init_533 ?_
  refine a_aload_n C dX12_init_534 (i := 0) rfl rfl ?_
  refine a_get C fl_RX12_34 (i := 236) kd_236 (hid 236 (by decide)) (v := .ref (ad 243)) rfl dX12_init_535 ?_
  refine a_bipush C dX12_init_538 (v := 9) rfl ?_
  refine a_bipush C dX12_init_540 (v := 116) rfl ?_
  refine a_bipush C dX12_init_542 (v := 104) rfl ?_
  refine a_bipush C dX12_init_544 (v := 101) rfl ?_
  refine a_bipush C dX12_init_546 (v := 110) rfl ?_
  refine a_iconst C dX12_init_548 (v := 0) rfl ?_
  refine a_iconst C dX12_init_549 (v := 0) rfl ?_
  refine a_iconst C dX12_init_550 (v := 0) rfl ?_
  refine a_callSl C (i_word_9 hid) ms_X12_word ml_RX12_144 rfl rfl (Nat.le_of_ble_eq_true rfl) (Nat.le_of_ble_eq_true rfl) (Nat.le_of_ble_eq_true rfl) dX12_init_551 (fun r31 σ32 q33 => ?_)
  obtain ⟨rfl, q33⟩ := q33
  rw [q33]
  refine a_last C (i := 243) 9 kd_243 (hid 243 (by decide)) (by decide) rfl (by rw [al_243]; decide) dX12_init_554 ?_
  refine a_aload_n C dX12_init_555 (i := 0) rfl rfl ?_
  refine a_get C fl_RX12_34 (i := 236) kd_236 (hid 236 (by decide)) (v := .ref (ad 243)) rfl dX12_init_556 ?_
  refine a_bipush C dX12_init_559 (v := 10) rfl ?_
  refine a_bipush C dX12_init_561 (v := 101) rfl ?_
  refine a_bipush C dX12_init_563 (v := 108) rfl ?_
  refine a_bipush C dX12_init_565 (v := 115) rfl ?_
  refine a_bipush C dX12_init_567 (v := 101) rfl ?_
  refine a_iconst C dX12_init_569 (v := 0) rfl ?_
  refine a_iconst C dX12_init_570 (v := 0) rfl ?_
  refine a_iconst C dX12_init_571 (v := 0) rfl ?_
  refine a_callSl C (i_word_10 hid) ms_X12_word ml_RX12_144 rfl rfl (Nat.le_of_ble_eq_true rfl) (Nat.le_of_ble_eq_true rfl) (Nat.le_of_ble_eq_true rfl) dX12_init_572 (fun r34 σ35 q36 => ?_)
  obtain ⟨rfl, q36⟩ := q36
  rw [q36]
  refine a_last C (i := 243) 10 kd_243 (hid 243 (by decide)) (by decide) rfl (by rw [al_243]; decide) dX12_init_575 ?_
  refine a_aload_n C dX12_init_576 (i := 0) rfl rfl ?_
  refine a_get C fl_RX12_34 (i := 236) kd_236 (hid 236 (by decide)) (v := .ref (ad 243)) rfl dX12_init_577 ?_
  refine a_bipush C dX12_init_580 (v := 11) rfl ?_
  refine a_bipush C dX12_init_582 (v := 119) rfl ?_
  refine a_bipush C dX12_init_584 (v := 101) rfl ?_
  refine a_bipush C dX12_init_586 (v := 105) rfl ?_
  refine a_bipush C dX12_init_588 (v := 103) rfl ?_
  refine a_bipush C dX12_init_590 (v := 104) rfl ?_
  refine a_bipush C dX12_init_592 (v := 116) rfl ?_
  refine a_iconst C dX12_init_594 (v := 0) rfl ?_
  refine a_callSl C (i_word_11 hid) ms_X12_word ml_RX12_144 rfl rfl (Nat.le_of_ble_eq_true rfl) (Nat.le_of_ble_eq_true rfl) (Nat.le_of_ble_eq_true rfl) dX12_init_595 (fun r37 σ38 q39 => ?_)
  obtain ⟨rfl, q39⟩ := q39
  rw [q39]
  refine a_last C (i := 243) 11 kd_243 (hid 243 (by decide)) (by decide) rfl (by rw [al_243]; decide) dX12_init_598 ?_
  refine a_aload_n C dX12_init_599 (i := 0) rfl rfl ?_
  refine a_get C fl_RX12_34 (i := 236) kd_236 (hid 236 (by decide)) (v := .ref (ad 243)) rfl dX12_init_600 ?_
  refine a_bipush C dX12_init_603 (v := 12) rfl ?_
  refine a_bipush C dX12_init_605 (v := 101) rfl ?_
  refine a_bipush C dX12_init_607 (v := 100) rfl ?_
  refine a_bipush C dX12_init_609 (v := 103) rfl ?_
  refine a_bipush C dX12_init_611 (v := 101) rfl ?_
  refine a_iconst C dX12_init_613 (v := 0) rfl ?_
  refine a_iconst C dX12_init_614 (v := 0) rfl ?_
  refine a_iconst C dX12_init_615 (v := 0) rfl ?_
  refine a_callSl C (i_word_12 hid) ms_X12_word ml_RX12_144 rfl rfl (Nat.le_of_ble_eq_true rfl) (Nat.le_of_ble_eq_true rfl) (Nat.le_of_ble_eq_true rfl) dX12_init_616 (fun r40 σ41 q42 => ?_)
  obtain ⟨rfl, q42⟩ := q42
  rw [q42]
  refine a_last C (i := 243) 12 kd_243 (hid 243 (by decide)) (by decide) rfl (by rw [al_243]; decide) dX12_init_619 ?_
  refine a_aload_n C dX12_init_620 (i := 0) rfl rfl ?_
  refine a_get C fl_RX12_34 (i := 236) kd_236 (hid 236 (by decide)) (v := .ref (ad 243)) rfl dX12_init_621 ?_
  refine a_bipush C dX12_init_624 (v := 13) rfl ?_
  refine a_bipush C dX12_init_626 (v := 104) rfl ?_
  refine a_bipush C dX12_init_628 (v := 101) rfl ?_
  refine a_bipush C dX12_init_630 (v := 105) rfl ?_
  refine a_bipush C dX12_init_632 (v := 103) rfl ?_
  refine a_bipush C dX12_init_634 (v := 104) rfl ?_
  refine a_bipush C dX12_init_636 (v := 116) rfl ?_
  refine a_iconst C dX12_init_638 (v := 0) rfl ?_
  refine a_callSl C (i_word_13 hid) ms_X12_word ml_RX12_144 rfl rfl (Nat.le_of_ble_eq_true rfl) (Nat.le_of_ble_eq_true rfl) (Nat.le_of_ble_eq_true rfl) dX12_init_639 (fun r43 σ44 q45 => ?_)
  obtain ⟨rfl, q45⟩ := q45
  rw [q45]
  refine a_last C (i := 243) 13 kd_243 (hid 243 (by decide)) (by decide) rfl (by rw [al_243]; decide) dX12_init_642 ?_
  refine a_aload_n C dX12_init_643 (i := 0) rfl rfl ?_
  refine a_get C fl_RX12_34 (i := 236) kd_236 (hid 236 (by decide)) (v := .ref (ad 243)) rfl dX12_init_644 ?_
  refine a_bipush C dX12_init_647 (v := 14) rfl ?_
  refine a_bipush C dX12_init_649 (v := 98) rfl ?_
  refine a_bipush C dX12_init_651 (v := 101) rfl ?_
  refine a_bipush C dX12_init_653 (v := 97) rfl ?_
  refine a_bipush C dX12_init_655 (v := 116) rfl ?_
  refine a_iconst C dX12_init_657 (v := 0) rfl ?_
  refine a_iconst C dX12_init_658 (v := 0) rfl ?_
  refine a_iconst C dX12_init_659 (v := 0) rfl ?_
  refine a_callSl C (i_word_14 hid) ms_X12_word ml_RX12_144 rfl rfl (Nat.le_of_ble_eq_true rfl) (Nat.le_of_ble_eq_true rfl) (Nat.le_of_ble_eq_true rfl) dX12_init_660 (fun r46 σ47 q48 => ?_)
  obtain ⟨rfl, q48⟩ := q48
  rw [q48]
  refine a_last C (i := 243) 14 kd_243 (hid 243 (by decide)) (by decide) rfl (by rw [al_243]; decide) dX12_init_663 ?_
  refine a_aload_n C dX12_init_664 (i := 0) rfl rfl ?_
  refine a_get C fl_RX12_34 (i := 236) kd_236 (hid 236 (by decide)) (v := .ref (ad 243)) rfl dX12_init_665 ?_
  refine a_bipush C dX12_init_668 (v := 15) rfl ?_
  refine a_bipush C dX12_init_670 (v := 116) rfl ?_
  refine a_bipush C dX12_init_672 (v := 105) rfl ?_
  refine a_bipush C dX12_init_674 (v := 114) rfl ?_
  refine a_bipush C dX12_init_676 (v := 101) rfl ?_
  refine a_bipush C dX12_init_678 (v := 100) rfl ?_
  refine a_iconst C dX12_init_680 (v := 0) rfl ?_
  refine a_iconst C dX12_init_681 (v := 0) rfl ?_
  refine a_callSl C (i_word_15 hid) ms_X12_word ml_RX12_144 rfl rfl (Nat.le_of_ble_eq_true rfl) (Nat.le_of_ble_eq_true rfl) (Nat.le_of_ble_eq_true rfl) dX12_init_682 (fun r49 σ50 q51 => ?_)
  obtain ⟨rfl, q51⟩ := q51
  rw [q51]
  refine a_last C (i := 243) 15 kd_243 (hid 243 (by decide)) (by decide) rfl (by rw [al_243]; decide) dX12_init_685 ?_
  refine a_aload_n C dX12_init_686 (i := 0) rfl rfl ?_
  refine a_get C fl_RX12_34 (i := 236) kd_236 (hid 236 (by decide)) (v := .ref (ad 243)) rfl dX12_init_687 ?_
  refine a_bipush C dX12_init_690 (v := 16) rfl ?_
  refine a_bipush C dX12_init_692 (v := 117) rfl ?_
  refine a_bipush C dX12_init_694 (v := 112) rfl ?_
  refine a_iconst C dX12_init_696 (v := 0) rfl ?_
  refine a_iconst C dX12_init_697 (v := 0) rfl ?_
  refine a_iconst C dX12_init_698 (v := 0) rfl ?_
  refine a_iconst C dX12_init_699 (v := 0) rfl ?_
  refine a_iconst C dX12_init_700 (v := 0) rfl ?_
  refine a_callSl C (i_word_16 hid) ms_X12_word ml_RX12_144 rfl rfl (Nat.le_of_ble_eq_true rfl) (Nat.le_of_ble_eq_true rfl) (Nat.le_of_ble_eq_true rfl) dX12_init_701 (fun r52 σ53 q54 => ?_)
  obtain ⟨rfl, q54⟩ := q54
  rw [q54]
  refine a_last C (i := 243) 16 kd_243 (hid 243 (by decide)) (by decide) rfl (by rw [al_243]; decide) dX12_init_704 ?_
  refine a_aload_n C dX12_init_705 (i := 0) rfl rfl ?_
  refine a_get C fl_RX12_34 (i := 236) kd_236 (hid 236 (by decide)) (v := .ref (ad 243)) rfl dX12_init_706 ?_
  refine a_bipush C dX12_init_709 (v := 17) rfl ?_
  refine a_bipush C dX12_init_711 (v := 119) rfl ?_
  refine a_bipush C dX12_init_713 (v := 104) rfl ?_
  refine a_bipush C dX12_init_715 (v := 105) rfl ?_
  refine a_bipush C dX12_init_717 (v := 99) rfl ?_
  refine a_bipush C dX12_init_719 (v := 104) rfl ?_
  refine a_iconst C dX12_init_721 (v := 0) rfl ?_
  refine a_iconst C dX12_init_722 (v := 0) rfl ?_
  refine a_callSl C (i_word_17 hid) ms_X12_word ml_RX12_144 rfl rfl (Nat.le_of_ble_eq_true rfl) (Nat.le_of_ble_eq_true rfl) (Nat.le_of_ble_eq_true rfl) dX12_init_723 (fun r55 σ56 q57 => ?_)
  obtain ⟨rfl, q57⟩ := q57
  rw [q57]
  refine a_last C (i := 243) 17 kd_243 (hid 243 (by decide)) (by decide) rfl (by rw [al_243]; decide) dX12_init_726 ?_
  refine a_aload_n C dX12_init_727 (i := 0) rfl rfl ?_
  refine a_get C fl_RX12_34 (i := 236) kd_236 (hid 236 (by decide)) (v := .ref (ad 243)) rfl dX12_init_728 ?_
  refine a_bipush C dX12_init_731 (v := 18) rfl ?_
  refine a_bipush C dX12_init_733 (v := 99) rfl ?_
  refine a_bipush C dX12_init_735 (v := 97) rfl ?_
  refine a_bipush C dX12_init_737 (v := 117) rfl ?_
  refine a_bipush C dX12_init_739 (v := 103) rfl ?_
  refine a_bipush C dX12_init_741 (v := 104) rfl ?_
  refine a_bipush C dX12_init_743 (v := 116) rfl ?_
  refine a_iconst C dX12_init_745 (v := 0) rfl ?_
  refine a_callSl C (i_word_18 hid) ms_X12_word ml_RX12_144 rfl rfl (Nat.le_of_ble_eq_true rfl) (Nat.le_of_ble_eq_true rfl) (Nat.le_of_ble_eq_true rfl) dX12_init_746 (fun r58 σ59 q60 => ?_)
  obtain ⟨rfl, q60⟩ := q60
  rw [q60]
  refine a_last C (i := 243) 18 kd_243 (hid 243 (by decide)) (by decide) rfl (by rw [al_243]; decide) dX12_init_749 ?_
  refine a_aload_n C dX12_init_750 (i := 0) rfl rfl ?_
  refine a_get C fl_RX12_34 (i := 236) kd_236 (hid 236 (by decide)) (v := .ref (ad 243)) rfl dX12_init_751 ?_
  refine a_bipush C dX12_init_754 (v := 19) rfl ?_
  refine a_bipush C dX12_init_756 (v := 104) rfl ?_
  refine a_bipush C dX12_init_758 (v := 97) rfl ?_
  refine a_bipush C dX12_init_760 (v := 110) rfl ?_
  refine a_bipush C dX12_init_762 (v := 100) rfl ?_
  refine a_iconst C dX12_init_764 (v := 0) rfl ?_
  refine a_iconst C dX12_init_765 (v := 0) rfl ?_
  refine a_iconst C dX12_init_766 (v := 0) rfl ?_
  refine a_callSl C (i_word_19 hid) ms_X12_word ml_RX12_144 rfl rfl (Nat.le_of_ble_eq_true rfl) (Nat.le_of_ble_eq_true rfl) (Nat.le_of_ble_eq_true rfl) dX12_init_767 (fun r61 σ62 q63 => ?_)
  obtain ⟨rfl, q63⟩ := q63
  rw [q63]
  refine a_last C (i := 243) 19 kd_243 (hid 243 (by decide)) (by decide) rfl (by rw [al_243]; decide) dX12_init_770 ?_
  refine a_aload_n C dX12_init_771 (i := 0) rfl rfl ?_
  refine a_callVv C (i := 236) kd_236 (hid 236 (by decide)) ⟨_, _, rfl⟩ (by decide) (i_begins hid rfl rfl rfl rfl) mi_X12_begins ml_RX12_148 rfl rfl (Nat.le_of_ble_eq_true rfl) (Nat.le_of_ble_eq_true rfl) (Nat.le_of_ble_eq_true rfl) dX12_init_772 (fun σ65 q66 => ?_)
  subst q66
  refine a_aload_n C dX12_init_775 (i := 0) rfl rfl ?_
  refine a_callVv C (i := 236) kd_236 (hid 236 (by decide)) ⟨_, _, rfl⟩ (by decide) (i_keepsRow hid rfl rfl rfl rfl rfl rfl rfl rfl rfl rfl rfl rfl rfl rfl rfl rfl rfl rfl rfl rfl rfl rfl rfl rfl rfl rfl rfl rfl rfl) mi_X12_keepsRow ml_RX12_151 rfl rfl (Nat.le_of_ble_eq_true rfl) (Nat.le_of_ble_eq_true rfl) (Nat.le_of_ble_eq_true rfl) dX12_init_776 (fun σ68 q69 => ?_)
  subst q69
  refine a_vret Rt dX12_init_779 ⟨fun i hi => ?_, fun h => absurd h (by decide)⟩
  simp only [idM, List.mem_cons, List.not_mem_nil, or_false] at hi
  rcases hi with rfl | rfl | rfl | rfl | rfl | rfl | rfl | rfl | rfl | rfl | rfl | rfl | rfl | rfl | rfl | rfl | rfl | rfl | rfl | rfl | rfl | rfl | rfl | rfl | rfl | rfl | rfl | rfl | rfl | rfl | rfl | rfl | rfl | rfl | rfl | rfl | rfl | rfl | rfl | rfl | rfl
  · decide +kernel
  · intro j _; exact ⟨rfl, rfl⟩
  · intro j _; exact ⟨rfl, rfl⟩
  · intro j _; exact ⟨rfl, rfl⟩
  · intro j _; exact ⟨rfl, rfl⟩
  · intro j _; exact ⟨rfl, rfl⟩
  · intro j _; exact ⟨rfl, rfl⟩
  · decide +kernel
  · intro j _; exact ⟨rfl, rfl⟩
  · decide +kernel
  · intro j _; exact ⟨rfl, rfl⟩
  · intro j _; exact ⟨rfl, rfl⟩
  · intro j _; exact ⟨rfl, rfl⟩
  · decide +kernel
  · intro j _; exact ⟨rfl, rfl⟩
  · intro j _; exact ⟨rfl, rfl⟩
  · decide +kernel
  · decide +kernel
  · decide +kernel
  · decide +kernel
  · intro j _; exact ⟨rfl, rfl⟩
  · intro j _; exact ⟨rfl, rfl⟩
  · intro j _; exact ⟨rfl, rfl⟩
  · intro j _; exact ⟨rfl, rfl⟩
  · intro j _; exact ⟨rfl, rfl⟩
  · intro j _; exact ⟨rfl, rfl⟩
  · intro j _; exact ⟨rfl, rfl⟩
  · intro j _; exact ⟨rfl, rfl⟩
  · intro j _; exact ⟨rfl, rfl⟩
  · intro j _; exact ⟨rfl, rfl⟩
  · decide +kernel
  · decide +kernel
  · intro j _; exact ⟨rfl, rfl⟩
  · intro j _; exact ⟨rfl, rfl⟩
  · intro j _; exact ⟨rfl, rfl⟩
  · intro j _; exact ⟨rfl, rfl⟩
  · intro j _; exact ⟨rfl, rfl⟩
  · intro j _; exact ⟨rfl, rfl⟩
  · intro j _; exact ⟨rfl, rfl⟩
  · intro j _; exact ⟨rfl, rfl⟩
  · intro j _; exact ⟨rfl, rfl⟩

