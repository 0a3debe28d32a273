/-! the law's calls, a row each -/
set_option maxHeartbeats 4000000 in
set_option maxRecDepth 100000 in
theorem lz_takes {p : Program} {l : Launch} {e : Env} {s : State} {m : MethodId} {below : List Frame} {meth : Method} {c : Code} {G : GG} {b L : Nat} {xs : Nat → Int32} (X : LzX p s m meth c G b L xs) {x : Int32} (hin : ∀ j, j ≤ 6 → vp_in (x + nI j) L) {σ : St} (hJ : JJ σ) (kk : ∀ υ, JJ υ → LzW p l e s m below meth c G b 1242 x υ) : LzW p l e s m below meth c G b 428 x σ := by
  intro H locs ls hR hS hl
  obtain ⟨C, hX, hbl, hbA⟩ := X
  have hx := C.1
  have hb := C.2.1
  obtain ⟨r, τ, υ, hf, hg, hJ⟩ := eq_takes hJ (xs (x + nI 1).toNatClampNeg) (xs (x + nI 2).toNatClampNeg) (xs (x + nI 3).toNatClampNeg) (xs (x + nI 4).toNatClampNeg) (xs (x + nI 5).toNatClampNeg)
  refine lv_aload_n hx hb dL_law_428 rfl (lv_at hl 1 rfl) ?_
  refine lv_aload_n hx hb dL_law_429 rfl (lv_at hl 0 rfl) ?_
  refine lv_iload_n hx hb dL_law_430 rfl (lv_at hl 3 rfl) ?_
  refine lv_iconst (v := nI 1) hx hb dL_law_431 (by decide) ?_
  refine lv_iadd hx hb dL_law_432 ?_
  refine va_sld hx hb hX hbl hbA hS (hin 1 (by decide)) dL_law_433 ?_
  refine lv_aload_n hx hb dL_law_434 rfl (lv_at hl 0 rfl) ?_
  refine lv_iload_n hx hb dL_law_435 rfl (lv_at hl 3 rfl) ?_
  refine lv_iconst (v := nI 2) hx hb dL_law_436 (by decide) ?_
  refine lv_iadd hx hb dL_law_437 ?_
  refine va_sld hx hb hX hbl hbA hS (hin 2 (by decide)) dL_law_438 ?_
  refine lv_aload_n hx hb dL_law_439 rfl (lv_at hl 0 rfl) ?_
  refine lv_iload_n hx hb dL_law_440 rfl (lv_at hl 3 rfl) ?_
  refine lv_iconst (v := nI 3) hx hb dL_law_441 (by decide) ?_
  refine lv_iadd hx hb dL_law_442 ?_
  refine va_sld hx hb hX hbl hbA hS (hin 3 (by decide)) dL_law_443 ?_
  refine lv_aload_n hx hb dL_law_444 rfl (lv_at hl 0 rfl) ?_
  refine lv_iload_n hx hb dL_law_445 rfl (lv_at hl 3 rfl) ?_
  refine lv_iconst (v := nI 4) hx hb dL_law_446 (by decide) ?_
  refine lv_iadd hx hb dL_law_447 ?_
  refine va_sld hx hb hX hbl hbA hS (hin 4 (by decide)) dL_law_448 ?_
  refine lv_aload_n hx hb dL_law_449 rfl (lv_at hl 0 rfl) ?_
  refine lv_iload_n hx hb dL_law_450 rfl (lv_at hl 3 rfl) ?_
  refine lv_iconst (v := nI 5) hx hb dL_law_451 (by decide) ?_
  refine lv_iadd hx hb dL_law_452 ?_
  refine va_sld hx hb hX hbl hbA hS (hin 5 (by decide)) dL_law_453 ?_
  refine x_cvI C hl.1 hR hS (c_X5_takes l G (xs (x + nI 1).toNatClampNeg) (xs (x + nI 2).toNatClampNeg) (xs (x + nI 3).toNatClampNeg) (xs (x + nI 4).toNatClampNeg) (xs (x + nI 5).toNatClampNeg) σ _ hf) gL_law_X5_takes rfl hdV_X5_takes ⟨Nat.le_of_ble_eq_true rfl, Nat.le_of_ble_eq_true rfl⟩ (by decide) (cz4 rfl) rfl rfl (As := [.int (xs (x + nI 1).toNatClampNeg), .int (xs (x + nI 2).toNatClampNeg), .int (xs (x + nI 3).toNatClampNeg), .int (xs (x + nI 4).toNatClampNeg), .int (xs (x + nI 5).toNatClampNeg)]) (rest := []) rfl (Nat.le_of_ble_eq_true rfl) ⟨Nat.le_of_ble_eq_true rfl, Nat.le_of_ble_eq_true rfl⟩ dL_law_454 (fun r1 σ1 H locs hq1 hR hS => ?_)
  have hR : Rp G τ H := by rw [hq1.2] at hR; exact hR
  refine lv_aload_n hx hb dL_law_457 rfl (lv_at hl 2 rfl) ?_
  refine lv_aload_n hx hb dL_law_458 rfl (lv_at hl 0 rfl) ?_
  refine lv_iload_n hx hb dL_law_459 rfl (lv_at hl 3 rfl) ?_
  refine lv_iconst (v := nI 1) hx hb dL_law_460 (by decide) ?_
  refine lv_iadd hx hb dL_law_461 ?_
  refine va_sld hx hb hX hbl hbA hS (hin 1 (by decide)) dL_law_462 ?_
  refine lv_aload_n hx hb dL_law_463 rfl (lv_at hl 0 rfl) ?_
  refine lv_iload_n hx hb dL_law_464 rfl (lv_at hl 3 rfl) ?_
  refine lv_iconst (v := nI 2) hx hb dL_law_465 (by decide) ?_
  refine lv_iadd hx hb dL_law_466 ?_
  refine va_sld hx hb hX hbl hbA hS (hin 2 (by decide)) dL_law_467 ?_
  refine lv_aload_n hx hb dL_law_468 rfl (lv_at hl 0 rfl) ?_
  refine lv_iload_n hx hb dL_law_469 rfl (lv_at hl 3 rfl) ?_
  refine lv_iconst (v := nI 3) hx hb dL_law_470 (by decide) ?_
  refine lv_iadd hx hb dL_law_471 ?_
  refine va_sld hx hb hX hbl hbA hS (hin 3 (by decide)) dL_law_472 ?_
  refine lv_aload_n hx hb dL_law_473 rfl (lv_at hl 0 rfl) ?_
  refine lv_iload_n hx hb dL_law_474 rfl (lv_at hl 3 rfl) ?_
  refine lv_iconst (v := nI 4) hx hb dL_law_475 (by decide) ?_
  refine lv_iadd hx hb dL_law_476 ?_
  refine va_sld hx hb hX hbl hbA hS (hin 4 (by decide)) dL_law_477 ?_
  refine lv_aload_n hx hb dL_law_478 rfl (lv_at hl 0 rfl) ?_
  refine lv_iload_n hx hb dL_law_479 rfl (lv_at hl 3 rfl) ?_
  refine lv_iconst (v := nI 5) hx hb dL_law_480 (by decide) ?_
  refine lv_iadd hx hb dL_law_481 ?_
  refine va_sld hx hb hX hbl hbA hS (hin 5 (by decide)) dL_law_482 ?_
  refine x_cvI C hl.1 hR hS (c_X6_takes l G (xs (x + nI 1).toNatClampNeg) (xs (x + nI 2).toNatClampNeg) (xs (x + nI 3).toNatClampNeg) (xs (x + nI 4).toNatClampNeg) (xs (x + nI 5).toNatClampNeg) τ _ hg) gL_law_X6_takes rfl hdV_X6_takes ⟨Nat.le_of_ble_eq_true rfl, Nat.le_of_ble_eq_true rfl⟩ (by decide) (cz5 rfl) rfl rfl (As := [.int (xs (x + nI 1).toNatClampNeg), .int (xs (x + nI 2).toNatClampNeg), .int (xs (x + nI 3).toNatClampNeg), .int (xs (x + nI 4).toNatClampNeg), .int (xs (x + nI 5).toNatClampNeg)]) (rest := [.int r1]) rfl (Nat.le_of_ble_eq_true rfl) ⟨Nat.le_of_ble_eq_true rfl, Nat.le_of_ble_eq_true rfl⟩ dL_law_483 (fun r2 σ2 H locs hq2 hR hS => ?_)
  have hR : Rp G υ H := by rw [hq2.2] at hR; exact hR
  exact lv_icmp_eq (tgt := 1242) hx hb dL_law_486 (by decide) (fun _ => kk υ hJ _ _ _ hR hS hl) (fun h => absurd (hq1.1.trans hq2.1.symm) h)
set_option maxHeartbeats 4000000 in
set_option maxRecDepth 100000 in
theorem lz_at {p : Program} {l : Launch} {e : Env} {s : State} {m : MethodId} {below : List Frame} {meth : Method} {c : Code} {G : GG} {b L : Nat} {xs : Nat → Int32} (X : LzX p s m meth c G b L xs) {x : Int32} (hin : ∀ j, j ≤ 6 → vp_in (x + nI j) L) {σ : St} (hJ : JJ σ) (kk : ∀ υ, JJ υ → LzW p l e s m below meth c G b 1242 x υ) : LzW p l e s m below meth c G b 491 x σ := by
  intro H locs ls hR hS hl
  obtain ⟨C, hX, hbl, hbA⟩ := X
  have hx := C.1
  have hb := C.2.1
  obtain ⟨r, τ, υ, hf, hg, hJ⟩ := eq_at hJ (xs (x + nI 1).toNatClampNeg) (xs (x + nI 2).toNatClampNeg) (xs (x + nI 3).toNatClampNeg) (xs (x + nI 4).toNatClampNeg) (xs (x + nI 5).toNatClampNeg) (xs (x + nI 6).toNatClampNeg)
  refine lv_aload_n hx hb dL_law_491 rfl (lv_at hl 1 rfl) ?_
  refine lv_aload_n hx hb dL_law_492 rfl (lv_at hl 0 rfl) ?_
  refine lv_iload_n hx hb dL_law_493 rfl (lv_at hl 3 rfl) ?_
  refine lv_iconst (v := nI 1) hx hb dL_law_494 (by decide) ?_
  refine lv_iadd hx hb dL_law_495 ?_
  refine va_sld hx hb hX hbl hbA hS (hin 1 (by decide)) dL_law_496 ?_
  refine lv_aload_n hx hb dL_law_497 rfl (lv_at hl 0 rfl) ?_
  refine lv_iload_n hx hb dL_law_498 rfl (lv_at hl 3 rfl) ?_
  refine lv_iconst (v := nI 2) hx hb dL_law_499 (by decide) ?_
  refine lv_iadd hx hb dL_law_500 ?_
  refine va_sld hx hb hX hbl hbA hS (hin 2 (by decide)) dL_law_501 ?_
  refine lv_aload_n hx hb dL_law_502 rfl (lv_at hl 0 rfl) ?_
  refine lv_iload_n hx hb dL_law_503 rfl (lv_at hl 3 rfl) ?_
  refine lv_iconst (v := nI 3) hx hb dL_law_504 (by decide) ?_
  refine lv_iadd hx hb dL_law_505 ?_
  refine va_sld hx hb hX hbl hbA hS (hin 3 (by decide)) dL_law_506 ?_
  refine lv_aload_n hx hb dL_law_507 rfl (lv_at hl 0 rfl) ?_
  refine lv_iload_n hx hb dL_law_508 rfl (lv_at hl 3 rfl) ?_
  refine lv_iconst (v := nI 4) hx hb dL_law_509 (by decide) ?_
  refine lv_iadd hx hb dL_law_510 ?_
  refine va_sld hx hb hX hbl hbA hS (hin 4 (by decide)) dL_law_511 ?_
  refine lv_aload_n hx hb dL_law_512 rfl (lv_at hl 0 rfl) ?_
  refine lv_iload_n hx hb dL_law_513 rfl (lv_at hl 3 rfl) ?_
  refine lv_iconst (v := nI 5) hx hb dL_law_514 (by decide) ?_
  refine lv_iadd hx hb dL_law_515 ?_
  refine va_sld hx hb hX hbl hbA hS (hin 5 (by decide)) dL_law_516 ?_
  refine lv_aload_n hx hb dL_law_517 rfl (lv_at hl 0 rfl) ?_
  refine lv_iload_n hx hb dL_law_518 rfl (lv_at hl 3 rfl) ?_
  refine lv_bipush (v := nI 6) hx hb dL_law_519 (by decide) ?_
  refine lv_iadd hx hb dL_law_521 ?_
  refine va_sld hx hb hX hbl hbA hS (hin 6 (by decide)) dL_law_522 ?_
  refine x_cvI C hl.1 hR hS (c_X5_at l G (xs (x + nI 1).toNatClampNeg) (xs (x + nI 2).toNatClampNeg) (xs (x + nI 3).toNatClampNeg) (xs (x + nI 4).toNatClampNeg) (xs (x + nI 5).toNatClampNeg) (xs (x + nI 6).toNatClampNeg) σ _ hf) gL_law_X5_at rfl hdV_X5_at ⟨Nat.le_of_ble_eq_true rfl, Nat.le_of_ble_eq_true rfl⟩ (by decide) (cz4 rfl) rfl rfl (As := [.int (xs (x + nI 1).toNatClampNeg), .int (xs (x + nI 2).toNatClampNeg), .int (xs (x + nI 3).toNatClampNeg), .int (xs (x + nI 4).toNatClampNeg), .int (xs (x + nI 5).toNatClampNeg), .int (xs (x + nI 6).toNatClampNeg)]) (rest := []) rfl (Nat.le_of_ble_eq_true rfl) ⟨Nat.le_of_ble_eq_true rfl, Nat.le_of_ble_eq_true rfl⟩ dL_law_523 (fun r1 σ1 H locs hq1 hR hS => ?_)
  have hR : Rp G τ H := by rw [hq1.2] at hR; exact hR
  refine lv_aload_n hx hb dL_law_526 rfl (lv_at hl 2 rfl) ?_
  refine lv_aload_n hx hb dL_law_527 rfl (lv_at hl 0 rfl) ?_
  refine lv_iload_n hx hb dL_law_528 rfl (lv_at hl 3 rfl) ?_
  refine lv_iconst (v := nI 1) hx hb dL_law_529 (by decide) ?_
  refine lv_iadd hx hb dL_law_530 ?_
  refine va_sld hx hb hX hbl hbA hS (hin 1 (by decide)) dL_law_531 ?_
  refine lv_aload_n hx hb dL_law_532 rfl (lv_at hl 0 rfl) ?_
  refine lv_iload_n hx hb dL_law_533 rfl (lv_at hl 3 rfl) ?_
  refine lv_iconst (v := nI 2) hx hb dL_law_534 (by decide) ?_
  refine lv_iadd hx hb dL_law_535 ?_
  refine va_sld hx hb hX hbl hbA hS (hin 2 (by decide)) dL_law_536 ?_
  refine lv_aload_n hx hb dL_law_537 rfl (lv_at hl 0 rfl) ?_
  refine lv_iload_n hx hb dL_law_538 rfl (lv_at hl 3 rfl) ?_
  refine lv_iconst (v := nI 3) hx hb dL_law_539 (by decide) ?_
  refine lv_iadd hx hb dL_law_540 ?_
  refine va_sld hx hb hX hbl hbA hS (hin 3 (by decide)) dL_law_541 ?_
  refine lv_aload_n hx hb dL_law_542 rfl (lv_at hl 0 rfl) ?_
  refine lv_iload_n hx hb dL_law_543 rfl (lv_at hl 3 rfl) ?_
  refine lv_iconst (v := nI 4) hx hb dL_law_544 (by decide) ?_
  refine lv_iadd hx hb dL_law_545 ?_
  refine va_sld hx hb hX hbl hbA hS (hin 4 (by decide)) dL_law_546 ?_
  refine lv_aload_n hx hb dL_law_547 rfl (lv_at hl 0 rfl) ?_
  refine lv_iload_n hx hb dL_law_548 rfl (lv_at hl 3 rfl) ?_
  refine lv_iconst (v := nI 5) hx hb dL_law_549 (by decide) ?_
  refine lv_iadd hx hb dL_law_550 ?_
  refine va_sld hx hb hX hbl hbA hS (hin 5 (by decide)) dL_law_551 ?_
  refine lv_aload_n hx hb dL_law_552 rfl (lv_at hl 0 rfl) ?_
  refine lv_iload_n hx hb dL_law_553 rfl (lv_at hl 3 rfl) ?_
  refine lv_bipush (v := nI 6) hx hb dL_law_554 (by decide) ?_
  refine lv_iadd hx hb dL_law_556 ?_
  refine va_sld hx hb hX hbl hbA hS (hin 6 (by decide)) dL_law_557 ?_
  refine x_cvI C hl.1 hR hS (c_X6_at l G (xs (x + nI 1).toNatClampNeg) (xs (x + nI 2).toNatClampNeg) (xs (x + nI 3).toNatClampNeg) (xs (x + nI 4).toNatClampNeg) (xs (x + nI 5).toNatClampNeg) (xs (x + nI 6).toNatClampNeg) τ _ hg) gL_law_X6_at rfl hdV_X6_at ⟨Nat.le_of_ble_eq_true rfl, Nat.le_of_ble_eq_true rfl⟩ (by decide) (cz5 rfl) rfl rfl (As := [.int (xs (x + nI 1).toNatClampNeg), .int (xs (x + nI 2).toNatClampNeg), .int (xs (x + nI 3).toNatClampNeg), .int (xs (x + nI 4).toNatClampNeg), .int (xs (x + nI 5).toNatClampNeg), .int (xs (x + nI 6).toNatClampNeg)]) (rest := [.int r1]) rfl (Nat.le_of_ble_eq_true rfl) ⟨Nat.le_of_ble_eq_true rfl, Nat.le_of_ble_eq_true rfl⟩ dL_law_558 (fun r2 σ2 H locs hq2 hR hS => ?_)
  have hR : Rp G υ H := by rw [hq2.2] at hR; exact hR
  exact lv_icmp_eq (tgt := 1242) hx hb dL_law_561 (by decide) (fun _ => kk υ hJ _ _ _ hR hS hl) (fun h => absurd (hq1.1.trans hq2.1.symm) h)
set_option maxHeartbeats 4000000 in
set_option maxRecDepth 100000 in
theorem lz_lead {p : Program} {l : Launch} {e : Env} {s : State} {m : MethodId} {below : List Frame} {meth : Method} {c : Code} {G : GG} {b L : Nat} {xs : Nat → Int32} (X : LzX p s m meth c G b L xs) {x : Int32} (hin : ∀ j, j ≤ 6 → vp_in (x + nI j) L) {σ : St} (hJ : JJ σ) (kk : ∀ υ, JJ υ → LzW p l e s m below meth c G b 1242 x υ) : LzW p l e s m below meth c G b 566 x σ := by
  intro H locs ls hR hS hl
  obtain ⟨C, hX, hbl, hbA⟩ := X
  have hx := C.1
  have hb := C.2.1
  obtain ⟨r, τ, υ, hf, hg, hJ⟩ := eq_lead hJ (xs (x + nI 1).toNatClampNeg) (xs (x + nI 2).toNatClampNeg) (xs (x + nI 3).toNatClampNeg)
  refine lv_aload_n hx hb dL_law_566 rfl (lv_at hl 1 rfl) ?_
  refine lv_aload_n hx hb dL_law_567 rfl (lv_at hl 0 rfl) ?_
  refine lv_iload_n hx hb dL_law_568 rfl (lv_at hl 3 rfl) ?_
  refine lv_iconst (v := nI 1) hx hb dL_law_569 (by decide) ?_
  refine lv_iadd hx hb dL_law_570 ?_
  refine va_sld hx hb hX hbl hbA hS (hin 1 (by decide)) dL_law_571 ?_
  refine lv_aload_n hx hb dL_law_572 rfl (lv_at hl 0 rfl) ?_
  refine lv_iload_n hx hb dL_law_573 rfl (lv_at hl 3 rfl) ?_
  refine lv_iconst (v := nI 2) hx hb dL_law_574 (by decide) ?_
  refine lv_iadd hx hb dL_law_575 ?_
  refine va_sld hx hb hX hbl hbA hS (hin 2 (by decide)) dL_law_576 ?_
  refine lv_aload_n hx hb dL_law_577 rfl (lv_at hl 0 rfl) ?_
  refine lv_iload_n hx hb dL_law_578 rfl (lv_at hl 3 rfl) ?_
  refine lv_iconst (v := nI 3) hx hb dL_law_579 (by decide) ?_
  refine lv_iadd hx hb dL_law_580 ?_
  refine va_sld hx hb hX hbl hbA hS (hin 3 (by decide)) dL_law_581 ?_
  refine x_cvI C hl.1 hR hS (c_X5_lead l G (xs (x + nI 1).toNatClampNeg) (xs (x + nI 2).toNatClampNeg) (xs (x + nI 3).toNatClampNeg) σ _ hf) gL_law_X5_lead rfl hdV_X5_lead ⟨Nat.le_of_ble_eq_true rfl, Nat.le_of_ble_eq_true rfl⟩ (by decide) (cz4 rfl) rfl rfl (As := [.int (xs (x + nI 1).toNatClampNeg), .int (xs (x + nI 2).toNatClampNeg), .int (xs (x + nI 3).toNatClampNeg)]) (rest := []) rfl (Nat.le_of_ble_eq_true rfl) ⟨Nat.le_of_ble_eq_true rfl, Nat.le_of_ble_eq_true rfl⟩ dL_law_582 (fun r1 σ1 H locs hq1 hR hS => ?_)
  have hR : Rp G τ H := by rw [hq1.2] at hR; exact hR
  refine lv_aload_n hx hb dL_law_585 rfl (lv_at hl 2 rfl) ?_
  refine lv_aload_n hx hb dL_law_586 rfl (lv_at hl 0 rfl) ?_
  refine lv_iload_n hx hb dL_law_587 rfl (lv_at hl 3 rfl) ?_
  refine lv_iconst (v := nI 1) hx hb dL_law_588 (by decide) ?_
  refine lv_iadd hx hb dL_law_589 ?_
  refine va_sld hx hb hX hbl hbA hS (hin 1 (by decide)) dL_law_590 ?_
  refine lv_aload_n hx hb dL_law_591 rfl (lv_at hl 0 rfl) ?_
  refine lv_iload_n hx hb dL_law_592 rfl (lv_at hl 3 rfl) ?_
  refine lv_iconst (v := nI 2) hx hb dL_law_593 (by decide) ?_
  refine lv_iadd hx hb dL_law_594 ?_
  refine va_sld hx hb hX hbl hbA hS (hin 2 (by decide)) dL_law_595 ?_
  refine lv_aload_n hx hb dL_law_596 rfl (lv_at hl 0 rfl) ?_
  refine lv_iload_n hx hb dL_law_597 rfl (lv_at hl 3 rfl) ?_
  refine lv_iconst (v := nI 3) hx hb dL_law_598 (by decide) ?_
  refine lv_iadd hx hb dL_law_599 ?_
  refine va_sld hx hb hX hbl hbA hS (hin 3 (by decide)) dL_law_600 ?_
  refine x_cvI C hl.1 hR hS (c_X6_lead l G (xs (x + nI 1).toNatClampNeg) (xs (x + nI 2).toNatClampNeg) (xs (x + nI 3).toNatClampNeg) τ _ hg) gL_law_X6_lead rfl hdV_X6_lead ⟨Nat.le_of_ble_eq_true rfl, Nat.le_of_ble_eq_true rfl⟩ (by decide) (cz5 rfl) rfl rfl (As := [.int (xs (x + nI 1).toNatClampNeg), .int (xs (x + nI 2).toNatClampNeg), .int (xs (x + nI 3).toNatClampNeg)]) (rest := [.int r1]) rfl (Nat.le_of_ble_eq_true rfl) ⟨Nat.le_of_ble_eq_true rfl, Nat.le_of_ble_eq_true rfl⟩ dL_law_601 (fun r2 σ2 H locs hq2 hR hS => ?_)
  have hR : Rp G υ H := by rw [hq2.2] at hR; exact hR
  exact lv_icmp_eq (tgt := 1242) hx hb dL_law_604 (by decide) (fun _ => kk υ hJ _ _ _ hR hS hl) (fun h => absurd (hq1.1.trans hq2.1.symm) h)
set_option maxHeartbeats 4000000 in
set_option maxRecDepth 100000 in
theorem lz_worth {p : Program} {l : Launch} {e : Env} {s : State} {m : MethodId} {below : List Frame} {meth : Method} {c : Code} {G : GG} {b L : Nat} {xs : Nat → Int32} (X : LzX p s m meth c G b L xs) {x : Int32} (hin : ∀ j, j ≤ 6 → vp_in (x + nI j) L) {σ : St} (hJ : JJ σ) (kk : ∀ υ, JJ υ → LzW p l e s m below meth c G b 1242 x υ) : LzW p l e s m below meth c G b 609 x σ := by
  intro H locs ls hR hS hl
  obtain ⟨C, hX, hbl, hbA⟩ := X
  have hx := C.1
  have hb := C.2.1
  obtain ⟨r, τ, υ, hf, hg, hJ⟩ := eq_worth hJ (xs (x + nI 1).toNatClampNeg) (xs (x + nI 2).toNatClampNeg)
  refine lv_aload_n hx hb dL_law_609 rfl (lv_at hl 1 rfl) ?_
  refine lv_aload_n hx hb dL_law_610 rfl (lv_at hl 0 rfl) ?_
  refine lv_iload_n hx hb dL_law_611 rfl (lv_at hl 3 rfl) ?_
  refine lv_iconst (v := nI 1) hx hb dL_law_612 (by decide) ?_
  refine lv_iadd hx hb dL_law_613 ?_
  refine va_sld hx hb hX hbl hbA hS (hin 1 (by decide)) dL_law_614 ?_
  refine lv_aload_n hx hb dL_law_615 rfl (lv_at hl 0 rfl) ?_
  refine lv_iload_n hx hb dL_law_616 rfl (lv_at hl 3 rfl) ?_
  refine lv_iconst (v := nI 2) hx hb dL_law_617 (by decide) ?_
  refine lv_iadd hx hb dL_law_618 ?_
  refine va_sld hx hb hX hbl hbA hS (hin 2 (by decide)) dL_law_619 ?_
  refine x_cvI C hl.1 hR hS (c_X5_worth l G (xs (x + nI 1).toNatClampNeg) (xs (x + nI 2).toNatClampNeg) σ _ hf) gL_law_X5_worth rfl hdV_X5_worth ⟨Nat.le_of_ble_eq_true rfl, Nat.le_of_ble_eq_true rfl⟩ (by decide) (cz4 rfl) rfl rfl (As := [.int (xs (x + nI 1).toNatClampNeg), .int (xs (x + nI 2).toNatClampNeg)]) (rest := []) rfl (Nat.le_of_ble_eq_true rfl) ⟨Nat.le_of_ble_eq_true rfl, Nat.le_of_ble_eq_true rfl⟩ dL_law_620 (fun r1 σ1 H locs hq1 hR hS => ?_)
  have hR : Rp G τ H := by rw [hq1.2] at hR; exact hR
  refine lv_aload_n hx hb dL_law_623 rfl (lv_at hl 2 rfl) ?_
  refine lv_aload_n hx hb dL_law_624 rfl (lv_at hl 0 rfl) ?_
  refine lv_iload_n hx hb dL_law_625 rfl (lv_at hl 3 rfl) ?_
  refine lv_iconst (v := nI 1) hx hb dL_law_626 (by decide) ?_
  refine lv_iadd hx hb dL_law_627 ?_
  refine va_sld hx hb hX hbl hbA hS (hin 1 (by decide)) dL_law_628 ?_
  refine lv_aload_n hx hb dL_law_629 rfl (lv_at hl 0 rfl) ?_
  refine lv_iload_n hx hb dL_law_630 rfl (lv_at hl 3 rfl) ?_
  refine lv_iconst (v := nI 2) hx hb dL_law_631 (by decide) ?_
  refine lv_iadd hx hb dL_law_632 ?_
  refine va_sld hx hb hX hbl hbA hS (hin 2 (by decide)) dL_law_633 ?_
  refine x_cvI C hl.1 hR hS (c_X6_worth l G (xs (x + nI 1).toNatClampNeg) (xs (x + nI 2).toNatClampNeg) τ _ hg) gL_law_X6_worth rfl hdV_X6_worth ⟨Nat.le_of_ble_eq_true rfl, Nat.le_of_ble_eq_true rfl⟩ (by decide) (cz5 rfl) rfl rfl (As := [.int (xs (x + nI 1).toNatClampNeg), .int (xs (x + nI 2).toNatClampNeg)]) (rest := [.int r1]) rfl (Nat.le_of_ble_eq_true rfl) ⟨Nat.le_of_ble_eq_true rfl, Nat.le_of_ble_eq_true rfl⟩ dL_law_634 (fun r2 σ2 H locs hq2 hR hS => ?_)
  have hR : Rp G υ H := by rw [hq2.2] at hR; exact hR
  exact lv_icmp_eq (tgt := 1242) hx hb dL_law_637 (by decide) (fun _ => kk υ hJ _ _ _ hR hS hl) (fun h => absurd (hq1.1.trans hq2.1.symm) h)
set_option maxHeartbeats 4000000 in
set_option maxRecDepth 100000 in
theorem lz_strong {p : Program} {l : Launch} {e : Env} {s : State} {m : MethodId} {below : List Frame} {meth : Method} {c : Code} {G : GG} {b L : Nat} {xs : Nat → Int32} (X : LzX p s m meth c G b L xs) {x : Int32} (hin : ∀ j, j ≤ 6 → vp_in (x + nI j) L) {σ : St} (hJ : JJ σ) (kk : ∀ υ, JJ υ → LzW p l e s m below meth c G b 1242 x υ) : LzW p l e s m below meth c G b 642 x σ := by
  intro H locs ls hR hS hl
  obtain ⟨C, hX, hbl, hbA⟩ := X
  have hx := C.1
  have hb := C.2.1
  obtain ⟨r, τ, υ, hf, hg, hJ⟩ := eq_strong hJ (xs (x + nI 1).toNatClampNeg) (xs (x + nI 2).toNatClampNeg) (xs (x + nI 3).toNatClampNeg) (xs (x + nI 4).toNatClampNeg)
  refine lv_aload_n hx hb dL_law_642 rfl (lv_at hl 1 rfl) ?_
  refine lv_aload_n hx hb dL_law_643 rfl (lv_at hl 0 rfl) ?_
  refine lv_iload_n hx hb dL_law_644 rfl (lv_at hl 3 rfl) ?_
  refine lv_iconst (v := nI 1) hx hb dL_law_645 (by decide) ?_
  refine lv_iadd hx hb dL_law_646 ?_
  refine va_sld hx hb hX hbl hbA hS (hin 1 (by decide)) dL_law_647 ?_
  refine lv_aload_n hx hb dL_law_648 rfl (lv_at hl 0 rfl) ?_
  refine lv_iload_n hx hb dL_law_649 rfl (lv_at hl 3 rfl) ?_
  refine lv_iconst (v := nI 2) hx hb dL_law_650 (by decide) ?_
  refine lv_iadd hx hb dL_law_651 ?_
  refine va_sld hx hb hX hbl hbA hS (hin 2 (by decide)) dL_law_652 ?_
  refine lv_aload_n hx hb dL_law_653 rfl (lv_at hl 0 rfl) ?_
  refine lv_iload_n hx hb dL_law_654 rfl (lv_at hl 3 rfl) ?_
  refine lv_iconst (v := nI 3) hx hb dL_law_655 (by decide) ?_
  refine lv_iadd hx hb dL_law_656 ?_
  refine va_sld hx hb hX hbl hbA hS (hin 3 (by decide)) dL_law_657 ?_
  refine lv_aload_n hx hb dL_law_658 rfl (lv_at hl 0 rfl) ?_
  refine lv_iload_n hx hb dL_law_659 rfl (lv_at hl 3 rfl) ?_
  refine lv_iconst (v := nI 4) hx hb dL_law_660 (by decide) ?_
  refine lv_iadd hx hb dL_law_661 ?_
  refine va_sld hx hb hX hbl hbA hS (hin 4 (by decide)) dL_law_662 ?_
  refine x_cvI C hl.1 hR hS (c_X5_strong l G (xs (x + nI 1).toNatClampNeg) (xs (x + nI 2).toNatClampNeg) (xs (x + nI 3).toNatClampNeg) (xs (x + nI 4).toNatClampNeg) σ _ hf) gL_law_X5_strong rfl hdV_X5_strong ⟨Nat.le_of_ble_eq_true rfl, Nat.le_of_ble_eq_true rfl⟩ (by decide) (cz4 rfl) rfl rfl (As := [.int (xs (x + nI 1).toNatClampNeg), .int (xs (x + nI 2).toNatClampNeg), .int (xs (x + nI 3).toNatClampNeg), .int (xs (x + nI 4).toNatClampNeg)]) (rest := []) rfl (Nat.le_of_ble_eq_true rfl) ⟨Nat.le_of_ble_eq_true rfl, Nat.le_of_ble_eq_true rfl⟩ dL_law_663 (fun r1 σ1 H locs hq1 hR hS => ?_)
  have hR : Rp G τ H := by rw [hq1.2] at hR; exact hR
  refine lv_aload_n hx hb dL_law_666 rfl (lv_at hl 2 rfl) ?_
  refine lv_aload_n hx hb dL_law_667 rfl (lv_at hl 0 rfl) ?_
  refine lv_iload_n hx hb dL_law_668 rfl (lv_at hl 3 rfl) ?_
  refine lv_iconst (v := nI 1) hx hb dL_law_669 (by decide) ?_
  refine lv_iadd hx hb dL_law_670 ?_
  refine va_sld hx hb hX hbl hbA hS (hin 1 (by decide)) dL_law_671 ?_
  refine lv_aload_n hx hb dL_law_672 rfl (lv_at hl 0 rfl) ?_
  refine lv_iload_n hx hb dL_law_673 rfl (lv_at hl 3 rfl) ?_
  refine lv_iconst (v := nI 2) hx hb dL_law_674 (by decide) ?_
  refine lv_iadd hx hb dL_law_675 ?_
  refine va_sld hx hb hX hbl hbA hS (hin 2 (by decide)) dL_law_676 ?_
  refine lv_aload_n hx hb dL_law_677 rfl (lv_at hl 0 rfl) ?_
  refine lv_iload_n hx hb dL_law_678 rfl (lv_at hl 3 rfl) ?_
  refine lv_iconst (v := nI 3) hx hb dL_law_679 (by decide) ?_
  refine lv_iadd hx hb dL_law_680 ?_
  refine va_sld hx hb hX hbl hbA hS (hin 3 (by decide)) dL_law_681 ?_
  refine lv_aload_n hx hb dL_law_682 rfl (lv_at hl 0 rfl) ?_
  refine lv_iload_n hx hb dL_law_683 rfl (lv_at hl 3 rfl) ?_
  refine lv_iconst (v := nI 4) hx hb dL_law_684 (by decide) ?_
  refine lv_iadd hx hb dL_law_685 ?_
  refine va_sld hx hb hX hbl hbA hS (hin 4 (by decide)) dL_law_686 ?_
  refine x_cvI C hl.1 hR hS (c_X6_strong l G (xs (x + nI 1).toNatClampNeg) (xs (x + nI 2).toNatClampNeg) (xs (x + nI 3).toNatClampNeg) (xs (x + nI 4).toNatClampNeg) τ _ hg) gL_law_X6_strong rfl hdV_X6_strong ⟨Nat.le_of_ble_eq_true rfl, Nat.le_of_ble_eq_true rfl⟩ (by decide) (cz5 rfl) rfl rfl (As := [.int (xs (x + nI 1).toNatClampNeg), .int (xs (x + nI 2).toNatClampNeg), .int (xs (x + nI 3).toNatClampNeg), .int (xs (x + nI 4).toNatClampNeg)]) (rest := [.int r1]) rfl (Nat.le_of_ble_eq_true rfl) ⟨Nat.le_of_ble_eq_true rfl, Nat.le_of_ble_eq_true rfl⟩ dL_law_687 (fun r2 σ2 H locs hq2 hR hS => ?_)
  have hR : Rp G υ H := by rw [hq2.2] at hR; exact hR
  exact lv_icmp_eq (tgt := 1242) hx hb dL_law_690 (by decide) (fun _ => kk υ hJ _ _ _ hR hS hl) (fun h => absurd (hq1.1.trans hq2.1.symm) h)
set_option maxHeartbeats 4000000 in
set_option maxRecDepth 100000 in
theorem lz_hire {p : Program} {l : Launch} {e : Env} {s : State} {m : MethodId} {below : List Frame} {meth : Method} {c : Code} {G : GG} {b L : Nat} {xs : Nat → Int32} (X : LzX p s m meth c G b L xs) {x : Int32} (hin : ∀ j, j ≤ 6 → vp_in (x + nI j) L) {σ : St} (hJ : JJ σ) (kk : ∀ υ, JJ υ → LzW p l e s m below meth c G b 1242 x υ) : LzW p l e s m below meth c G b 695 x σ := by
  intro H locs ls hR hS hl
  obtain ⟨C, hX, hbl, hbA⟩ := X
  have hx := C.1
  have hb := C.2.1
  obtain ⟨r, τ, υ, hf, hg, hJ⟩ := eq_hire hJ (xs (x + nI 1).toNatClampNeg) (xs (x + nI 2).toNatClampNeg) (xs (x + nI 3).toNatClampNeg) (xs (x + nI 4).toNatClampNeg) (xs (x + nI 5).toNatClampNeg)
  refine lv_aload_n hx hb dL_law_695 rfl (lv_at hl 1 rfl) ?_
  refine lv_aload_n hx hb dL_law_696 rfl (lv_at hl 0 rfl) ?_
  refine lv_iload_n hx hb dL_law_697 rfl (lv_at hl 3 rfl) ?_
  refine lv_iconst (v := nI 1) hx hb dL_law_698 (by decide) ?_
  refine lv_iadd hx hb dL_law_699 ?_
  refine va_sld hx hb hX hbl hbA hS (hin 1 (by decide)) dL_law_700 ?_
  refine lv_aload_n hx hb dL_law_701 rfl (lv_at hl 0 rfl) ?_
  refine lv_iload_n hx hb dL_law_702 rfl (lv_at hl 3 rfl) ?_
  refine lv_iconst (v := nI 2) hx hb dL_law_703 (by decide) ?_
  refine lv_iadd hx hb dL_law_704 ?_
  refine va_sld hx hb hX hbl hbA hS (hin 2 (by decide)) dL_law_705 ?_
  refine lv_aload_n hx hb dL_law_706 rfl (lv_at hl 0 rfl) ?_
  refine lv_iload_n hx hb dL_law_707 rfl (lv_at hl 3 rfl) ?_
  refine lv_iconst (v := nI 3) hx hb dL_law_708 (by decide) ?_
  refine lv_iadd hx hb dL_law_709 ?_
  refine va_sld hx hb hX hbl hbA hS (hin 3 (by decide)) dL_law_710 ?_
  refine lv_aload_n hx hb dL_law_711 rfl (lv_at hl 0 rfl) ?_
  refine lv_iload_n hx hb dL_law_712 rfl (lv_at hl 3 rfl) ?_
  refine lv_iconst (v := nI 4) hx hb dL_law_713 (by decide) ?_
  refine lv_iadd hx hb dL_law_714 ?_
  refine va_sld hx hb hX hbl hbA hS (hin 4 (by decide)) dL_law_715 ?_
  refine lv_aload_n hx hb dL_law_716 rfl (lv_at hl 0 rfl) ?_
  refine lv_iload_n hx hb dL_law_717 rfl (lv_at hl 3 rfl) ?_
  refine lv_iconst (v := nI 5) hx hb dL_law_718 (by decide) ?_
  refine lv_iadd hx hb dL_law_719 ?_
  refine va_sld hx hb hX hbl hbA hS (hin 5 (by decide)) dL_law_720 ?_
  refine x_cvI C hl.1 hR hS (c_X5_hire l G (xs (x + nI 1).toNatClampNeg) (xs (x + nI 2).toNatClampNeg) (xs (x + nI 3).toNatClampNeg) (xs (x + nI 4).toNatClampNeg) (xs (x + nI 5).toNatClampNeg) σ _ hf) gL_law_X5_hire rfl hdV_X5_hire ⟨Nat.le_of_ble_eq_true rfl, Nat.le_of_ble_eq_true rfl⟩ (by decide) (cz4 rfl) rfl rfl (As := [.int (xs (x + nI 1).toNatClampNeg), .int (xs (x + nI 2).toNatClampNeg), .int (xs (x + nI 3).toNatClampNeg), .int (xs (x + nI 4).toNatClampNeg), .int (xs (x + nI 5).toNatClampNeg)]) (rest := []) rfl (Nat.le_of_ble_eq_true rfl) ⟨Nat.le_of_ble_eq_true rfl, Nat.le_of_ble_eq_true rfl⟩ dL_law_721 (fun r1 σ1 H locs hq1 hR hS => ?_)
  have hR : Rp G τ H := by rw [hq1.2] at hR; exact hR
  refine lv_aload_n hx hb dL_law_724 rfl (lv_at hl 2 rfl) ?_
  refine lv_aload_n hx hb dL_law_725 rfl (lv_at hl 0 rfl) ?_
  refine lv_iload_n hx hb dL_law_726 rfl (lv_at hl 3 rfl) ?_
  refine lv_iconst (v := nI 1) hx hb dL_law_727 (by decide) ?_
  refine lv_iadd hx hb dL_law_728 ?_
  refine va_sld hx hb hX hbl hbA hS (hin 1 (by decide)) dL_law_729 ?_
  refine lv_aload_n hx hb dL_law_730 rfl (lv_at hl 0 rfl) ?_
  refine lv_iload_n hx hb dL_law_731 rfl (lv_at hl 3 rfl) ?_
  refine lv_iconst (v := nI 2) hx hb dL_law_732 (by decide) ?_
  refine lv_iadd hx hb dL_law_733 ?_
  refine va_sld hx hb hX hbl hbA hS (hin 2 (by decide)) dL_law_734 ?_
  refine lv_aload_n hx hb dL_law_735 rfl (lv_at hl 0 rfl) ?_
  refine lv_iload_n hx hb dL_law_736 rfl (lv_at hl 3 rfl) ?_
  refine lv_iconst (v := nI 3) hx hb dL_law_737 (by decide) ?_
  refine lv_iadd hx hb dL_law_738 ?_
  refine va_sld hx hb hX hbl hbA hS (hin 3 (by decide)) dL_law_739 ?_
  refine lv_aload_n hx hb dL_law_740 rfl (lv_at hl 0 rfl) ?_
  refine lv_iload_n hx hb dL_law_741 rfl (lv_at hl 3 rfl) ?_
  refine lv_iconst (v := nI 4) hx hb dL_law_742 (by decide) ?_
  refine lv_iadd hx hb dL_law_743 ?_
  refine va_sld hx hb hX hbl hbA hS (hin 4 (by decide)) dL_law_744 ?_
  refine lv_aload_n hx hb dL_law_745 rfl (lv_at hl 0 rfl) ?_
  refine lv_iload_n hx hb dL_law_746 rfl (lv_at hl 3 rfl) ?_
  refine lv_iconst (v := nI 5) hx hb dL_law_747 (by decide) ?_
  refine lv_iadd hx hb dL_law_748 ?_
  refine va_sld hx hb hX hbl hbA hS (hin 5 (by decide)) dL_law_749 ?_
  refine x_cvI C hl.1 hR hS (c_X6_hire l G (xs (x + nI 1).toNatClampNeg) (xs (x + nI 2).toNatClampNeg) (xs (x + nI 3).toNatClampNeg) (xs (x + nI 4).toNatClampNeg) (xs (x + nI 5).toNatClampNeg) τ _ hg) gL_law_X6_hire rfl hdV_X6_hire ⟨Nat.le_of_ble_eq_true rfl, Nat.le_of_ble_eq_true rfl⟩ (by decide) (cz5 rfl) rfl rfl (As := [.int (xs (x + nI 1).toNatClampNeg), .int (xs (x + nI 2).toNatClampNeg), .int (xs (x + nI 3).toNatClampNeg), .int (xs (x + nI 4).toNatClampNeg), .int (xs (x + nI 5).toNatClampNeg)]) (rest := [.int r1]) rfl (Nat.le_of_ble_eq_true rfl) ⟨Nat.le_of_ble_eq_true rfl, Nat.le_of_ble_eq_true rfl⟩ dL_law_750 (fun r2 σ2 H locs hq2 hR hS => ?_)
  have hR : Rp G υ H := by rw [hq2.2] at hR; exact hR
  exact lv_icmp_eq (tgt := 1242) hx hb dL_law_753 (by decide) (fun _ => kk υ hJ _ _ _ hR hS hl) (fun h => absurd (hq1.1.trans hq2.1.symm) h)
set_option maxHeartbeats 4000000 in
set_option maxRecDepth 100000 in
theorem lz_dark {p : Program} {l : Launch} {e : Env} {s : State} {m : MethodId} {below : List Frame} {meth : Method} {c : Code} {G : GG} {b L : Nat} {xs : Nat → Int32} (X : LzX p s m meth c G b L xs) {x : Int32} (hin : ∀ j, j ≤ 6 → vp_in (x + nI j) L) {σ : St} (hJ : JJ σ) (kk : ∀ υ, JJ υ → LzW p l e s m below meth c G b 1242 x υ) : LzW p l e s m below meth c G b 758 x σ := by
  intro H locs ls hR hS hl
  obtain ⟨C, hX, hbl, hbA⟩ := X
  have hx := C.1
  have hb := C.2.1
  obtain ⟨r, τ, υ, hf, hg, hJ⟩ := eq_dark hJ (xs (x + nI 1).toNatClampNeg) (xs (x + nI 2).toNatClampNeg) (xs (x + nI 3).toNatClampNeg) (xs (x + nI 4).toNatClampNeg)
  refine lv_aload_n hx hb dL_law_758 rfl (lv_at hl 1 rfl) ?_
  refine lv_aload_n hx hb dL_law_759 rfl (lv_at hl 0 rfl) ?_
  refine lv_iload_n hx hb dL_law_760 rfl (lv_at hl 3 rfl) ?_
  refine lv_iconst (v := nI 1) hx hb dL_law_761 (by decide) ?_
  refine lv_iadd hx hb dL_law_762 ?_
  refine va_sld hx hb hX hbl hbA hS (hin 1 (by decide)) dL_law_763 ?_
  refine lv_aload_n hx hb dL_law_764 rfl (lv_at hl 0 rfl) ?_
  refine lv_iload_n hx hb dL_law_765 rfl (lv_at hl 3 rfl) ?_
  refine lv_iconst (v := nI 2) hx hb dL_law_766 (by decide) ?_
  refine lv_iadd hx hb dL_law_767 ?_
  refine va_sld hx hb hX hbl hbA hS (hin 2 (by decide)) dL_law_768 ?_
  refine lv_aload_n hx hb dL_law_769 rfl (lv_at hl 0 rfl) ?_
  refine lv_iload_n hx hb dL_law_770 rfl (lv_at hl 3 rfl) ?_
  refine lv_iconst (v := nI 3) hx hb dL_law_771 (by decide) ?_
  refine lv_iadd hx hb dL_law_772 ?_
  refine va_sld hx hb hX hbl hbA hS (hin 3 (by decide)) dL_law_773 ?_
  refine lv_aload_n hx hb dL_law_774 rfl (lv_at hl 0 rfl) ?_
  refine lv_iload_n hx hb dL_law_775 rfl (lv_at hl 3 rfl) ?_
  refine lv_iconst (v := nI 4) hx hb dL_law_776 (by decide) ?_
  refine lv_iadd hx hb dL_law_777 ?_
  refine va_sld hx hb hX hbl hbA hS (hin 4 (by decide)) dL_law_778 ?_
  refine x_cvI C hl.1 hR hS (c_X5_dark l G (xs (x + nI 1).toNatClampNeg) (xs (x + nI 2).toNatClampNeg) (xs (x + nI 3).toNatClampNeg) (xs (x + nI 4).toNatClampNeg) σ _ hf) gL_law_X5_dark rfl hdV_X5_dark ⟨Nat.le_of_ble_eq_true rfl, Nat.le_of_ble_eq_true rfl⟩ (by decide) (cz4 rfl) rfl rfl (As := [.int (xs (x + nI 1).toNatClampNeg), .int (xs (x + nI 2).toNatClampNeg), .int (xs (x + nI 3).toNatClampNeg), .int (xs (x + nI 4).toNatClampNeg)]) (rest := []) rfl (Nat.le_of_ble_eq_true rfl) ⟨Nat.le_of_ble_eq_true rfl, Nat.le_of_ble_eq_true rfl⟩ dL_law_779 (fun r1 σ1 H locs hq1 hR hS => ?_)
  have hR : Rp G τ H := by rw [hq1.2] at hR; exact hR
  refine lv_aload_n hx hb dL_law_782 rfl (lv_at hl 2 rfl) ?_
  refine lv_aload_n hx hb dL_law_783 rfl (lv_at hl 0 rfl) ?_
  refine lv_iload_n hx hb dL_law_784 rfl (lv_at hl 3 rfl) ?_
  refine lv_iconst (v := nI 1) hx hb dL_law_785 (by decide) ?_
  refine lv_iadd hx hb dL_law_786 ?_
  refine va_sld hx hb hX hbl hbA hS (hin 1 (by decide)) dL_law_787 ?_
  refine lv_aload_n hx hb dL_law_788 rfl (lv_at hl 0 rfl) ?_
  refine lv_iload_n hx hb dL_law_789 rfl (lv_at hl 3 rfl) ?_
  refine lv_iconst (v := nI 2) hx hb dL_law_790 (by decide) ?_
  refine lv_iadd hx hb dL_law_791 ?_
  refine va_sld hx hb hX hbl hbA hS (hin 2 (by decide)) dL_law_792 ?_
  refine lv_aload_n hx hb dL_law_793 rfl (lv_at hl 0 rfl) ?_
  refine lv_iload_n hx hb dL_law_794 rfl (lv_at hl 3 rfl) ?_
  refine lv_iconst (v := nI 3) hx hb dL_law_795 (by decide) ?_
  refine lv_iadd hx hb dL_law_796 ?_
  refine va_sld hx hb hX hbl hbA hS (hin 3 (by decide)) dL_law_797 ?_
  refine lv_aload_n hx hb dL_law_798 rfl (lv_at hl 0 rfl) ?_
  refine lv_iload_n hx hb dL_law_799 rfl (lv_at hl 3 rfl) ?_
  refine lv_iconst (v := nI 4) hx hb dL_law_800 (by decide) ?_
  refine lv_iadd hx hb dL_law_801 ?_
  refine va_sld hx hb hX hbl hbA hS (hin 4 (by decide)) dL_law_802 ?_
  refine x_cvI C hl.1 hR hS (c_X6_dark l G (xs (x + nI 1).toNatClampNeg) (xs (x + nI 2).toNatClampNeg) (xs (x + nI 3).toNatClampNeg) (xs (x + nI 4).toNatClampNeg) τ _ hg) gL_law_X6_dark rfl hdV_X6_dark ⟨Nat.le_of_ble_eq_true rfl, Nat.le_of_ble_eq_true rfl⟩ (by decide) (cz5 rfl) rfl rfl (As := [.int (xs (x + nI 1).toNatClampNeg), .int (xs (x + nI 2).toNatClampNeg), .int (xs (x + nI 3).toNatClampNeg), .int (xs (x + nI 4).toNatClampNeg)]) (rest := [.int r1]) rfl (Nat.le_of_ble_eq_true rfl) ⟨Nat.le_of_ble_eq_true rfl, Nat.le_of_ble_eq_true rfl⟩ dL_law_803 (fun r2 σ2 H locs hq2 hR hS => ?_)
  have hR : Rp G υ H := by rw [hq2.2] at hR; exact hR
  exact lv_icmp_eq (tgt := 1242) hx hb dL_law_806 (by decide) (fun _ => kk υ hJ _ _ _ hR hS hl) (fun h => absurd (hq1.1.trans hq2.1.symm) h)
set_option maxHeartbeats 4000000 in
set_option maxRecDepth 100000 in
theorem lz_waits {p : Program} {l : Launch} {e : Env} {s : State} {m : MethodId} {below : List Frame} {meth : Method} {c : Code} {G : GG} {b L : Nat} {xs : Nat → Int32} (X : LzX p s m meth c G b L xs) {x : Int32} (hin : ∀ j, j ≤ 6 → vp_in (x + nI j) L) {σ : St} (hJ : JJ σ) (kk : ∀ υ, JJ υ → LzW p l e s m below meth c G b 1242 x υ) : LzW p l e s m below meth c G b 811 x σ := by
  intro H locs ls hR hS hl
  obtain ⟨C, hX, hbl, hbA⟩ := X
  have hx := C.1
  have hb := C.2.1
  obtain ⟨r, τ, υ, hf, hg, hJ⟩ := eq_waits hJ (xs (x + nI 1).toNatClampNeg) (xs (x + nI 2).toNatClampNeg) (xs (x + nI 3).toNatClampNeg) (xs (x + nI 4).toNatClampNeg) (xs (x + nI 5).toNatClampNeg)
  refine lv_aload_n hx hb dL_law_811 rfl (lv_at hl 1 rfl) ?_
  refine lv_aload_n hx hb dL_law_812 rfl (lv_at hl 0 rfl) ?_
  refine lv_iload_n hx hb dL_law_813 rfl (lv_at hl 3 rfl) ?_
  refine lv_iconst (v := nI 1) hx hb dL_law_814 (by decide) ?_
  refine lv_iadd hx hb dL_law_815 ?_
  refine va_sld hx hb hX hbl hbA hS (hin 1 (by decide)) dL_law_816 ?_
  refine lv_aload_n hx hb dL_law_817 rfl (lv_at hl 0 rfl) ?_
  refine lv_iload_n hx hb dL_law_818 rfl (lv_at hl 3 rfl) ?_
  refine lv_iconst (v := nI 2) hx hb dL_law_819 (by decide) ?_
  refine lv_iadd hx hb dL_law_820 ?_
  refine va_sld hx hb hX hbl hbA hS (hin 2 (by decide)) dL_law_821 ?_
  refine lv_aload_n hx hb dL_law_822 rfl (lv_at hl 0 rfl) ?_
  refine lv_iload_n hx hb dL_law_823 rfl (lv_at hl 3 rfl) ?_
  refine lv_iconst (v := nI 3) hx hb dL_law_824 (by decide) ?_
  refine lv_iadd hx hb dL_law_825 ?_
  refine va_sld hx hb hX hbl hbA hS (hin 3 (by decide)) dL_law_826 ?_
  refine lv_aload_n hx hb dL_law_827 rfl (lv_at hl 0 rfl) ?_
  refine lv_iload_n hx hb dL_law_828 rfl (lv_at hl 3 rfl) ?_
  refine lv_iconst (v := nI 4) hx hb dL_law_829 (by decide) ?_
  refine lv_iadd hx hb dL_law_830 ?_
  refine va_sld hx hb hX hbl hbA hS (hin 4 (by decide)) dL_law_831 ?_
  refine lv_aload_n hx hb dL_law_832 rfl (lv_at hl 0 rfl) ?_
  refine lv_iload_n hx hb dL_law_833 rfl (lv_at hl 3 rfl) ?_
  refine lv_iconst (v := nI 5) hx hb dL_law_834 (by decide) ?_
  refine lv_iadd hx hb dL_law_835 ?_
  refine va_sld hx hb hX hbl hbA hS (hin 5 (by decide)) dL_law_836 ?_
  refine x_cvI C hl.1 hR hS (c_X5_waits l G (xs (x + nI 1).toNatClampNeg) (xs (x + nI 2).toNatClampNeg) (xs (x + nI 3).toNatClampNeg) (xs (x + nI 4).toNatClampNeg) (xs (x + nI 5).toNatClampNeg) σ _ hf) gL_law_X5_waits rfl hdV_X5_waits ⟨Nat.le_of_ble_eq_true rfl, Nat.le_of_ble_eq_true rfl⟩ (by decide) (cz4 rfl) rfl rfl (As := [.int (xs (x + nI 1).toNatClampNeg), .int (xs (x + nI 2).toNatClampNeg), .int (xs (x + nI 3).toNatClampNeg), .int (xs (x + nI 4).toNatClampNeg), .int (xs (x + nI 5).toNatClampNeg)]) (rest := []) rfl (Nat.le_of_ble_eq_true rfl) ⟨Nat.le_of_ble_eq_true rfl, Nat.le_of_ble_eq_true rfl⟩ dL_law_837 (fun r1 σ1 H locs hq1 hR hS => ?_)
  have hR : Rp G τ H := by rw [hq1.2] at hR; exact hR
  refine lv_aload_n hx hb dL_law_840 rfl (lv_at hl 2 rfl) ?_
  refine lv_aload_n hx hb dL_law_841 rfl (lv_at hl 0 rfl) ?_
  refine lv_iload_n hx hb dL_law_842 rfl (lv_at hl 3 rfl) ?_
  refine lv_iconst (v := nI 1) hx hb dL_law_843 (by decide) ?_
  refine lv_iadd hx hb dL_law_844 ?_
  refine va_sld hx hb hX hbl hbA hS (hin 1 (by decide)) dL_law_845 ?_
  refine lv_aload_n hx hb dL_law_846 rfl (lv_at hl 0 rfl) ?_
  refine lv_iload_n hx hb dL_law_847 rfl (lv_at hl 3 rfl) ?_
  refine lv_iconst (v := nI 2) hx hb dL_law_848 (by decide) ?_
  refine lv_iadd hx hb dL_law_849 ?_
  refine va_sld hx hb hX hbl hbA hS (hin 2 (by decide)) dL_law_850 ?_
  refine lv_aload_n hx hb dL_law_851 rfl (lv_at hl 0 rfl) ?_
  refine lv_iload_n hx hb dL_law_852 rfl (lv_at hl 3 rfl) ?_
  refine lv_iconst (v := nI 3) hx hb dL_law_853 (by decide) ?_
  refine lv_iadd hx hb dL_law_854 ?_
  refine va_sld hx hb hX hbl hbA hS (hin 3 (by decide)) dL_law_855 ?_
  refine lv_aload_n hx hb dL_law_856 rfl (lv_at hl 0 rfl) ?_
  refine lv_iload_n hx hb dL_law_857 rfl (lv_at hl 3 rfl) ?_
  refine lv_iconst (v := nI 4) hx hb dL_law_858 (by decide) ?_
  refine lv_iadd hx hb dL_law_859 ?_
  refine va_sld hx hb hX hbl hbA hS (hin 4 (by decide)) dL_law_860 ?_
  refine lv_aload_n hx hb dL_law_861 rfl (lv_at hl 0 rfl) ?_
  refine lv_iload_n hx hb dL_law_862 rfl (lv_at hl 3 rfl) ?_
  refine lv_iconst (v := nI 5) hx hb dL_law_863 (by decide) ?_
  refine lv_iadd hx hb dL_law_864 ?_
  refine va_sld hx hb hX hbl hbA hS (hin 5 (by decide)) dL_law_865 ?_
  refine x_cvI C hl.1 hR hS (c_X6_waits l G (xs (x + nI 1).toNatClampNeg) (xs (x + nI 2).toNatClampNeg) (xs (x + nI 3).toNatClampNeg) (xs (x + nI 4).toNatClampNeg) (xs (x + nI 5).toNatClampNeg) τ _ hg) gL_law_X6_waits rfl hdV_X6_waits ⟨Nat.le_of_ble_eq_true rfl, Nat.le_of_ble_eq_true rfl⟩ (by decide) (cz5 rfl) rfl rfl (As := [.int (xs (x + nI 1).toNatClampNeg), .int (xs (x + nI 2).toNatClampNeg), .int (xs (x + nI 3).toNatClampNeg), .int (xs (x + nI 4).toNatClampNeg), .int (xs (x + nI 5).toNatClampNeg)]) (rest := [.int r1]) rfl (Nat.le_of_ble_eq_true rfl) ⟨Nat.le_of_ble_eq_true rfl, Nat.le_of_ble_eq_true rfl⟩ dL_law_866 (fun r2 σ2 H locs hq2 hR hS => ?_)
  have hR : Rp G υ H := by rw [hq2.2] at hR; exact hR
  exact lv_icmp_eq (tgt := 1242) hx hb dL_law_869 (by decide) (fun _ => kk υ hJ _ _ _ hR hS hl) (fun h => absurd (hq1.1.trans hq2.1.symm) h)
set_option maxHeartbeats 4000000 in
set_option maxRecDepth 100000 in
theorem lz_share {p : Program} {l : Launch} {e : Env} {s : State} {m : MethodId} {below : List Frame} {meth : Method} {c : Code} {G : GG} {b L : Nat} {xs : Nat → Int32} (X : LzX p s m meth c G b L xs) {x : Int32} (hin : ∀ j, j ≤ 6 → vp_in (x + nI j) L) {σ : St} (hJ : JJ σ) (kk : ∀ υ, JJ υ → LzW p l e s m below meth c G b 1242 x υ) : LzW p l e s m below meth c G b 874 x σ := by
  intro H locs ls hR hS hl
  obtain ⟨C, hX, hbl, hbA⟩ := X
  have hx := C.1
  have hb := C.2.1
  obtain ⟨r, τ, υ, hf, hg, hJ⟩ := eq_share hJ (xs (x + nI 1).toNatClampNeg) (xs (x + nI 2).toNatClampNeg) (xs (x + nI 3).toNatClampNeg) (xs (x + nI 4).toNatClampNeg)
  refine lv_aload_n hx hb dL_law_874 rfl (lv_at hl 1 rfl) ?_
  refine lv_aload_n hx hb dL_law_875 rfl (lv_at hl 0 rfl) ?_
  refine lv_iload_n hx hb dL_law_876 rfl (lv_at hl 3 rfl) ?_
  refine lv_iconst (v := nI 1) hx hb dL_law_877 (by decide) ?_
  refine lv_iadd hx hb dL_law_878 ?_
  refine va_sld hx hb hX hbl hbA hS (hin 1 (by decide)) dL_law_879 ?_
  refine lv_aload_n hx hb dL_law_880 rfl (lv_at hl 0 rfl) ?_
  refine lv_iload_n hx hb dL_law_881 rfl (lv_at hl 3 rfl) ?_
  refine lv_iconst (v := nI 2) hx hb dL_law_882 (by decide) ?_
  refine lv_iadd hx hb dL_law_883 ?_
  refine va_sld hx hb hX hbl hbA hS (hin 2 (by decide)) dL_law_884 ?_
  refine lv_aload_n hx hb dL_law_885 rfl (lv_at hl 0 rfl) ?_
  refine lv_iload_n hx hb dL_law_886 rfl (lv_at hl 3 rfl) ?_
  refine lv_iconst (v := nI 3) hx hb dL_law_887 (by decide) ?_
  refine lv_iadd hx hb dL_law_888 ?_
  refine va_sld hx hb hX hbl hbA hS (hin 3 (by decide)) dL_law_889 ?_
  refine lv_aload_n hx hb dL_law_890 rfl (lv_at hl 0 rfl) ?_
  refine lv_iload_n hx hb dL_law_891 rfl (lv_at hl 3 rfl) ?_
  refine lv_iconst (v := nI 4) hx hb dL_law_892 (by decide) ?_
  refine lv_iadd hx hb dL_law_893 ?_
  refine va_sld hx hb hX hbl hbA hS (hin 4 (by decide)) dL_law_894 ?_
  refine x_cvI C hl.1 hR hS (c_X5_share l G (xs (x + nI 1).toNatClampNeg) (xs (x + nI 2).toNatClampNeg) (xs (x + nI 3).toNatClampNeg) (xs (x + nI 4).toNatClampNeg) σ _ hf) gL_law_X5_share rfl hdV_X5_share ⟨Nat.le_of_ble_eq_true rfl, Nat.le_of_ble_eq_true rfl⟩ (by decide) (cz4 rfl) rfl rfl (As := [.int (xs (x + nI 1).toNatClampNeg), .int (xs (x + nI 2).toNatClampNeg), .int (xs (x + nI 3).toNatClampNeg), .int (xs (x + nI 4).toNatClampNeg)]) (rest := []) rfl (Nat.le_of_ble_eq_true rfl) ⟨Nat.le_of_ble_eq_true rfl, Nat.le_of_ble_eq_true rfl⟩ dL_law_895 (fun r1 σ1 H locs hq1 hR hS => ?_)
  have hR : Rp G τ H := by rw [hq1.2] at hR; exact hR
  refine lv_aload_n hx hb dL_law_898 rfl (lv_at hl 2 rfl) ?_
  refine lv_aload_n hx hb dL_law_899 rfl (lv_at hl 0 rfl) ?_
  refine lv_iload_n hx hb dL_law_900 rfl (lv_at hl 3 rfl) ?_
  refine lv_iconst (v := nI 1) hx hb dL_law_901 (by decide) ?_
  refine lv_iadd hx hb dL_law_902 ?_
  refine va_sld hx hb hX hbl hbA hS (hin 1 (by decide)) dL_law_903 ?_
  refine lv_aload_n hx hb dL_law_904 rfl (lv_at hl 0 rfl) ?_
  refine lv_iload_n hx hb dL_law_905 rfl (lv_at hl 3 rfl) ?_
  refine lv_iconst (v := nI 2) hx hb dL_law_906 (by decide) ?_
  refine lv_iadd hx hb dL_law_907 ?_
  refine va_sld hx hb hX hbl hbA hS (hin 2 (by decide)) dL_law_908 ?_
  refine lv_aload_n hx hb dL_law_909 rfl (lv_at hl 0 rfl) ?_
  refine lv_iload_n hx hb dL_law_910 rfl (lv_at hl 3 rfl) ?_
  refine lv_iconst (v := nI 3) hx hb dL_law_911 (by decide) ?_
  refine lv_iadd hx hb dL_law_912 ?_
  refine va_sld hx hb hX hbl hbA hS (hin 3 (by decide)) dL_law_913 ?_
  refine lv_aload_n hx hb dL_law_914 rfl (lv_at hl 0 rfl) ?_
  refine lv_iload_n hx hb dL_law_915 rfl (lv_at hl 3 rfl) ?_
  refine lv_iconst (v := nI 4) hx hb dL_law_916 (by decide) ?_
  refine lv_iadd hx hb dL_law_917 ?_
  refine va_sld hx hb hX hbl hbA hS (hin 4 (by decide)) dL_law_918 ?_
  refine x_cvI C hl.1 hR hS (c_X6_share l G (xs (x + nI 1).toNatClampNeg) (xs (x + nI 2).toNatClampNeg) (xs (x + nI 3).toNatClampNeg) (xs (x + nI 4).toNatClampNeg) τ _ hg) gL_law_X6_share rfl hdV_X6_share ⟨Nat.le_of_ble_eq_true rfl, Nat.le_of_ble_eq_true rfl⟩ (by decide) (cz5 rfl) rfl rfl (As := [.int (xs (x + nI 1).toNatClampNeg), .int (xs (x + nI 2).toNatClampNeg), .int (xs (x + nI 3).toNatClampNeg), .int (xs (x + nI 4).toNatClampNeg)]) (rest := [.int r1]) rfl (Nat.le_of_ble_eq_true rfl) ⟨Nat.le_of_ble_eq_true rfl, Nat.le_of_ble_eq_true rfl⟩ dL_law_919 (fun r2 σ2 H locs hq2 hR hS => ?_)
  have hR : Rp G υ H := by rw [hq2.2] at hR; exact hR
  exact lv_icmp_eq (tgt := 1242) hx hb dL_law_922 (by decide) (fun _ => kk υ hJ _ _ _ hR hS hl) (fun h => absurd (hq1.1.trans hq2.1.symm) h)
set_option maxHeartbeats 4000000 in
set_option maxRecDepth 100000 in
theorem lz_key {p : Program} {l : Launch} {e : Env} {s : State} {m : MethodId} {below : List Frame} {meth : Method} {c : Code} {G : GG} {b L : Nat} {xs : Nat → Int32} (X : LzX p s m meth c G b L xs) {x : Int32} (hin : ∀ j, j ≤ 6 → vp_in (x + nI j) L) {σ : St} (hJ : JJ σ) (kk : ∀ υ, JJ υ → LzW p l e s m below meth c G b 1242 x υ) : LzW p l e s m below meth c G b 927 x σ := by
  intro H locs ls hR hS hl
  obtain ⟨C, hX, hbl, hbA⟩ := X
  have hx := C.1
  have hb := C.2.1
  obtain ⟨r, τ, υ, hf, hg, hJ⟩ := eq_key hJ (xs (x + nI 1).toNatClampNeg) (xs (x + nI 2).toNatClampNeg) (xs (x + nI 3).toNatClampNeg)
  refine lv_aload_n hx hb dL_law_927 rfl (lv_at hl 1 rfl) ?_
  refine lv_aload_n hx hb dL_law_928 rfl (lv_at hl 0 rfl) ?_
  refine lv_iload_n hx hb dL_law_929 rfl (lv_at hl 3 rfl) ?_
  refine lv_iconst (v := nI 1) hx hb dL_law_930 (by decide) ?_
  refine lv_iadd hx hb dL_law_931 ?_
  refine va_sld hx hb hX hbl hbA hS (hin 1 (by decide)) dL_law_932 ?_
  refine lv_aload_n hx hb dL_law_933 rfl (lv_at hl 0 rfl) ?_
  refine lv_iload_n hx hb dL_law_934 rfl (lv_at hl 3 rfl) ?_
  refine lv_iconst (v := nI 2) hx hb dL_law_935 (by decide) ?_
  refine lv_iadd hx hb dL_law_936 ?_
  refine va_sld hx hb hX hbl hbA hS (hin 2 (by decide)) dL_law_937 ?_
  refine lv_aload_n hx hb dL_law_938 rfl (lv_at hl 0 rfl) ?_
  refine lv_iload_n hx hb dL_law_939 rfl (lv_at hl 3 rfl) ?_
  refine lv_iconst (v := nI 3) hx hb dL_law_940 (by decide) ?_
  refine lv_iadd hx hb dL_law_941 ?_
  refine va_sld hx hb hX hbl hbA hS (hin 3 (by decide)) dL_law_942 ?_
  refine x_cvI C hl.1 hR hS (c_X5_key l G (xs (x + nI 1).toNatClampNeg) (xs (x + nI 2).toNatClampNeg) (xs (x + nI 3).toNatClampNeg) σ _ hf) gL_law_X5_key rfl hdV_X5_key ⟨Nat.le_of_ble_eq_true rfl, Nat.le_of_ble_eq_true rfl⟩ (by decide) (cz4 rfl) rfl rfl (As := [.int (xs (x + nI 1).toNatClampNeg), .int (xs (x + nI 2).toNatClampNeg), .int (xs (x + nI 3).toNatClampNeg)]) (rest := []) rfl (Nat.le_of_ble_eq_true rfl) ⟨Nat.le_of_ble_eq_true rfl, Nat.le_of_ble_eq_true rfl⟩ dL_law_943 (fun r1 σ1 H locs hq1 hR hS => ?_)
  have hR : Rp G τ H := by rw [hq1.2] at hR; exact hR
  refine lv_aload_n hx hb dL_law_946 rfl (lv_at hl 2 rfl) ?_
  refine lv_aload_n hx hb dL_law_947 rfl (lv_at hl 0 rfl) ?_
  refine lv_iload_n hx hb dL_law_948 rfl (lv_at hl 3 rfl) ?_
  refine lv_iconst (v := nI 1) hx hb dL_law_949 (by decide) ?_
  refine lv_iadd hx hb dL_law_950 ?_
  refine va_sld hx hb hX hbl hbA hS (hin 1 (by decide)) dL_law_951 ?_
  refine lv_aload_n hx hb dL_law_952 rfl (lv_at hl 0 rfl) ?_
  refine lv_iload_n hx hb dL_law_953 rfl (lv_at hl 3 rfl) ?_
  refine lv_iconst (v := nI 2) hx hb dL_law_954 (by decide) ?_
  refine lv_iadd hx hb dL_law_955 ?_
  refine va_sld hx hb hX hbl hbA hS (hin 2 (by decide)) dL_law_956 ?_
  refine lv_aload_n hx hb dL_law_957 rfl (lv_at hl 0 rfl) ?_
  refine lv_iload_n hx hb dL_law_958 rfl (lv_at hl 3 rfl) ?_
  refine lv_iconst (v := nI 3) hx hb dL_law_959 (by decide) ?_
  refine lv_iadd hx hb dL_law_960 ?_
  refine va_sld hx hb hX hbl hbA hS (hin 3 (by decide)) dL_law_961 ?_
  refine x_cvI C hl.1 hR hS (c_X6_key l G (xs (x + nI 1).toNatClampNeg) (xs (x + nI 2).toNatClampNeg) (xs (x + nI 3).toNatClampNeg) τ _ hg) gL_law_X6_key rfl hdV_X6_key ⟨Nat.le_of_ble_eq_true rfl, Nat.le_of_ble_eq_true rfl⟩ (by decide) (cz5 rfl) rfl rfl (As := [.int (xs (x + nI 1).toNatClampNeg), .int (xs (x + nI 2).toNatClampNeg), .int (xs (x + nI 3).toNatClampNeg)]) (rest := [.int r1]) rfl (Nat.le_of_ble_eq_true rfl) ⟨Nat.le_of_ble_eq_true rfl, Nat.le_of_ble_eq_true rfl⟩ dL_law_962 (fun r2 σ2 H locs hq2 hR hS => ?_)
  have hR : Rp G υ H := by rw [hq2.2] at hR; exact hR
  exact lv_icmp_eq (tgt := 1242) hx hb dL_law_965 (by decide) (fun _ => kk υ hJ _ _ _ hR hS hl) (fun h => absurd (hq1.1.trans hq2.1.symm) h)
