/-! a tick of the law's -/
theorem nxR_skip {J : Mi} {b i : Nat} {last : Int32} (h : ¬ sL J b i 7 = 3) : nxR J b (i + 1) last = nxR J b i last := by
  show nxB J b last i (nxR J b i last) = _
  unfold nxB
  rw [if_neg h]
theorem nxR_le {J : Mi} {b i : Nat} {last : Int32} (h : sL J b i 10 ≤ last) : nxR J b (i + 1) last = nxR J b i last := by
  show nxB J b last i (nxR J b i last) = _
  unfold nxB
  rw [if_pos h, ite_self]
theorem nxR_none {J : Mi} {b i : Nat} {last : Int32} (h3 : sL J b i 7 = 3) (h : ¬ sL J b i 10 ≤ last) (hz : nxR J b i last = none) : nxR J b (i + 1) last = some i := by
  show nxB J b last i (nxR J b i last) = _
  unfold nxB
  rw [if_pos h3, if_neg h, hz]
theorem nxR_old {J : Mi} {b i m : Nat} {last : Int32} (h3 : sL J b i 7 = 3) (h : ¬ sL J b i 10 ≤ last) (hz : nxR J b i last = some m) (hle : sL J b m 10 ≤ sL J b i 10) : nxR J b (i + 1) last = nxR J b i last := by
  show nxB J b last i (nxR J b i last) = _
  unfold nxB
  rw [if_pos h3, if_neg h, hz]
  exact if_pos hle
theorem nxR_new {J : Mi} {b i m : Nat} {last : Int32} (h3 : sL J b i 7 = 3) (h : ¬ sL J b i 10 ≤ last) (hz : nxR J b i last = some m) (hle : ¬ sL J b m 10 ≤ sL J b i 10) : nxR J b (i + 1) last = some i := by
  show nxB J b last i (nxR J b i last) = _
  unfold nxB
  rw [if_pos h3, if_neg h, hz]
  exact if_neg hle
theorem brL_some {J : Mi} {b n f m : Nat} {last : Int32} (h : nxR J b n last = some m) : brL b n (f + 1) J last = brL b n f (brX J b n m) (sL J b m 10) := by
  rw [brL, h]
theorem brL_none {J : Mi} {b n f : Nat} {last : Int32} (h : nxR J b n last = none) : brL b n (f + 1) J last = J := by
  rw [brL, h]
theorem brO_some {J : Mi} {b n f m : Nat} {last : Int32} (h : nxR J b n last = some m) : brO b n (f + 1) J last = brO b n f (brX J b n m) (sL J b m 10) := by
  rw [brO, h]
section TK
variable {E : EE} {p : Program} {l : Launch} {e : Env} {s : State} {m : MethodId} {args : Array Value} {below : List Frame} {meth : Method} {c : Code}
set_option maxRecDepth 100000 in
set_option maxHeartbeats 4000000 in
theorem tick_rise {I2 : Mi} {F : Mr} {b n : Nat} {aw : Int32} (hb : LB b) (hn5 : n ≤ 5) (C : Cx E mL_tick.1.cls mL_tick.2.1 mL_tick.2.2.1 p s m args meth c) (hr : meth.sig.returnType = mL_tick.2.2.2.1) : ∀ (f : Nat) (J : Mi) (last : Int32), J b 2 = nI n → brO b n f J last → I2 = enL (brL b n f J last) b n → G E NT mL_tick.2.2.1 p l e mL_tick.2.2.2.2 s m args below meth c 0 0 (MQ below (QC E NT (fun r9 I9 F9 => r9 = none ∧ I9 = I2 ∧ F9 = F)) args s mL_tick.2.2.2.2.cells mL_tick.2.2.2.2.slots (fun q => pb E ≤ q)) J F 372 [some (rf E b), some (rf E (b + 1)), some (rf E 131), some (.int aw), some (.int last), some (.int 1), none, none] [] := by
  intro f
  induction f with
  | zero => intro J last _ hO _; exact hO.elim
  | succ f ih =>
    intro J last hJ hO hI
    refine g_iload C dL_tick_372 rfl ?_
    refine g_if_eq C (tgt := 556) dL_tick_374 (by decide) (fun c9 => absurd c9 (by decide)) (fun _ => ?_)
    refine g_iconst C (v := (-1)) dL_tick_377 (by decide) ?_
    refine g_istore C dL_tick_378 (by decide) rfl ?_
    refine g_iconst C (v := 0) dL_tick_380 (by decide) ?_
    refine g_istore C dL_tick_381 (by decide) rfl ?_
    refine G_loop (n := n) (fun i => [some (rf E b), some (rf E (b + 1)), some (rf E 131), some (.int aw), some (.int last), some (.int 1), some (.int (nxI (nxR J b i last))), some (.int (nI i))]) (fun i => J) (fun _ => F) rfl rfl rfl ?_ ?_
    · intro i383 hi383 ih383
      refine g_iload C dL_tick_383 rfl ?_
      refine g_aload_n C dL_tick_385 rfl rfl ?_
      refine g_iconst C (v := 2) dL_tick_386 (by decide) ?_
      refine g_iald_j C hb.q 2 rfl (by decide) (by decide) dL_tick_387 ?_
      refine g_icmp_ge C (tgt := 458) dL_tick_388 (by decide) (fun c388 => absurd c388 (nI_nge hJ hi383 (by omega))) (fun _ => ?_)
      refine g_aload_n C dL_tick_391 rfl rfl ?_
      refine g_bipush C (v := 12) dL_tick_392 (by decide) ?_
      refine g_iload C dL_tick_394 rfl ?_
      refine g_imul C dL_tick_396 ?_
      refine g_bipush C (v := 7) dL_tick_397 (by decide) ?_
      refine g_iadd C dL_tick_399 ?_
      refine g_iald_j C hb.s (12 * i383 + 7) (e_ix i383 7 rfl) (by omega) (by decide) dL_tick_400 ?_
      refine g_iconst C (v := 3) dL_tick_401 (by decide) ?_
      refine g_icmp_ne C (tgt := 452) dL_tick_402 (by decide) (fun c402 => ?_) (fun c402 => ?_)
      · skip
        refine g_iinc C dL_tick_452 rfl (nI_inc _) (by decide) rfl ?_
        refine g_goto C (tgt := 383) dL_tick_455 (by decide) ?_
        exact G_cast ih383 rfl rfl (by first | (rw [nxR_skip c402]; rfl) | (rw [nxR_le c417]; rfl) | (rw [nxR_none c402 c417 hz]; rfl) | (rw [nxR_old c402 c417 hm9 c445]; rfl) | (rw [nxR_new c402 c417 hm9 c445]; rfl)) rfl
      · skip
        refine g_aload_n C dL_tick_405 rfl rfl ?_
        refine g_bipush C (v := 12) dL_tick_406 (by decide) ?_
        refine g_iload C dL_tick_408 rfl ?_
        refine g_imul C dL_tick_410 ?_
        refine g_bipush C (v := 10) dL_tick_411 (by decide) ?_
        refine g_iadd C dL_tick_413 ?_
        refine g_iald_j C hb.s (12 * i383 + 10) (e_ix i383 10 rfl) (by omega) (by decide) dL_tick_414 ?_
        refine g_iload C dL_tick_415 rfl ?_
        refine g_icmp_le C (tgt := 452) dL_tick_417 (by decide) (fun c417 => ?_) (fun c417 => ?_)
        · skip
          refine g_iinc C dL_tick_452 rfl (nI_inc _) (by decide) rfl ?_
          refine g_goto C (tgt := 383) dL_tick_455 (by decide) ?_
          exact G_cast ih383 rfl rfl (by first | (rw [nxR_skip c402]; rfl) | (rw [nxR_le c417]; rfl) | (rw [nxR_none c402 c417 hz]; rfl) | (rw [nxR_old c402 c417 hm9 c445]; rfl) | (rw [nxR_new c402 c417 hm9 c445]; rfl)) rfl
        · skip
          by_cases hz : nxR J b i383 last = none
          · skip
            refine g_iload C dL_tick_420 rfl ?_
            refine g_if_lt C (tgt := 448) dL_tick_422 (by decide) (fun _ => ?_) (fun c422 => absurd (show nxI (nxR J b i383 last) < 0 by rw [hz]; decide) c422)
            refine g_iload C dL_tick_448 rfl ?_
            refine g_istore C dL_tick_450 (by decide) rfl ?_
            refine g_iinc C dL_tick_452 rfl (nI_inc _) (by decide) rfl ?_
            refine g_goto C (tgt := 383) dL_tick_455 (by decide) ?_
            exact G_cast ih383 rfl rfl (by first | (rw [nxR_skip c402]; rfl) | (rw [nxR_le c417]; rfl) | (rw [nxR_none c402 c417 hz]; rfl) | (rw [nxR_old c402 c417 hm9 c445]; rfl) | (rw [nxR_new c402 c417 hm9 c445]; rfl)) rfl
          · skip
            obtain ⟨m9, hm9, hl9⟩ := nx_some hz
            refine g_iload C dL_tick_420 rfl ?_
            refine g_if_lt C (tgt := 448) dL_tick_422 (by decide) (fun c422 => absurd c422 (show ¬ nxI (nxR J b i383 last) < 0 by rw [hm9]; exact nI_pos (by omega))) (fun _ => ?_)
            refine g_aload_n C dL_tick_425 rfl rfl ?_
            refine g_bipush C (v := 12) dL_tick_426 (by decide) ?_
            refine g_iload C dL_tick_428 rfl ?_
            refine g_imul C dL_tick_430 ?_
            refine g_bipush C (v := 10) dL_tick_431 (by decide) ?_
            refine g_iadd C dL_tick_433 ?_
            refine g_iald_j C hb.s (12 * i383 + 10) (e_ix i383 10 rfl) (by omega) (by decide) dL_tick_434 ?_
            refine g_aload_n C dL_tick_435 rfl rfl ?_
            refine g_bipush C (v := 12) dL_tick_436 (by decide) ?_
            refine g_iload C dL_tick_438 rfl ?_
            refine g_imul C dL_tick_440 ?_
            refine g_bipush C (v := 10) dL_tick_441 (by decide) ?_
            refine g_iadd C dL_tick_443 ?_
            refine g_iald_j C hb.s (12 * m9 + 10) (by rw [hm9]; exact e_ix m9 10 rfl) (by omega) (by decide) dL_tick_444 ?_
            refine g_icmp_ge C (tgt := 452) dL_tick_445 (by decide) (fun c445 => ?_) (fun c445 => ?_)
            · skip
              refine g_iinc C dL_tick_452 rfl (nI_inc _) (by decide) rfl ?_
              refine g_goto C (tgt := 383) dL_tick_455 (by decide) ?_
              exact G_cast ih383 rfl rfl (by first | (rw [nxR_skip c402]; rfl) | (rw [nxR_le c417]; rfl) | (rw [nxR_none c402 c417 hz]; rfl) | (rw [nxR_old c402 c417 hm9 c445]; rfl) | (rw [nxR_new c402 c417 hm9 c445]; rfl)) rfl
            · skip
              refine g_iload C dL_tick_448 rfl ?_
              refine g_istore C dL_tick_450 (by decide) rfl ?_
              refine g_iinc C dL_tick_452 rfl (nI_inc _) (by decide) rfl ?_
              refine g_goto C (tgt := 383) dL_tick_455 (by decide) ?_
              exact G_cast ih383 rfl rfl (by first | (rw [nxR_skip c402]; rfl) | (rw [nxR_le c417]; rfl) | (rw [nxR_none c402 c417 hz]; rfl) | (rw [nxR_old c402 c417 hm9 c445]; rfl) | (rw [nxR_new c402 c417 hm9 c445]; rfl)) rfl
    · skip
      refine g_iload C dL_tick_383 rfl ?_
      refine g_aload_n C dL_tick_385 rfl rfl ?_
      refine g_iconst C (v := 2) dL_tick_386 (by decide) ?_
      refine g_iald_j C hb.q 2 rfl (by decide) (by decide) dL_tick_387 ?_
      refine g_icmp_ge C (tgt := 458) dL_tick_388 (by decide) (fun _ => ?_) (fun c388 => absurd (nI_lee hJ) c388)
      by_cases hz2 : nxR J b n last = none
      · skip
        refine g_iload C dL_tick_458 rfl ?_
        refine g_if_lt C (tgt := 467) dL_tick_460 (by decide) (fun _ => ?_) (fun c460 => absurd (show nxI (nxR J b n last) < 0 by rw [hz2]; decide) c460)
        refine g_iconst C (v := 0) dL_tick_467 (by decide) ?_
        refine g_istore C dL_tick_468 (by decide) rfl ?_
        refine g_iload C dL_tick_470 rfl ?_
        refine g_if_ne C (tgt := 478) dL_tick_472 (by decide) (fun c9 => absurd c9 (by decide)) (fun _ => ?_)
        refine g_goto C (tgt := 372) dL_tick_475 (by decide) ?_
        refine g_iload C dL_tick_372 rfl ?_
        refine g_if_eq C (tgt := 556) dL_tick_374 (by decide) (fun _ => ?_) (fun c9 => absurd c9 (by decide))
        have hZ : up J b 3 (J b 3 + 1) b 2 = nI n := by rw [up_b2 _ _ _ _ _ (by omega)]; exact hJ
        refine g_aload_n C dL_tick_556 rfl rfl ?_
        refine g_iconst C (v := 3) dL_tick_557 (by decide) ?_
        refine g_dup2_11 C dL_tick_558 rfl rfl ?_
        refine g_iald_j C hb.q 3 rfl (by decide) (by decide) dL_tick_559 ?_
        refine g_iconst C (v := 1) dL_tick_560 (by decide) ?_
        refine g_iadd C dL_tick_561 ?_
        refine g_iast_j C hb.q 3 rfl (by decide) (by decide) dL_tick_562 ?_
        refine g_aload_n C dL_tick_563 rfl rfl ?_
        refine g_bipush C (v := 6) dL_tick_564 (by decide) ?_
        refine g_aload_n C dL_tick_566 rfl rfl ?_
        refine g_aload_n C dL_tick_567 rfl rfl ?_
        refine kL_27 C (by decide) (tL_load hb hn5 hZ) ⟨⟨Nat.le_of_ble_eq_true rfl, Nat.le_of_ble_eq_true rfl⟩, Nat.le_of_ble_eq_true rfl, Nat.le_of_ble_eq_true rfl⟩ (Nat.le_of_ble_eq_true rfl) dL_tick_568 ?_
        refine g_aload_n C dL_tick_571 rfl rfl ?_
        refine g_bipush C (v := 6) dL_tick_572 (by decide) ?_
        refine g_iald_j C hb.q 6 rfl (by decide) (by decide) dL_tick_574 ?_
        refine g_icmp_le C (tgt := 586) dL_tick_575 (by decide) (fun c575 => ?_) (fun c575 => ?_)
        · skip
          refine g_aload_n C dL_tick_586 rfl rfl ?_
          refine g_bipush C (v := 6) dL_tick_587 (by decide) ?_
          refine g_iald_j C hb.q 6 rfl (by decide) (by decide) dL_tick_589 ?_
          refine g_iast_j C hb.q 6 rfl (by decide) (by decide) dL_tick_590 ?_
          exact g_vret C hr dL_tick_591 ⟨rfl, by rw [hI, brL_none hz2]; unfold enL; dsimp only; first | rw [if_pos c575] | rw [if_neg c575], rfl⟩
        · skip
          refine g_aload_n C dL_tick_578 rfl rfl ?_
          refine g_aload_n C dL_tick_579 rfl rfl ?_
          refine kL_27 C (by decide) (tL_load hb hn5 hZ) ⟨⟨Nat.le_of_ble_eq_true rfl, Nat.le_of_ble_eq_true rfl⟩, Nat.le_of_ble_eq_true rfl, Nat.le_of_ble_eq_true rfl⟩ (Nat.le_of_ble_eq_true rfl) dL_tick_580 ?_
          refine g_goto C (tgt := 590) dL_tick_583 (by decide) ?_
          refine g_iast_j C hb.q 6 rfl (by decide) (by decide) dL_tick_590 ?_
          exact g_vret C hr dL_tick_591 ⟨rfl, by rw [hI, brL_none hz2]; unfold enL; dsimp only; first | rw [if_pos c575] | rw [if_neg c575], rfl⟩
      · skip
        obtain ⟨m8, hm8, hl8⟩ := nx_some hz2
        rw [brL_some hm8] at hI
        rw [brO_some hm8] at hO
        refine g_iload C dL_tick_458 rfl ?_
        refine g_if_lt C (tgt := 467) dL_tick_460 (by decide) (fun c460 => absurd c460 (show ¬ nxI (nxR J b n last) < 0 by rw [hm8]; exact nI_pos (by omega))) (fun _ => ?_)
        refine g_iconst C (v := 1) dL_tick_463 (by decide) ?_
        refine g_goto C (tgt := 468) dL_tick_464 (by decide) ?_
        refine g_istore C dL_tick_468 (by decide) rfl ?_
        refine g_iload C dL_tick_470 rfl ?_
        refine g_if_ne C (tgt := 478) dL_tick_472 (by decide) (fun _ => ?_) (fun c9 => absurd c9 (by decide))
        refine g_aload_n C dL_tick_478 rfl rfl ?_
        refine g_bipush C (v := 12) dL_tick_479 (by decide) ?_
        refine g_iload C dL_tick_481 rfl ?_
        refine g_imul C dL_tick_483 ?_
        refine g_bipush C (v := 10) dL_tick_484 (by decide) ?_
        refine g_iadd C dL_tick_486 ?_
        refine g_iald_j C hb.s (12 * m8 + 10) (by rw [hm8]; exact e_ix m8 10 rfl) (by omega) (by decide) dL_tick_487 ?_
        refine g_istore C dL_tick_488 (by decide) rfl ?_
        refine g_aload_n C dL_tick_490 rfl rfl ?_
        refine g_aload_n C dL_tick_491 rfl rfl ?_
        refine kL_27 C (by decide) (tL_load hb hn5 hJ) ⟨⟨Nat.le_of_ble_eq_true rfl, Nat.le_of_ble_eq_true rfl⟩, Nat.le_of_ble_eq_true rfl, Nat.le_of_ble_eq_true rfl⟩ (Nat.le_of_ble_eq_true rfl) dL_tick_492 ?_
        refine g_istore C dL_tick_495 (by decide) rfl ?_
        refine g_iload C dL_tick_497 rfl ?_
        refine g_if_le C (tgt := 523) dL_tick_499 (by decide) (fun c499 => ?_) (fun c499 => ?_)
        · skip
          refine g_aload_n C dL_tick_523 rfl rfl ?_
          refine g_bipush C (v := 12) dL_tick_524 (by decide) ?_
          refine g_iload C dL_tick_526 rfl ?_
          refine g_imul C dL_tick_528 ?_
          refine g_bipush C (v := 7) dL_tick_529 (by decide) ?_
          refine g_iadd C dL_tick_531 ?_
          refine g_iconst C (v := 4) dL_tick_532 (by decide) ?_
          refine g_iast_j C hb.s (12 * m8 + 7) (by rw [hm8]; exact e_ix m8 7 rfl) (by omega) (by decide) dL_tick_533 ?_
          refine g_aload_n C dL_tick_534 rfl rfl ?_
          refine g_bipush C (v := 12) dL_tick_535 (by decide) ?_
          refine g_iload C dL_tick_537 rfl ?_
          refine g_imul C dL_tick_539 ?_
          refine g_bipush C (v := 8) dL_tick_540 (by decide) ?_
          refine g_iadd C dL_tick_542 ?_
          refine g_aload_n C dL_tick_543 rfl rfl ?_
          refine g_bipush C (v := 12) dL_tick_544 (by decide) ?_
          refine g_iload C dL_tick_546 rfl ?_
          refine g_imul C dL_tick_548 ?_
          refine g_iconst C (v := 2) dL_tick_549 (by decide) ?_
          refine g_iadd C dL_tick_550 ?_
          refine g_iald_j C hb.s (12 * m8 + 2) (by rw [hm8]; exact e_ix m8 2 rfl) (by omega) (by decide) dL_tick_551 ?_
          refine g_iast_j C hb.s (12 * m8 + 8) (by rw [hm8]; exact e_ix m8 8 rfl) (by omega) (by decide) dL_tick_552 ?_
          refine g_goto C (tgt := 372) dL_tick_553 (by decide) ?_
          exact G_forget 6 (G_forget 7 (G_cast (ih (brX J b n m8) (sL J b m8 10) (by rw [brX_b2]; exact hJ) hO hI) (by unfold brX rsL; first | rw [if_pos c499] | rw [if_neg c499, if_pos c517] | rw [if_neg c499, if_neg c517]) rfl rfl rfl))
        · skip
          refine g_iload C dL_tick_502 rfl ?_
          refine g_aload_n C dL_tick_504 rfl rfl ?_
          refine g_bipush C (v := 12) dL_tick_505 (by decide) ?_
          refine g_iload C dL_tick_507 rfl ?_
          refine g_imul C dL_tick_509 ?_
          refine g_iconst C (v := 3) dL_tick_510 (by decide) ?_
          refine g_iadd C dL_tick_511 ?_
          refine g_iald_j C hb.s (12 * m8 + 3) (by rw [hm8]; exact e_ix m8 3 rfl) (by omega) (by decide) dL_tick_512 ?_
          refine g_iadd C dL_tick_513 ?_
          refine g_aload_n C dL_tick_514 rfl rfl ?_
          refine g_iconst C (v := 0) dL_tick_515 (by decide) ?_
          refine g_iald_j C hb.q 0 rfl (by decide) (by decide) dL_tick_516 ?_
          refine g_icmp_le C (tgt := 523) dL_tick_517 (by decide) (fun c517 => ?_) (fun c517 => ?_)
          · skip
            refine g_aload_n C dL_tick_523 rfl rfl ?_
            refine g_bipush C (v := 12) dL_tick_524 (by decide) ?_
            refine g_iload C dL_tick_526 rfl ?_
            refine g_imul C dL_tick_528 ?_
            refine g_bipush C (v := 7) dL_tick_529 (by decide) ?_
            refine g_iadd C dL_tick_531 ?_
            refine g_iconst C (v := 4) dL_tick_532 (by decide) ?_
            refine g_iast_j C hb.s (12 * m8 + 7) (by rw [hm8]; exact e_ix m8 7 rfl) (by omega) (by decide) dL_tick_533 ?_
            refine g_aload_n C dL_tick_534 rfl rfl ?_
            refine g_bipush C (v := 12) dL_tick_535 (by decide) ?_
            refine g_iload C dL_tick_537 rfl ?_
            refine g_imul C dL_tick_539 ?_
            refine g_bipush C (v := 8) dL_tick_540 (by decide) ?_
            refine g_iadd C dL_tick_542 ?_
            refine g_aload_n C dL_tick_543 rfl rfl ?_
            refine g_bipush C (v := 12) dL_tick_544 (by decide) ?_
            refine g_iload C dL_tick_546 rfl ?_
            refine g_imul C dL_tick_548 ?_
            refine g_iconst C (v := 2) dL_tick_549 (by decide) ?_
            refine g_iadd C dL_tick_550 ?_
            refine g_iald_j C hb.s (12 * m8 + 2) (by rw [hm8]; exact e_ix m8 2 rfl) (by omega) (by decide) dL_tick_551 ?_
            refine g_iast_j C hb.s (12 * m8 + 8) (by rw [hm8]; exact e_ix m8 8 rfl) (by omega) (by decide) dL_tick_552 ?_
            refine g_goto C (tgt := 372) dL_tick_553 (by decide) ?_
            exact G_forget 6 (G_forget 7 (G_cast (ih (brX J b n m8) (sL J b m8 10) (by rw [brX_b2]; exact hJ) hO hI) (by unfold brX rsL; first | rw [if_pos c499] | rw [if_neg c499, if_pos c517] | rw [if_neg c499, if_neg c517]) rfl rfl rfl))
          · skip
            refine g_goto C (tgt := 372) dL_tick_520 (by decide) ?_
            exact G_forget 6 (G_forget 7 (G_cast (ih (brX J b n m8) (sL J b m8 10) (by rw [brX_b2]; exact hJ) hO hI) (by unfold brX rsL; first | rw [if_pos c499] | rw [if_neg c499, if_pos c517] | rw [if_neg c499, if_neg c517]) rfl rfl rfl))
end TK
