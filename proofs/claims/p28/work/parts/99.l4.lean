/-! BEHIND THE LAW'S LOOP: the walk (written by wip/p28/tools/mk_e.py) -/
set_option maxHeartbeats 8000000 in
theorem law_end {p : Program} {l : Launch} {e : Env} {s : State} {m : MethodId} {below : List Frame} {meth : Method} {c : Code} {D : va_G} {cs : Nat → ClassId} {ad : Nat → Nat} {aw b : Nat} (C : CQ p s m #[Value.ref b] meth c cL_law 11 D cs) (hXL : XL s) (hr : meth.sig.returnType = ret) {g : Gh} {wv : Nat → Int64} {a : Nat} (hI : LI 40 a g wv) : VL p l e s m b below meth c D (lw_Z below #[Value.ref b] s) (gW cs ad g (wC cs aw wv)) 381 [(4, .int (nI 40)), (3, .int (nI a)), (2, .ref aw), (1, .ref (ad 0)), (0, .ref b)] [] := by
  refine q_go (fun G => ?_)
  obtain ⟨⟨i1, i2⟩, i3, i4, -, -, i7⟩ := hI
  obtain ⟨hn, hh, ha8⟩ := i7 (by omega)
  have ha : a < 64 := by omega
  have hk : gK g = 4 := by rw [i3, if_neg (by omega)]
  have h12 := G.1.1.h1l
  have h0 : inb 0 (nh g.1) = true := inb_0 hh h12
  have w1 : vp_updL wv a (seenV g.1) (a - 1) = seenV (gT g 3) := by
    rw [pk_uLn (by omega)]
    have h := i4 3 (by omega)
    rw [hk, show a - 4 + 3 = a - 1 by omega] at h
    exact h
  obtain ⟨⟨a1, a2, a3⟩, ⟨b1, b2⟩, -⟩ := Inv.nu G.1.1 (show 0 < nh g.1 by omega)
  obtain ⟨n0, hn0e⟩ : ∃ n, n = fP g.1 0 0 := ⟨_, rfl⟩
  obtain ⟨n1, hn1e⟩ : ∃ n, n = fP g.1 0 1 := ⟨_, rfl⟩
  have x30 : g.1 30 = nI n0 := by rw [hn0e]; exact a1
  have x31 : g.1 31 = nI n1 := by rw [hn1e]; exact b1
  have hn0 : n0 ≤ 9 := by rw [hn0e]; exact a3
  have hn1 : n1 ≤ 9999 := by rw [hn1e]; exact b2
  have m1 : nI n1 - nI n1 / 9999 * 9999 = nI (n1 % 9999) := pk_rem (a := n1) (d := 9999) (by omega) (by omega) (by omega)
  have m0 : nI n0 - nI n0 / 9 * 9 = nI (n0 % 9) := pk_rem (a := n0) (d := 9) (by omega) (by omega) (by omega)
  refine q_aload_n C dL_law_381 rfl 2 rfl ?_
  refine q_iload_n C dL_law_382 rfl 1 rfl ?_
  refine q_aload_n C dL_law_383 rfl 3 rfl ?_
  refine q_callSL (n := 1) (As := [.ref (ad 0)]) (maxL := 4) (ret := some .long) C (c_seen G) qG_Lseen rfl (by decide +kernel) ⟨Nat.le_of_ble_eq_true rfl, Nat.le_of_ble_eq_true rfl⟩ ⟨Nat.le_of_ble_eq_true rfl, Nat.le_of_ble_eq_true rfl⟩ rfl rfl rfl (Nat.le_of_ble_eq_true rfl) dL_law_384 ?_
  refine q_last C ha dL_law_387 ?_
  refine q_aload_n C dL_law_388 rfl 3 rfl ?_
  refine q_iconst (v := (2 : Int32)) C dL_law_389 (by decide) ?_
  refine o_count C x_held ⟨Nat.le_of_ble_eq_true rfl, Nat.le_of_ble_eq_true rfl⟩ ⟨Nat.le_of_ble_eq_true rfl, Nat.le_of_ble_eq_true rfl⟩ (Nat.le_of_ble_eq_true rfl) dL_law_390 ?_
  refine q_istore C dL_law_393 (by decide) rfl ?_
  refine q_aload_n C dL_law_395 rfl 3 rfl ?_
  refine o_keep C step_keep ⟨Nat.le_of_ble_eq_true rfl, Nat.le_of_ble_eq_true rfl⟩ ⟨Nat.le_of_ble_eq_true rfl, Nat.le_of_ble_eq_true rfl⟩ (Nat.le_of_ble_eq_true rfl) dL_law_396 ?_
  refine q_iload C dL_law_399 0 rfl ?_
  refine q_icmp_ne_f C 467 dL_law_401 (by decide) rfl ?_
  refine q_aload_n C dL_law_404 rfl 3 rfl ?_
  refine q_iconst (v := (0 : Int32)) C dL_law_405 (by decide) ?_
  refine q_iconst (v := (1 : Int32)) C dL_law_406 (by decide) ?_
  refine q_aload_n C dL_law_407 rfl 3 rfl ?_
  refine q_iconst (v := (0 : Int32)) C dL_law_408 (by decide) ?_
  refine q_iconst (v := (1 : Int32)) C dL_law_409 (by decide) ?_
  refine o_household C (x_h1 h0 x31) ⟨Nat.le_of_ble_eq_true rfl, Nat.le_of_ble_eq_true rfl⟩ ⟨Nat.le_of_ble_eq_true rfl, Nat.le_of_ble_eq_true rfl⟩ (Nat.le_of_ble_eq_true rfl) dL_law_410 ?_
  refine q_sipush (v := (9999 : Int32)) C dL_law_413 (by decide) ?_
  refine q_irem_v (v := (nI (n1 % 9999))) C dL_law_416 (by decide) m1 ?_
  refine q_iconst (v := (1 : Int32)) C dL_law_417 (by decide) ?_
  refine q_iadd_v (v := (nI (n1 % 9999 + 1))) C dL_law_418 (nI_1 _) ?_
  refine o_change C (x_c1 hh h12 x31 hn1 rfl) ⟨Nat.le_of_ble_eq_true rfl, Nat.le_of_ble_eq_true rfl⟩ ⟨Nat.le_of_ble_eq_true rfl, Nat.le_of_ble_eq_true rfl⟩ (Nat.le_of_ble_eq_true rfl) dL_law_419 ?_
  refine q_if_lt_f C 467 dL_law_422 (by decide) (nI_pos (by omega)) ?_
  refine q_aload_n C dL_law_425 rfl 3 rfl ?_
  refine q_iconst (v := (0 : Int32)) C dL_law_426 (by decide) ?_
  refine q_iconst (v := (0 : Int32)) C dL_law_427 (by decide) ?_
  refine q_aload_n C dL_law_428 rfl 3 rfl ?_
  refine q_iconst (v := (0 : Int32)) C dL_law_429 (by decide) ?_
  refine q_iconst (v := (0 : Int32)) C dL_law_430 (by decide) ?_
  refine o_household C (x_h0 h0 x30) ⟨Nat.le_of_ble_eq_true rfl, Nat.le_of_ble_eq_true rfl⟩ ⟨Nat.le_of_ble_eq_true rfl, Nat.le_of_ble_eq_true rfl⟩ (Nat.le_of_ble_eq_true rfl) dL_law_431 ?_
  refine q_bipush (v := (9 : Int32)) C dL_law_434 (by decide) ?_
  refine q_irem_v (v := (nI (n0 % 9))) C dL_law_436 (by decide) m0 ?_
  refine q_iconst (v := (1 : Int32)) C dL_law_437 (by decide) ?_
  refine q_iadd_v (v := (nI (n0 % 9 + 1))) C dL_law_438 (nI_1 _) ?_
  refine o_change C (x_c0 hh h12 x30 hn0 rfl) ⟨Nat.le_of_ble_eq_true rfl, Nat.le_of_ble_eq_true rfl⟩ ⟨Nat.le_of_ble_eq_true rfl, Nat.le_of_ble_eq_true rfl⟩ (Nat.le_of_ble_eq_true rfl) dL_law_439 ?_
  refine q_if_lt_f C 467 dL_law_442 (by decide) (nI_pos (by omega)) ?_
  refine q_aload_n C dL_law_445 rfl 3 rfl ?_
  refine q_go (fun G3 => ?_)
  refine q_callSI (n := 1) (As := [.ref (ad 0)]) (maxL := 4) (ret := some .boolean) C (c_refused G3 (by rw [e3_nf]; exact hn) (by rw [e3_nh]; exact hh) (by rw [e3_i (by omega)]; omega)) qG_Lrefused rfl (by decide +kernel) ⟨Nat.le_of_ble_eq_true rfl, Nat.le_of_ble_eq_true rfl⟩ ⟨Nat.le_of_ble_eq_true rfl, Nat.le_of_ble_eq_true rfl⟩ rfl rfl rfl (Nat.le_of_ble_eq_true rfl) dL_law_446 ?_
  refine q_if_eq_f C 467 dL_law_449 (by decide) (by decide) ?_
  refine q_aload_n C dL_law_452 rfl 3 rfl ?_
  refine o_undo C (x_u3 hk) ⟨Nat.le_of_ble_eq_true rfl, Nat.le_of_ble_eq_true rfl⟩ ⟨Nat.le_of_ble_eq_true rfl, Nat.le_of_ble_eq_true rfl⟩ (Nat.le_of_ble_eq_true rfl) dL_law_453 ?_
  refine q_iconst (v := (1 : Int32)) C dL_law_456 (by decide) ?_
  refine q_icmp_lt_f C 467 dL_law_457 (by decide) (by decide) ?_
  refine q_aload_n C dL_law_460 rfl 3 rfl ?_
  refine o_undo C (x_u4 hk) ⟨Nat.le_of_ble_eq_true rfl, Nat.le_of_ble_eq_true rfl⟩ ⟨Nat.le_of_ble_eq_true rfl, Nat.le_of_ble_eq_true rfl⟩ (Nat.le_of_ble_eq_true rfl) dL_law_461 ?_
  refine q_if_ge_t C 469 dL_law_464 (by decide) (by decide) ?_
  refine q_iconst (v := (0 : Int32)) C dL_law_469 (by decide) ?_
  refine q_istore C dL_law_470 (by decide) rfl ?_
  refine q_aload_n C dL_law_472 rfl 4 rfl ?_
  refine q_bipush (v := (11 : Int32)) C dL_law_473 (by decide) ?_
  refine o_count C x_n5 ⟨Nat.le_of_ble_eq_true rfl, Nat.le_of_ble_eq_true rfl⟩ ⟨Nat.le_of_ble_eq_true rfl, Nat.le_of_ble_eq_true rfl⟩ (Nat.le_of_ble_eq_true rfl) dL_law_475 ?_
  refine q_if_le_f C 516 dL_law_478 (by decide) (by decide) ?_
  refine q_iload C dL_law_481 0 rfl ?_
  refine q_iconst (v := (4 : Int32)) C dL_law_483 (by decide) ?_
  refine q_icmp_gt_f C 508 dL_law_484 (by decide) (by decide) ?_
  refine q_go (fun G5 => ?_)
  refine q_aload_n C dL_law_487 rfl 4 rfl ?_
  refine q_callSL (n := 1) (As := [.ref (ad 0)]) (maxL := 4) (ret := some .long) C (c_seen G5) qG_Lseen rfl (by decide +kernel) ⟨Nat.le_of_ble_eq_true rfl, Nat.le_of_ble_eq_true rfl⟩ ⟨Nat.le_of_ble_eq_true rfl, Nat.le_of_ble_eq_true rfl⟩ rfl rfl rfl (Nat.le_of_ble_eq_true rfl) dL_law_488 ?_
  refine q_aload_n C dL_law_491 rfl 3 rfl ?_
  refine q_iload_n C dL_law_492 rfl 2 rfl ?_
  refine q_iload C dL_law_493 0 rfl ?_
  refine q_isub_v (v := (nI a)) C dL_law_495 (pk_sub (a := a) (b := 0) (Nat.zero_le _)) ?_
  refine q_lald (v := (seenV g.1)) C (by omega) pk_uLs dL_law_496 ?_
  refine q_lcmp_eq C dL_law_497 ?_
  refine q_if_ne_f C 508 dL_law_498 (by decide) (by decide) ?_
  refine q_aload_n C dL_law_501 rfl 4 rfl ?_
  refine o_undo C (x_u5 hk) ⟨Nat.le_of_ble_eq_true rfl, Nat.le_of_ble_eq_true rfl⟩ ⟨Nat.le_of_ble_eq_true rfl, Nat.le_of_ble_eq_true rfl⟩ (Nat.le_of_ble_eq_true rfl) dL_law_502 ?_
  refine q_if_ge_t C 510 dL_law_505 (by decide) (by decide) ?_
  refine q_iinc (v := (1 : Int32)) C dL_law_510 0 rfl (by decide) (by decide) rfl ?_
  refine q_goto (tgt := 472) C dL_law_513 (by decide) ?_
  refine q_aload_n C dL_law_472 rfl 4 rfl ?_
  refine q_bipush (v := (11 : Int32)) C dL_law_473 (by decide) ?_
  refine o_count C x_n6 ⟨Nat.le_of_ble_eq_true rfl, Nat.le_of_ble_eq_true rfl⟩ ⟨Nat.le_of_ble_eq_true rfl, Nat.le_of_ble_eq_true rfl⟩ (Nat.le_of_ble_eq_true rfl) dL_law_475 ?_
  refine q_if_le_f C 516 dL_law_478 (by decide) (by decide) ?_
  refine q_iload C dL_law_481 0 rfl ?_
  refine q_iconst (v := (4 : Int32)) C dL_law_483 (by decide) ?_
  refine q_icmp_gt_f C 508 dL_law_484 (by decide) (by decide) ?_
  refine q_go (fun G6 => ?_)
  refine q_aload_n C dL_law_487 rfl 4 rfl ?_
  refine q_callSL (n := 1) (As := [.ref (ad 0)]) (maxL := 4) (ret := some .long) C (c_seen G6) qG_Lseen rfl (by decide +kernel) ⟨Nat.le_of_ble_eq_true rfl, Nat.le_of_ble_eq_true rfl⟩ ⟨Nat.le_of_ble_eq_true rfl, Nat.le_of_ble_eq_true rfl⟩ rfl rfl rfl (Nat.le_of_ble_eq_true rfl) dL_law_488 ?_
  refine q_aload_n C dL_law_491 rfl 3 rfl ?_
  refine q_iload_n C dL_law_492 rfl 2 rfl ?_
  refine q_iload C dL_law_493 0 rfl ?_
  refine q_isub_v (v := (nI (a - 1))) C dL_law_495 (pk_sub (a := a) (b := 1) (by omega)) ?_
  refine q_lald (v := (seenV (gT g 3))) C (by omega) w1 dL_law_496 ?_
  refine q_lcmp_eq C dL_law_497 ?_
  refine q_if_ne_f C 508 dL_law_498 (by decide) (by decide) ?_
  refine q_aload_n C dL_law_501 rfl 4 rfl ?_
  refine o_undo C (x_u6 hk) ⟨Nat.le_of_ble_eq_true rfl, Nat.le_of_ble_eq_true rfl⟩ ⟨Nat.le_of_ble_eq_true rfl, Nat.le_of_ble_eq_true rfl⟩ (Nat.le_of_ble_eq_true rfl) dL_law_502 ?_
  refine q_if_ge_t C 510 dL_law_505 (by decide) (by decide) ?_
  refine q_iinc (v := (2 : Int32)) C dL_law_510 0 rfl (by decide) (by decide) rfl ?_
  refine q_goto (tgt := 472) C dL_law_513 (by decide) ?_
  refine q_aload_n C dL_law_472 rfl 4 rfl ?_
  refine q_bipush (v := (11 : Int32)) C dL_law_473 (by decide) ?_
  refine o_count C x_n7 ⟨Nat.le_of_ble_eq_true rfl, Nat.le_of_ble_eq_true rfl⟩ ⟨Nat.le_of_ble_eq_true rfl, Nat.le_of_ble_eq_true rfl⟩ (Nat.le_of_ble_eq_true rfl) dL_law_475 ?_
  refine q_if_le_t C 516 dL_law_478 (by decide) (by decide) ?_
  refine q_aload_n C dL_law_516 rfl 4 rfl ?_
  refine o_undo C x_u7 ⟨Nat.le_of_ble_eq_true rfl, Nat.le_of_ble_eq_true rfl⟩ ⟨Nat.le_of_ble_eq_true rfl, Nat.le_of_ble_eq_true rfl⟩ (Nat.le_of_ble_eq_true rfl) dL_law_517 ?_
  refine q_bipush (v := (-5 : Int32)) C dL_law_520 (by decide) ?_
  refine q_icmp_ne_f C 559 dL_law_522 (by decide) (by decide) ?_
  refine q_aload_n C dL_law_525 rfl 4 rfl ?_
  refine o_restore C x_re ⟨Nat.le_of_ble_eq_true rfl, Nat.le_of_ble_eq_true rfl⟩ ⟨Nat.le_of_ble_eq_true rfl, Nat.le_of_ble_eq_true rfl⟩ (Nat.le_of_ble_eq_true rfl) dL_law_526 ?_
  refine q_iload C dL_law_529 1 rfl ?_
  refine q_icmp_ne_f C 559 dL_law_531 (by decide) rfl ?_
  refine q_go (fun G8 => ?_)
  refine q_aload_n C dL_law_534 rfl 4 rfl ?_
  refine q_callSL (n := 1) (As := [.ref (ad 0)]) (maxL := 4) (ret := some .long) C (c_seen G8) qG_Lseen rfl (by decide +kernel) ⟨Nat.le_of_ble_eq_true rfl, Nat.le_of_ble_eq_true rfl⟩ ⟨Nat.le_of_ble_eq_true rfl, Nat.le_of_ble_eq_true rfl⟩ rfl rfl rfl (Nat.le_of_ble_eq_true rfl) dL_law_535 ?_
  refine q_aload_n C dL_law_538 rfl 3 rfl ?_
  refine q_iload_n C dL_law_539 rfl 2 rfl ?_
  refine q_lald (v := (seenV g.1)) C (by omega) pk_uLs dL_law_540 ?_
  refine q_lcmp_eq C dL_law_541 ?_
  refine q_if_ne_f C 559 dL_law_542 (by decide) (by decide) ?_
  refine q_aload_n C dL_law_545 rfl 4 rfl ?_
  refine q_bipush (v := (11 : Int32)) C dL_law_546 (by decide) ?_
  refine o_count C x_n8 ⟨Nat.le_of_ble_eq_true rfl, Nat.le_of_ble_eq_true rfl⟩ ⟨Nat.le_of_ble_eq_true rfl, Nat.le_of_ble_eq_true rfl⟩ (Nat.le_of_ble_eq_true rfl) dL_law_548 ?_
  refine q_iconst (v := (1 : Int32)) C dL_law_551 (by decide) ?_
  refine q_icmp_ne_f C 559 dL_law_552 (by decide) (by decide) ?_
  refine q_iconst (v := (1 : Int32)) C dL_law_555 (by decide) ?_
  refine q_goto (tgt := 560) C dL_law_556 (by decide) ?_
  exact q_end C hr dL_law_560
