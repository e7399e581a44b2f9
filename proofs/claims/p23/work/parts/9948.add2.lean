/-! adders, further -/
set_option maxHeartbeats 4000000 in
set_option maxRecDepth 100000 in
theorem t_adders_4 {p : Program} {l : Launch} {e : Env} {s : State} {m : MethodId} {args : Array Value} {below : List Frame} {meth : Method} {c : Code} {Q : State → Prop} {G : GG} {a : Nat → Nat} {t9 : Nat} (J : LJ p l s m meth c args cL_adders (some .boolean) 1 wsL_adders G a t9) (hA : ∀ k, s.heap.size ≤ a k) (hNI : NI s) (hAO : va_AO RX3 s) (hI : ∀ q, s.heap.size ≤ q → inM a q) {H : Heap} {locs : List Loc} {ls : Array Slot} (hS : va_S (fun q : Nat => s.heap.size ≤ q) s.heap H locs) (hCW : CW G a z2 H) (hl : lv_has ls 1 [(0, .ref (a 0))]) (K : ∀ (H : Heap) (locs : List Loc) (ls : Array Slot), va_S (fun q : Nat => s.heap.size ≤ q) s.heap H locs → CW G a z6 H → lv_has ls 1 [(0, .ref (a 0))] → W p l e ({ frames := 12, cells := 5444, slots := 45292, locals := 246 } : Room) s m args below meth c H locs 1701 16520 Q (F0 m 618 ls [])) : W p l e ({ frames := 12, cells := 5444, slots := 45292, locals := 246 } : Room) s m args below meth c H locs 1621 16040 Q (F0 m 467 ls []) := by
  obtain ⟨hfl, hx, hb, hr, hml, hown, hts, hlocks, ha, hK, hNW, hLow, hX, hNC⟩ := J
  have FX : CallFix p m c cL_adders 1 s args wsL_adders RL := ⟨hx, hb, hml, hown, hts⟩
  refine lv_aload_n hx hb dL_adders_467 rfl (lv_at hl 0 rfl) ?_
  refine lv_iconst (v := nI 0) hx hb dL_adders_468 (by decide) ?_
  refine lv_iconst (v := nI 5) hx hb dL_adders_469 (by decide) ?_
  refine lv_iconst (v := -1) hx hb dL_adders_470 (by decide) ?_
  refine wr_i (va_runV (As := [.int (nI 0), .int (nI 5), .int (-1)]) (rest := []) FX (n_stick l hfl G a ha t9 z2 0 5 (-1) oz2 (by decide) (by decide +kernel) (by decide)) (cwV 3 hts gL_adders_X11_stick rfl rfl rfl (by decide +kernel) ⟨Nat.le_of_ble_eq_true rfl, Nat.le_of_ble_eq_true rfl⟩) (preVX hK hNW hCW (hLow.at hS (fun q9 h8 h9 => absurd h8 (Nat.not_lt.mpr h9))) (hX.at hS (fun q9 h8 h9 => absurd h8 (Nat.not_lt.mpr h9))) (cw_recv hK hCW)) rfl rfl hl.1 rfl (lv_room (Nat.le_of_ble_eq_true rfl)) dL_adders_471 ⟨Nat.le_of_ble_eq_true rfl, Nat.le_of_ble_eq_true rfl⟩) hS (rng_ge hA) (fun r _ H locs hp hCW hk hS => ?_)
  refine lv_as (y := nI 0) (hp.trans (by decide +kernel)) ?_
  have hCW : CW G a z3 H := hCW
  refine lv_if_ne (tgt := 803) hx hb dL_adders_474 (by decide) (fun c => absurd c (by decide)) (fun _ => ?_)
  refine lv_aload_n hx hb dL_adders_477 rfl (lv_at hl 0 rfl) ?_
  refine lv_iconst (v := nI 0) hx hb dL_adders_478 (by decide) ?_
  refine lv_iconst (v := nI 0) hx hb dL_adders_479 (by decide) ?_
  refine lv_iconst (v := nI 1) hx hb dL_adders_480 (by decide) ?_
  refine wr_i (va_runV (As := [.int (nI 0), .int (nI 0), .int (nI 1)]) (rest := []) FX (n_stick l hfl G a ha t9 z3 0 0 (nI 1) oz3 (by decide) (by decide +kernel) (by decide)) (cwV 3 hts gL_adders_X11_stick rfl rfl rfl (by decide +kernel) ⟨Nat.le_of_ble_eq_true rfl, Nat.le_of_ble_eq_true rfl⟩) (preVX hK hNW hCW (hLow.at hS (fun q9 h8 h9 => absurd h8 (Nat.not_lt.mpr h9))) (hX.at hS (fun q9 h8 h9 => absurd h8 (Nat.not_lt.mpr h9))) (cw_recv hK hCW)) rfl rfl hl.1 rfl (lv_room (Nat.le_of_ble_eq_true rfl)) dL_adders_481 ⟨Nat.le_of_ble_eq_true rfl, Nat.le_of_ble_eq_true rfl⟩) hS (rng_ge hA) (fun r _ H locs hp hCW hk hS => ?_)
  refine lv_as (y := -1) (hp.trans (by decide +kernel)) ?_
  have hCW : CW G a z4 H := hCW
  refine lv_iconst (v := -1) hx hb dL_adders_484 (by decide) ?_
  refine lv_icmp_ne (tgt := 803) hx hb dL_adders_485 (by decide) (fun c => absurd c (by decide)) (fun _ => ?_)
  refine lv_aload_n hx hb dL_adders_488 rfl (lv_at hl 0 rfl) ?_
  refine lv_iconst (v := nI 0) hx hb dL_adders_489 (by decide) ?_
  refine lv_iconst (v := nI 0) hx hb dL_adders_490 (by decide) ?_
  refine lv_iconst (v := nI 1) hx hb dL_adders_491 (by decide) ?_
  refine wr_i (va_runS (As := [.ref (a 0), .int (nI 0), .int (nI 0), .int (nI 1)]) (rest := []) FX (w_value l hfl G a ha t9 z4 oz4 0 0 (by decide) (by decide) (nI 1) vl_z4_0_0) (va_cwS 4 hts gL_adders_L_value rfl rfl rfl (by decide +kernel) ⟨Nat.le_of_ble_eq_true rfl, Nat.le_of_ble_eq_true rfl⟩) (preW hK hNW hCW (hLow.at hS (fun q9 h8 h9 => absurd h8 (Nat.not_lt.mpr h9))) (hX.at hS (fun q9 h8 h9 => absurd h8 (Nat.not_lt.mpr h9))) hNC) rfl rfl hl.1 rfl (lv_room (Nat.le_of_ble_eq_true rfl)) dL_adders_492 ⟨Nat.le_of_ble_eq_true rfl, Nat.le_of_ble_eq_true rfl⟩) hS (rng_ge hA) (fun r _ H locs hp hCW hk hS => ?_)
  refine lv_as (y := nI 1) hp ?_
  refine lv_if_eq (tgt := 803) hx hb dL_adders_495 (by decide) (fun c => absurd c (by decide)) (fun _ => ?_)
  refine lv_aload_n hx hb dL_adders_498 rfl (lv_at hl 0 rfl) ?_
  refine lv_iconst (v := nI 0) hx hb dL_adders_499 (by decide) ?_
  refine lv_iconst (v := nI 0) hx hb dL_adders_500 (by decide) ?_
  refine lv_iconst (v := nI 1) hx hb dL_adders_501 (by decide) ?_
  refine lv_iconst (v := nI 0) hx hb dL_adders_502 (by decide) ?_
  refine lv_iconst (v := nI 0) hx hb dL_adders_503 (by decide) ?_
  refine lv_iconst (v := nI 0) hx hb dL_adders_504 (by decide) ?_
  refine wr_i (va_runS (As := [.ref (a 0), .int (nI 0), .int (nI 0), .int (nI 1), .int (nI 0), .int (nI 0), .int (nI 0)]) (rest := []) FX (w_changes l hfl G a ha t9 z4 oz4 0 0 1 (by decide) (by decide) (by decide) (nI 0) (nI 0) (nI 0) (congrArg nI ch_z4_0_0_1.1) (congrArg nI ch_z4_0_0_1.2.1) (congrArg nI ch_z4_0_0_1.2.2)) (va_cwS 7 hts gL_adders_L_changes rfl rfl rfl (by decide +kernel) ⟨Nat.le_of_ble_eq_true rfl, Nat.le_of_ble_eq_true rfl⟩) (preW hK hNW hCW (hLow.at hS (fun q9 h8 h9 => absurd h8 (Nat.not_lt.mpr h9))) (hX.at hS (fun q9 h8 h9 => absurd h8 (Nat.not_lt.mpr h9))) hNC) rfl rfl hl.1 rfl (lv_room (Nat.le_of_ble_eq_true rfl)) dL_adders_505 ⟨Nat.le_of_ble_eq_true rfl, Nat.le_of_ble_eq_true rfl⟩) hS (rng_ge hA) (fun r _ H locs hp hCW hk hS => ?_)
  refine lv_as (y := nI 1) hp ?_
  refine lv_if_eq (tgt := 803) hx hb dL_adders_508 (by decide) (fun c => absurd c (by decide)) (fun _ => ?_)
  refine lv_aload_n hx hb dL_adders_511 rfl (lv_at hl 0 rfl) ?_
  refine lv_iconst (v := nI 0) hx hb dL_adders_512 (by decide) ?_
  refine lv_iconst (v := nI 0) hx hb dL_adders_513 (by decide) ?_
  refine lv_iconst (v := nI 0) hx hb dL_adders_514 (by decide) ?_
  refine wr_i (va_runV (As := [.int (nI 0), .int (nI 0), .int (nI 0)]) (rest := []) FX (n_bit l hfl G a ha t9 z4 0 0 0 oz4 (by decide) (by decide +kernel) (by decide)) (cwV 3 hts gL_adders_X11_bit rfl rfl rfl (by decide +kernel) ⟨Nat.le_of_ble_eq_true rfl, Nat.le_of_ble_eq_true rfl⟩) (preVX hK hNW hCW (hLow.at hS (fun q9 h8 h9 => absurd h8 (Nat.not_lt.mpr h9))) (hX.at hS (fun q9 h8 h9 => absurd h8 (Nat.not_lt.mpr h9))) (cw_recv hK hCW)) rfl rfl hl.1 rfl (lv_room (Nat.le_of_ble_eq_true rfl)) dL_adders_515 ⟨Nat.le_of_ble_eq_true rfl, Nat.le_of_ble_eq_true rfl⟩) hS (rng_ge hA) (fun r _ H locs hp hCW hk hS => ?_)
  refine lv_as (y := nI 1) (hp.trans bt_z4_0_0_0) ?_
  refine lv_iconst (v := nI 1) hx hb dL_adders_518 (by decide) ?_
  refine lv_icmp_ne (tgt := 803) hx hb dL_adders_519 (by decide) (fun c => absurd c (by decide)) (fun _ => ?_)
  refine lv_aload_n hx hb dL_adders_522 rfl (lv_at hl 0 rfl) ?_
  refine lv_iconst (v := nI 0) hx hb dL_adders_523 (by decide) ?_
  refine lv_iconst (v := nI 0) hx hb dL_adders_524 (by decide) ?_
  refine lv_iconst (v := -1) hx hb dL_adders_525 (by decide) ?_
  refine wr_i (va_runV (As := [.int (nI 0), .int (nI 0), .int (-1)]) (rest := []) FX (n_stick l hfl G a ha t9 z4 0 0 (-1) oz4 (by decide) (by decide +kernel) (by decide)) (cwV 3 hts gL_adders_X11_stick rfl rfl rfl (by decide +kernel) ⟨Nat.le_of_ble_eq_true rfl, Nat.le_of_ble_eq_true rfl⟩) (preVX hK hNW hCW (hLow.at hS (fun q9 h8 h9 => absurd h8 (Nat.not_lt.mpr h9))) (hX.at hS (fun q9 h8 h9 => absurd h8 (Nat.not_lt.mpr h9))) (cw_recv hK hCW)) rfl rfl hl.1 rfl (lv_room (Nat.le_of_ble_eq_true rfl)) dL_adders_526 ⟨Nat.le_of_ble_eq_true rfl, Nat.le_of_ble_eq_true rfl⟩) hS (rng_ge hA) (fun r _ H locs hp hCW hk hS => ?_)
  refine lv_as (y := nI 1) (hp.trans (by decide +kernel)) ?_
  have hCW : CW G a z5 H := hCW
  refine lv_iconst (v := nI 1) hx hb dL_adders_529 (by decide) ?_
  refine lv_icmp_ne (tgt := 803) hx hb dL_adders_530 (by decide) (fun c => absurd c (by decide)) (fun _ => ?_)
  refine lv_aload_n hx hb dL_adders_533 rfl (lv_at hl 0 rfl) ?_
  refine lv_iconst (v := nI 0) hx hb dL_adders_534 (by decide) ?_
  refine lv_iconst (v := nI 0) hx hb dL_adders_535 (by decide) ?_
  refine lv_iconst (v := nI 0) hx hb dL_adders_536 (by decide) ?_
  refine wr_i (va_runS (As := [.ref (a 0), .int (nI 0), .int (nI 0), .int (nI 0)]) (rest := []) FX (w_value l hfl G a ha t9 z5 oz5 0 0 (by decide) (by decide) (nI 0) vl_z5_0_0) (va_cwS 4 hts gL_adders_L_value rfl rfl rfl (by decide +kernel) ⟨Nat.le_of_ble_eq_true rfl, Nat.le_of_ble_eq_true rfl⟩) (preW hK hNW hCW (hLow.at hS (fun q9 h8 h9 => absurd h8 (Nat.not_lt.mpr h9))) (hX.at hS (fun q9 h8 h9 => absurd h8 (Nat.not_lt.mpr h9))) hNC) rfl rfl hl.1 rfl (lv_room (Nat.le_of_ble_eq_true rfl)) dL_adders_537 ⟨Nat.le_of_ble_eq_true rfl, Nat.le_of_ble_eq_true rfl⟩) hS (rng_ge hA) (fun r _ H locs hp hCW hk hS => ?_)
  refine lv_as (y := nI 1) hp ?_
  refine lv_if_eq (tgt := 803) hx hb dL_adders_540 (by decide) (fun c => absurd c (by decide)) (fun _ => ?_)
  refine lv_aload_n hx hb dL_adders_543 rfl (lv_at hl 0 rfl) ?_
  refine lv_iconst (v := nI 1) hx hb dL_adders_544 (by decide) ?_
  refine lv_iconst (v := nI 1) hx hb dL_adders_545 (by decide) ?_
  refine lv_iconst (v := nI 2) hx hb dL_adders_546 (by decide) ?_
  refine wr_i (va_runV (As := [.int (nI 1), .int (nI 1), .int (nI 2)]) (rest := []) FX (n_adder l hfl G a ha t9 z5 1 1 2 oz5 (by decide) (by decide) (by decide) (by decide +kernel)) (cwV 3 hts gL_adders_X11_adder rfl rfl rfl (by decide +kernel) ⟨Nat.le_of_ble_eq_true rfl, Nat.le_of_ble_eq_true rfl⟩) (preVX hK hNW hCW (hLow.at hS (fun q9 h8 h9 => absurd h8 (Nat.not_lt.mpr h9))) (hX.at hS (fun q9 h8 h9 => absurd h8 (Nat.not_lt.mpr h9))) (cw_recv hK hCW)) rfl rfl hl.1 rfl (lv_room (Nat.le_of_ble_eq_true rfl)) dL_adders_547 ⟨Nat.le_of_ble_eq_true rfl, Nat.le_of_ble_eq_true rfl⟩) hS (rng_ge hA) (fun r _ H locs hp hCW hk hS => ?_)
  refine lv_as (y := nI 12) (hp.trans (congrArg nI (show nG ((adS z5 1 1 2).1 1) = 12 from rp_z6_1.1))) ?_
  have hCW : CW G a z6 H := hCW
  refine lv_bipush (v := nI 12) hx hb dL_adders_550 (by decide) ?_
  refine lv_icmp_ne (tgt := 803) hx hb dL_adders_552 (by decide) (fun c => absurd c (by decide)) (fun _ => ?_)
  refine lv_aload_n hx hb dL_adders_555 rfl (lv_at hl 0 rfl) ?_
  refine lv_iconst (v := nI 1) hx hb dL_adders_556 (by decide) ?_
  refine lv_bipush (v := nI 12) hx hb dL_adders_557 (by decide) ?_
  refine lv_iconst (v := nI 4) hx hb dL_adders_559 (by decide) ?_
  refine lv_iconst (v := nI 3) hx hb dL_adders_560 (by decide) ?_
  refine lv_bipush (v := nI 8) hx hb dL_adders_561 (by decide) ?_
  refine lv_iconst (v := nI 3) hx hb dL_adders_563 (by decide) ?_
  refine lv_iconst (v := nI 1) hx hb dL_adders_564 (by decide) ?_
  refine wr_i (va_runS (As := [.ref (a 0), .int (nI 1), .int (nI 12), .int (nI 4), .int (nI 3), .int (nI 8), .int (nI 3), .int (nI 1)]) (rest := []) FX (w_net l hfl G a ha t9 z6 oz6 1 (by decide) (nI 12) (nI 4) (nI 3) (nI 8) (nI 3) (nI 1) of_z6_1_0 of_z6_1_1 of_z6_1_2 of_z6_1_3 of_z6_1_4 of_z6_1_6) (va_cwS 8 hts gL_adders_L_net rfl rfl rfl (by decide +kernel) ⟨Nat.le_of_ble_eq_true rfl, Nat.le_of_ble_eq_true rfl⟩) (preW hK hNW hCW (hLow.at hS (fun q9 h8 h9 => absurd h8 (Nat.not_lt.mpr h9))) (hX.at hS (fun q9 h8 h9 => absurd h8 (Nat.not_lt.mpr h9))) hNC) rfl rfl hl.1 rfl (lv_room (Nat.le_of_ble_eq_true rfl)) dL_adders_565 ⟨Nat.le_of_ble_eq_true rfl, Nat.le_of_ble_eq_true rfl⟩) hS (rng_ge hA) (fun r _ H locs hp hCW hk hS => ?_)
  refine lv_as (y := nI 1) hp ?_
  refine lv_if_eq (tgt := 803) hx hb dL_adders_568 (by decide) (fun c => absurd c (by decide)) (fun _ => ?_)
  refine lv_aload_n hx hb dL_adders_571 rfl (lv_at hl 0 rfl) ?_
  refine lv_iconst (v := nI 1) hx hb dL_adders_572 (by decide) ?_
  refine lv_bipush (v := nI 9) hx hb dL_adders_573 (by decide) ?_
  refine lv_bipush (v := nI 8) hx hb dL_adders_575 (by decide) ?_
  refine lv_bipush (v := nI 6) hx hb dL_adders_577 (by decide) ?_
  refine lv_iconst (v := nI 1) hx hb dL_adders_579 (by decide) ?_
  refine lv_iconst (v := -1) hx hb dL_adders_580 (by decide) ?_
  refine wr_i (va_runS (As := [.ref (a 0), .int (nI 1), .int (nI 9), .int (nI 8), .int (nI 6), .int (nI 1), .int (-1)]) (rest := []) FX (w_path l hfl G a ha t9 z6 oz6 1 (by decide) (nI 9) (nI 8) (nI 6) (nI 1) (-1) pa_z6_1_0 pa_z6_1_1 pa_z6_1_2 pa_z6_1_3 pa_z6_1_4) (va_cwS 7 hts gL_adders_L_path rfl rfl rfl (by decide +kernel) ⟨Nat.le_of_ble_eq_true rfl, Nat.le_of_ble_eq_true rfl⟩) (preW hK hNW hCW (hLow.at hS (fun q9 h8 h9 => absurd h8 (Nat.not_lt.mpr h9))) (hX.at hS (fun q9 h8 h9 => absurd h8 (Nat.not_lt.mpr h9))) hNC) rfl rfl hl.1 rfl (lv_room (Nat.le_of_ble_eq_true rfl)) dL_adders_581 ⟨Nat.le_of_ble_eq_true rfl, Nat.le_of_ble_eq_true rfl⟩) hS (rng_ge hA) (fun r _ H locs hp hCW hk hS => ?_)
  refine lv_as (y := nI 1) hp ?_
  refine lv_if_eq (tgt := 803) hx hb dL_adders_584 (by decide) (fun c => absurd c (by decide)) (fun _ => ?_)
  refine lv_aload_n hx hb dL_adders_587 rfl (lv_at hl 0 rfl) ?_
  refine lv_iconst (v := nI 1) hx hb dL_adders_588 (by decide) ?_
  refine lv_bipush (v := nI 11) hx hb dL_adders_589 (by decide) ?_
  refine wr_i (va_runV (As := [.int (nI 1), .int (nI 11)]) (rest := []) FX (n_time l hfl G a ha t9 z6 1 11 oz6 (by decide) (by decide +kernel)) (cwV 2 hts gL_adders_X11_time rfl rfl rfl (by decide +kernel) ⟨Nat.le_of_ble_eq_true rfl, Nat.le_of_ble_eq_true rfl⟩) (preVX hK hNW hCW (hLow.at hS (fun q9 h8 h9 => absurd h8 (Nat.not_lt.mpr h9))) (hX.at hS (fun q9 h8 h9 => absurd h8 (Nat.not_lt.mpr h9))) (cw_recv hK hCW)) rfl rfl hl.1 rfl (lv_room (Nat.le_of_ble_eq_true rfl)) dL_adders_591 ⟨Nat.le_of_ble_eq_true rfl, Nat.le_of_ble_eq_true rfl⟩) hS (rng_ge hA) (fun r _ H locs hp hCW hk hS => ?_)
  refine lv_as (y := nI 2) (hp.trans ti_z6_1_11) ?_
  refine lv_iconst (v := nI 2) hx hb dL_adders_594 (by decide) ?_
  refine lv_icmp_ne (tgt := 803) hx hb dL_adders_595 (by decide) (fun c => absurd c (by decide)) (fun _ => ?_)
  refine lv_aload_n hx hb dL_adders_598 rfl (lv_at hl 0 rfl) ?_
  refine lv_iconst (v := nI 0) hx hb dL_adders_599 (by decide) ?_
  refine lv_iconst (v := nI 1) hx hb dL_adders_600 (by decide) ?_
  refine wr_i (va_runV (As := [.int (nI 0), .int (nI 1)]) (rest := []) FX (n_unlike l hfl G a ha t9 z6 0 1 oz6 (by decide) (by decide) (by decide +kernel)) (cwV 2 hts gL_adders_X11_unlike rfl rfl rfl (by decide +kernel) ⟨Nat.le_of_ble_eq_true rfl, Nat.le_of_ble_eq_true rfl⟩) (preVX hK hNW hCW (hLow.at hS (fun q9 h8 h9 => absurd h8 (Nat.not_lt.mpr h9))) (hX.at hS (fun q9 h8 h9 => absurd h8 (Nat.not_lt.mpr h9))) (cw_recv hK hCW)) rfl rfl hl.1 rfl (lv_room (Nat.le_of_ble_eq_true rfl)) dL_adders_601 ⟨Nat.le_of_ble_eq_true rfl, Nat.le_of_ble_eq_true rfl⟩) hS (rng_ge hA) (fun r _ H locs hp hCW hk hS => ?_)
  refine lv_as (y := -1) (ul_z6_0_1 hp) ?_
  refine lv_iconst (v := -1) hx hb dL_adders_604 (by decide) ?_
  refine lv_icmp_ne (tgt := 803) hx hb dL_adders_605 (by decide) (fun c => absurd c (by decide)) (fun _ => ?_)
  refine lv_aload_n hx hb dL_adders_608 rfl (lv_at hl 0 rfl) ?_
  refine lv_iconst (v := nI 1) hx hb dL_adders_609 (by decide) ?_
  refine lv_iconst (v := nI 0) hx hb dL_adders_610 (by decide) ?_
  refine wr_i (va_runV (As := [.int (nI 1), .int (nI 0)]) (rest := []) FX (n_unlike l hfl G a ha t9 z6 1 0 oz6 (by decide) (by decide) (by decide +kernel)) (cwV 2 hts gL_adders_X11_unlike rfl rfl rfl (by decide +kernel) ⟨Nat.le_of_ble_eq_true rfl, Nat.le_of_ble_eq_true rfl⟩) (preVX hK hNW hCW (hLow.at hS (fun q9 h8 h9 => absurd h8 (Nat.not_lt.mpr h9))) (hX.at hS (fun q9 h8 h9 => absurd h8 (Nat.not_lt.mpr h9))) (cw_recv hK hCW)) rfl rfl hl.1 rfl (lv_room (Nat.le_of_ble_eq_true rfl)) dL_adders_611 ⟨Nat.le_of_ble_eq_true rfl, Nat.le_of_ble_eq_true rfl⟩) hS (rng_ge hA) (fun r _ H locs hp hCW hk hS => ?_)
  refine lv_as (y := -1) (ul_z6_1_0 hp) ?_
  refine lv_iconst (v := -1) hx hb dL_adders_614 (by decide) ?_
  refine lv_icmp_ne (tgt := 803) hx hb dL_adders_615 (by decide) (fun c => absurd c (by decide)) (fun _ => ?_)
  exact K _ _ _ hS hCW hl
set_option maxHeartbeats 4000000 in
set_option maxRecDepth 100000 in
theorem t_adders_5 {p : Program} {l : Launch} {e : Env} {s : State} {m : MethodId} {args : Array Value} {below : List Frame} {meth : Method} {c : Code} {Q : State → Prop} {G : GG} {a : Nat → Nat} {t9 : Nat} (J : LJ p l s m meth c args cL_adders (some .boolean) 1 wsL_adders G a t9) (hA : ∀ k, s.heap.size ≤ a k) (hNI : NI s) (hAO : va_AO RX3 s) (hI : ∀ q, s.heap.size ≤ q → inM a q) {H : Heap} {locs : List Loc} {ls : Array Slot} (hS : va_S (fun q : Nat => s.heap.size ≤ q) s.heap H locs) (hCW : CW G a z6 H) (hl : lv_has ls 1 [(0, .ref (a 0))]) (K : ∀ (H : Heap) (locs : List Loc) (ls : Array Slot), va_S (fun q : Nat => s.heap.size ≤ q) s.heap H locs → CW G a z10 H → lv_has ls 1 [(0, .ref (a 0))] → W p l e ({ frames := 12, cells := 5444, slots := 45292, locals := 246 } : Room) s m args below meth c H locs 1774 16958 Q (F0 m 783 ls [])) : W p l e ({ frames := 12, cells := 5444, slots := 45292, locals := 246 } : Room) s m args below meth c H locs 1701 16520 Q (F0 m 618 ls []) := by
  obtain ⟨hfl, hx, hb, hr, hml, hown, hts, hlocks, ha, hK, hNW, hLow, hX, hNC⟩ := J
  have FX : CallFix p m c cL_adders 1 s args wsL_adders RL := ⟨hx, hb, hml, hown, hts⟩
  refine lv_aload_n hx hb dL_adders_618 rfl (lv_at hl 0 rfl) ?_
  refine lv_iconst (v := nI 1) hx hb dL_adders_619 (by decide) ?_
  refine lv_bipush (v := nI 8) hx hb dL_adders_620 (by decide) ?_
  refine lv_iconst (v := nI 1) hx hb dL_adders_622 (by decide) ?_
  refine wr_i (va_runV (As := [.int (nI 1), .int (nI 8), .int (nI 1)]) (rest := []) FX (n_stick l hfl G a ha t9 z6 1 8 (nI 1) oz6 (by decide) (by decide +kernel) (by decide)) (cwV 3 hts gL_adders_X11_stick rfl rfl rfl (by decide +kernel) ⟨Nat.le_of_ble_eq_true rfl, Nat.le_of_ble_eq_true rfl⟩) (preVX hK hNW hCW (hLow.at hS (fun q9 h8 h9 => absurd h8 (Nat.not_lt.mpr h9))) (hX.at hS (fun q9 h8 h9 => absurd h8 (Nat.not_lt.mpr h9))) (cw_recv hK hCW)) rfl rfl hl.1 rfl (lv_room (Nat.le_of_ble_eq_true rfl)) dL_adders_623 ⟨Nat.le_of_ble_eq_true rfl, Nat.le_of_ble_eq_true rfl⟩) hS (rng_ge hA) (fun r _ H locs hp hCW hk hS => ?_)
  refine lv_as (y := -1) (hp.trans (by decide +kernel)) ?_
  have hCW : CW G a z7 H := hCW
  refine lv_iconst (v := -1) hx hb dL_adders_626 (by decide) ?_
  refine lv_icmp_ne (tgt := 803) hx hb dL_adders_627 (by decide) (fun c => absurd c (by decide)) (fun _ => ?_)
  refine lv_aload_n hx hb dL_adders_630 rfl (lv_at hl 0 rfl) ?_
  refine lv_iconst (v := nI 0) hx hb dL_adders_631 (by decide) ?_
  refine lv_iconst (v := nI 1) hx hb dL_adders_632 (by decide) ?_
  refine wr_i (va_runV (As := [.int (nI 0), .int (nI 1)]) (rest := []) FX (n_unlike l hfl G a ha t9 z7 0 1 oz7 (by decide) (by decide) (by decide +kernel)) (cwV 2 hts gL_adders_X11_unlike rfl rfl rfl (by decide +kernel) ⟨Nat.le_of_ble_eq_true rfl, Nat.le_of_ble_eq_true rfl⟩) (preVX hK hNW hCW (hLow.at hS (fun q9 h8 h9 => absurd h8 (Nat.not_lt.mpr h9))) (hX.at hS (fun q9 h8 h9 => absurd h8 (Nat.not_lt.mpr h9))) (cw_recv hK hCW)) rfl rfl hl.1 rfl (lv_room (Nat.le_of_ble_eq_true rfl)) dL_adders_633 ⟨Nat.le_of_ble_eq_true rfl, Nat.le_of_ble_eq_true rfl⟩) hS (rng_ge hA) (fun r _ H locs hp hCW hk hS => ?_)
  refine lv_as (y := nI 0) (ul_z7_0_1 hp) ?_
  refine lv_if_ne (tgt := 803) hx hb dL_adders_636 (by decide) (fun c => absurd c (by decide)) (fun _ => ?_)
  refine lv_aload_n hx hb dL_adders_639 rfl (lv_at hl 0 rfl) ?_
  refine lv_iconst (v := nI 1) hx hb dL_adders_640 (by decide) ?_
  refine wr_i (va_runV (As := [.int (nI 1)]) (rest := []) FX (n_clear l hfl G a ha t9 z7 1 oz7 (by decide)) (cwV 1 hts gL_adders_X11_clear rfl rfl rfl (by decide +kernel) ⟨Nat.le_of_ble_eq_true rfl, Nat.le_of_ble_eq_true rfl⟩) (preVX hK hNW hCW (hLow.at hS (fun q9 h8 h9 => absurd h8 (Nat.not_lt.mpr h9))) (hX.at hS (fun q9 h8 h9 => absurd h8 (Nat.not_lt.mpr h9))) (cw_recv hK hCW)) rfl rfl hl.1 rfl (lv_room (Nat.le_of_ble_eq_true rfl)) dL_adders_641 ⟨Nat.le_of_ble_eq_true rfl, Nat.le_of_ble_eq_true rfl⟩) hS (rng_ge hA) (fun r _ H locs hp hCW hk hS => ?_)
  refine lv_as (y := nI 12) (hp.trans (congrArg nI rp_z7_1.1)) ?_
  have hCW : CW G a z8 H := hCW
  refine lv_bipush (v := nI 12) hx hb dL_adders_644 (by decide) ?_
  refine lv_icmp_ne (tgt := 803) hx hb dL_adders_646 (by decide) (fun c => absurd c (by decide)) (fun _ => ?_)
  refine lv_aload_n hx hb dL_adders_649 rfl (lv_at hl 0 rfl) ?_
  refine lv_iconst (v := nI 1) hx hb dL_adders_650 (by decide) ?_
  refine lv_iconst (v := nI 1) hx hb dL_adders_651 (by decide) ?_
  refine lv_iconst (v := nI 4) hx hb dL_adders_652 (by decide) ?_
  refine wr_i (va_runV (As := [.int (nI 1), .int (nI 1), .int (nI 4)]) (rest := []) FX (n_adder l hfl G a ha t9 z8 1 1 4 oz8 (by decide) (by decide) (by decide) (by decide +kernel)) (cwV 3 hts gL_adders_X11_adder rfl rfl rfl (by decide +kernel) ⟨Nat.le_of_ble_eq_true rfl, Nat.le_of_ble_eq_true rfl⟩) (preVX hK hNW hCW (hLow.at hS (fun q9 h8 h9 => absurd h8 (Nat.not_lt.mpr h9))) (hX.at hS (fun q9 h8 h9 => absurd h8 (Nat.not_lt.mpr h9))) (cw_recv hK hCW)) rfl rfl hl.1 rfl (lv_room (Nat.le_of_ble_eq_true rfl)) dL_adders_653 ⟨Nat.le_of_ble_eq_true rfl, Nat.le_of_ble_eq_true rfl⟩) hS (rng_ge hA) (fun r _ H locs hp hCW hk hS => ?_)
  refine lv_as (y := nI 31) (hp.trans (congrArg nI (show nG ((adS z8 1 1 4).1 1) = 31 from rp_z9_1.1))) ?_
  have hCW : CW G a z9 H := hCW
  refine lv_bipush (v := nI 31) hx hb dL_adders_656 (by decide) ?_
  refine lv_icmp_ne (tgt := 803) hx hb dL_adders_658 (by decide) (fun c => absurd c (by decide)) (fun _ => ?_)
  refine lv_aload_n hx hb dL_adders_661 rfl (lv_at hl 0 rfl) ?_
  refine lv_iconst (v := nI 2) hx hb dL_adders_662 (by decide) ?_
  refine lv_iconst (v := nI 2) hx hb dL_adders_663 (by decide) ?_
  refine lv_iconst (v := nI 4) hx hb dL_adders_664 (by decide) ?_
  refine wr_i (va_runV (As := [.int (nI 2), .int (nI 2), .int (nI 4)]) (rest := []) FX (n_adder l hfl G a ha t9 z9 2 2 4 oz9 (by decide) (by decide) (by decide) (by decide +kernel)) (cwV 3 hts gL_adders_X11_adder rfl rfl rfl (by decide +kernel) ⟨Nat.le_of_ble_eq_true rfl, Nat.le_of_ble_eq_true rfl⟩) (preVX hK hNW hCW (hLow.at hS (fun q9 h8 h9 => absurd h8 (Nat.not_lt.mpr h9))) (hX.at hS (fun q9 h8 h9 => absurd h8 (Nat.not_lt.mpr h9))) (cw_recv hK hCW)) rfl rfl hl.1 rfl (lv_room (Nat.le_of_ble_eq_true rfl)) dL_adders_665 ⟨Nat.le_of_ble_eq_true rfl, Nat.le_of_ble_eq_true rfl⟩) hS (rng_ge hA) (fun r _ H locs hp hCW hk hS => ?_)
  refine lv_as (y := nI 34) (hp.trans (congrArg nI (show nG ((adS z9 2 2 4).1 2) = 34 from rp_z10_2.1))) ?_
  have hCW : CW G a z10 H := hCW
  refine lv_bipush (v := nI 34) hx hb dL_adders_668 (by decide) ?_
  refine lv_icmp_ne (tgt := 803) hx hb dL_adders_670 (by decide) (fun c => absurd c (by decide)) (fun _ => ?_)
  refine lv_aload_n hx hb dL_adders_673 rfl (lv_at hl 0 rfl) ?_
  refine lv_iconst (v := nI 1) hx hb dL_adders_674 (by decide) ?_
  refine lv_bipush (v := nI 31) hx hb dL_adders_675 (by decide) ?_
  refine lv_bipush (v := nI 8) hx hb dL_adders_677 (by decide) ?_
  refine lv_iconst (v := nI 5) hx hb dL_adders_679 (by decide) ?_
  refine lv_bipush (v := nI 23) hx hb dL_adders_680 (by decide) ?_
  refine lv_bipush (v := nI 6) hx hb dL_adders_682 (by decide) ?_
  refine lv_iconst (v := nI 3) hx hb dL_adders_684 (by decide) ?_
  refine wr_i (va_runS (As := [.ref (a 0), .int (nI 1), .int (nI 31), .int (nI 8), .int (nI 5), .int (nI 23), .int (nI 6), .int (nI 3)]) (rest := []) FX (w_net l hfl G a ha t9 z10 oz10 1 (by decide) (nI 31) (nI 8) (nI 5) (nI 23) (nI 6) (nI 3) of_z10_1_0 of_z10_1_1 of_z10_1_2 of_z10_1_3 of_z10_1_4 of_z10_1_6) (va_cwS 8 hts gL_adders_L_net rfl rfl rfl (by decide +kernel) ⟨Nat.le_of_ble_eq_true rfl, Nat.le_of_ble_eq_true rfl⟩) (preW hK hNW hCW (hLow.at hS (fun q9 h8 h9 => absurd h8 (Nat.not_lt.mpr h9))) (hX.at hS (fun q9 h8 h9 => absurd h8 (Nat.not_lt.mpr h9))) hNC) rfl rfl hl.1 rfl (lv_room (Nat.le_of_ble_eq_true rfl)) dL_adders_685 ⟨Nat.le_of_ble_eq_true rfl, Nat.le_of_ble_eq_true rfl⟩) hS (rng_ge hA) (fun r _ H locs hp hCW hk hS => ?_)
  refine lv_as (y := nI 1) hp ?_
  refine lv_if_eq (tgt := 803) hx hb dL_adders_688 (by decide) (fun c => absurd c (by decide)) (fun _ => ?_)
  refine lv_aload_n hx hb dL_adders_691 rfl (lv_at hl 0 rfl) ?_
  refine lv_iconst (v := nI 2) hx hb dL_adders_692 (by decide) ?_
  refine lv_bipush (v := nI 34) hx hb dL_adders_693 (by decide) ?_
  refine lv_bipush (v := nI 8) hx hb dL_adders_695 (by decide) ?_
  refine lv_iconst (v := nI 5) hx hb dL_adders_697 (by decide) ?_
  refine lv_bipush (v := nI 26) hx hb dL_adders_698 (by decide) ?_
  refine lv_iconst (v := nI 5) hx hb dL_adders_700 (by decide) ?_
  refine lv_iconst (v := nI 3) hx hb dL_adders_701 (by decide) ?_
  refine wr_i (va_runS (As := [.ref (a 0), .int (nI 2), .int (nI 34), .int (nI 8), .int (nI 5), .int (nI 26), .int (nI 5), .int (nI 3)]) (rest := []) FX (w_net l hfl G a ha t9 z10 oz10 2 (by decide) (nI 34) (nI 8) (nI 5) (nI 26) (nI 5) (nI 3) of_z10_2_0 of_z10_2_1 of_z10_2_2 of_z10_2_3 of_z10_2_4 of_z10_2_6) (va_cwS 8 hts gL_adders_L_net rfl rfl rfl (by decide +kernel) ⟨Nat.le_of_ble_eq_true rfl, Nat.le_of_ble_eq_true rfl⟩) (preW hK hNW hCW (hLow.at hS (fun q9 h8 h9 => absurd h8 (Nat.not_lt.mpr h9))) (hX.at hS (fun q9 h8 h9 => absurd h8 (Nat.not_lt.mpr h9))) hNC) rfl rfl hl.1 rfl (lv_room (Nat.le_of_ble_eq_true rfl)) dL_adders_702 ⟨Nat.le_of_ble_eq_true rfl, Nat.le_of_ble_eq_true rfl⟩) hS (rng_ge hA) (fun r _ H locs hp hCW hk hS => ?_)
  refine lv_as (y := nI 1) hp ?_
  refine lv_if_eq (tgt := 803) hx hb dL_adders_705 (by decide) (fun c => absurd c (by decide)) (fun _ => ?_)
  refine lv_aload_n hx hb dL_adders_708 rfl (lv_at hl 0 rfl) ?_
  refine lv_iconst (v := nI 1) hx hb dL_adders_709 (by decide) ?_
  refine lv_bipush (v := nI 121) hx hb dL_adders_710 (by decide) ?_
  refine lv_bipush (v := nI 16) hx hb dL_adders_712 (by decide) ?_
  refine wr_i (va_runS (As := [.ref (a 0), .int (nI 1), .int (nI 121), .int (nI 16)]) (rest := []) FX (w_value l hfl G a ha t9 z10 oz10 1 121 (by decide) (by decide) (nI 16) vl_z10_1_121) (va_cwS 4 hts gL_adders_L_value rfl rfl rfl (by decide +kernel) ⟨Nat.le_of_ble_eq_true rfl, Nat.le_of_ble_eq_true rfl⟩) (preW hK hNW hCW (hLow.at hS (fun q9 h8 h9 => absurd h8 (Nat.not_lt.mpr h9))) (hX.at hS (fun q9 h8 h9 => absurd h8 (Nat.not_lt.mpr h9))) hNC) rfl rfl hl.1 rfl (lv_room (Nat.le_of_ble_eq_true rfl)) dL_adders_714 ⟨Nat.le_of_ble_eq_true rfl, Nat.le_of_ble_eq_true rfl⟩) hS (rng_ge hA) (fun r _ H locs hp hCW hk hS => ?_)
  refine lv_as (y := nI 1) hp ?_
  refine lv_if_eq (tgt := 803) hx hb dL_adders_717 (by decide) (fun c => absurd c (by decide)) (fun _ => ?_)
  refine lv_aload_n hx hb dL_adders_720 rfl (lv_at hl 0 rfl) ?_
  refine lv_iconst (v := nI 2) hx hb dL_adders_721 (by decide) ?_
  refine lv_bipush (v := nI 121) hx hb dL_adders_722 (by decide) ?_
  refine lv_bipush (v := nI 16) hx hb dL_adders_724 (by decide) ?_
  refine wr_i (va_runS (As := [.ref (a 0), .int (nI 2), .int (nI 121), .int (nI 16)]) (rest := []) FX (w_value l hfl G a ha t9 z10 oz10 2 121 (by decide) (by decide) (nI 16) vl_z10_2_121) (va_cwS 4 hts gL_adders_L_value rfl rfl rfl (by decide +kernel) ⟨Nat.le_of_ble_eq_true rfl, Nat.le_of_ble_eq_true rfl⟩) (preW hK hNW hCW (hLow.at hS (fun q9 h8 h9 => absurd h8 (Nat.not_lt.mpr h9))) (hX.at hS (fun q9 h8 h9 => absurd h8 (Nat.not_lt.mpr h9))) hNC) rfl rfl hl.1 rfl (lv_room (Nat.le_of_ble_eq_true rfl)) dL_adders_726 ⟨Nat.le_of_ble_eq_true rfl, Nat.le_of_ble_eq_true rfl⟩) hS (rng_ge hA) (fun r _ H locs hp hCW hk hS => ?_)
  refine lv_as (y := nI 1) hp ?_
  refine lv_if_eq (tgt := 803) hx hb dL_adders_729 (by decide) (fun c => absurd c (by decide)) (fun _ => ?_)
  refine lv_aload_n hx hb dL_adders_732 rfl (lv_at hl 0 rfl) ?_
  refine lv_iconst (v := nI 1) hx hb dL_adders_733 (by decide) ?_
  refine lv_sipush (v := nI 255) hx hb dL_adders_734 (by decide) ?_
  refine lv_bipush (v := nI 30) hx hb dL_adders_737 (by decide) ?_
  refine wr_i (va_runS (As := [.ref (a 0), .int (nI 1), .int (nI 255), .int (nI 30)]) (rest := []) FX (w_value l hfl G a ha t9 z10 oz10 1 255 (by decide) (by decide) (nI 30) vl_z10_1_255) (va_cwS 4 hts gL_adders_L_value rfl rfl rfl (by decide +kernel) ⟨Nat.le_of_ble_eq_true rfl, Nat.le_of_ble_eq_true rfl⟩) (preW hK hNW hCW (hLow.at hS (fun q9 h8 h9 => absurd h8 (Nat.not_lt.mpr h9))) (hX.at hS (fun q9 h8 h9 => absurd h8 (Nat.not_lt.mpr h9))) hNC) rfl rfl hl.1 rfl (lv_room (Nat.le_of_ble_eq_true rfl)) dL_adders_739 ⟨Nat.le_of_ble_eq_true rfl, Nat.le_of_ble_eq_true rfl⟩) hS (rng_ge hA) (fun r _ H locs hp hCW hk hS => ?_)
  refine lv_as (y := nI 1) hp ?_
  refine lv_if_eq (tgt := 803) hx hb dL_adders_742 (by decide) (fun c => absurd c (by decide)) (fun _ => ?_)
  refine lv_aload_n hx hb dL_adders_745 rfl (lv_at hl 0 rfl) ?_
  refine lv_iconst (v := nI 1) hx hb dL_adders_746 (by decide) ?_
  refine lv_iconst (v := nI 2) hx hb dL_adders_747 (by decide) ?_
  refine wr_i (va_runV (As := [.int (nI 1), .int (nI 2)]) (rest := []) FX (n_unlike l hfl G a ha t9 z10 1 2 oz10 (by decide) (by decide) (by decide +kernel)) (cwV 2 hts gL_adders_X11_unlike rfl rfl rfl (by decide +kernel) ⟨Nat.le_of_ble_eq_true rfl, Nat.le_of_ble_eq_true rfl⟩) (preVX hK hNW hCW (hLow.at hS (fun q9 h8 h9 => absurd h8 (Nat.not_lt.mpr h9))) (hX.at hS (fun q9 h8 h9 => absurd h8 (Nat.not_lt.mpr h9))) (cw_recv hK hCW)) rfl rfl hl.1 rfl (lv_room (Nat.le_of_ble_eq_true rfl)) dL_adders_748 ⟨Nat.le_of_ble_eq_true rfl, Nat.le_of_ble_eq_true rfl⟩) hS (rng_ge hA) (fun r _ H locs hp hCW hk hS => ?_)
  refine lv_as (y := -1) (ul_z10_1_2 hp) ?_
  refine lv_iconst (v := -1) hx hb dL_adders_751 (by decide) ?_
  refine lv_icmp_ne (tgt := 803) hx hb dL_adders_752 (by decide) (fun c => absurd c (by decide)) (fun _ => ?_)
  refine lv_aload_n hx hb dL_adders_755 rfl (lv_at hl 0 rfl) ?_
  refine lv_bipush (v := nI 18) hx hb dL_adders_756 (by decide) ?_
  refine lv_iconst (v := nI 0) hx hb dL_adders_758 (by decide) ?_
  refine lv_iconst (v := nI 1) hx hb dL_adders_759 (by decide) ?_
  refine lv_iconst (v := nI 0) hx hb dL_adders_760 (by decide) ?_
  refine lv_iconst (v := nI 0) hx hb dL_adders_761 (by decide) ?_
  refine wr_i (vx_run0 (vx_runSX (As := [.ref (a 0), .int (nI 18), .int (nI 0), .int (nI 1), .int (nI 0), .int (nI 0)]) (rest := []) FX (w_act_unlike l hfl G a ha t9 z10 (nI 0) (nI 1) (nI 0) (nI 0) oz10) (vx_cwSW 6 hts gL_adders_L_act rfl rfl rfl (by decide +kernel) ⟨Nat.le_of_ble_eq_true rfl, Nat.le_of_ble_eq_true rfl⟩) (preW hK hNW hCW (hLow.at hS (fun q9 h8 h9 => absurd h8 (Nat.not_lt.mpr h9))) (hX.at hS (fun q9 h8 h9 => absurd h8 (Nat.not_lt.mpr h9))) hNC) rfl rfl hl.1 rfl (lv_room (Nat.le_of_ble_eq_true rfl)) dL_adders_762 ⟨Nat.le_of_ble_eq_true rfl, Nat.le_of_ble_eq_true rfl⟩)) hS (rng_ge hA) (fun r _ H locs hp hCW hk hS => ?_)
  refine lv_as (y := -7000003) (hp.2.2.2 (by decide +kernel)) ?_
  refine lv_ldc (v := -7000003) hx hb hown (hts (.constant RL 81 (-7000003)) (List.mem_of_getElem? (i := 5) (by decide +kernel))) dL_adders_765 ?_
  refine lv_icmp_ne (tgt := 803) hx hb dL_adders_767 (by decide) (fun c => absurd c (by decide)) (fun _ => ?_)
  refine lv_aload_n hx hb dL_adders_770 rfl (lv_at hl 0 rfl) ?_
  refine lv_iconst (v := nI 1) hx hb dL_adders_771 (by decide) ?_
  refine lv_iconst (v := nI 0) hx hb dL_adders_772 (by decide) ?_
  refine lv_iconst (v := nI 0) hx hb dL_adders_773 (by decide) ?_
  refine lv_iconst (v := nI 0) hx hb dL_adders_774 (by decide) ?_
  refine lv_iconst (v := nI 0) hx hb dL_adders_775 (by decide) ?_
  refine lv_iconst (v := -1) hx hb dL_adders_776 (by decide) ?_
  refine wr_i (va_runS (As := [.ref (a 0), .int (nI 1), .int (nI 0), .int (nI 0), .int (nI 0), .int (nI 0), .int (-1)]) (rest := []) FX (w_off l hfl G a ha t9 z10 oz10 1 0 (by decide) (by decide) (by decide +kernel) (nI 0) (nI 0) (nI 0) (-1) off_z10_1_0_0 off_z10_1_0_1 off_z10_1_0_2 off_z10_1_0_3) (va_cwS 7 hts gL_adders_L_off rfl rfl rfl (by decide +kernel) ⟨Nat.le_of_ble_eq_true rfl, Nat.le_of_ble_eq_true rfl⟩) (preW hK hNW hCW (hLow.at hS (fun q9 h8 h9 => absurd h8 (Nat.not_lt.mpr h9))) (hX.at hS (fun q9 h8 h9 => absurd h8 (Nat.not_lt.mpr h9))) hNC) rfl rfl hl.1 rfl (lv_room (Nat.le_of_ble_eq_true rfl)) dL_adders_777 ⟨Nat.le_of_ble_eq_true rfl, Nat.le_of_ble_eq_true rfl⟩) hS (rng_ge hA) (fun r _ H locs hp hCW hk hS => ?_)
  refine lv_as (y := nI 1) hp ?_
  refine lv_if_eq (tgt := 803) hx hb dL_adders_780 (by decide) (fun c => absurd c (by decide)) (fun _ => ?_)
  exact K _ _ _ hS hCW hl
set_option maxHeartbeats 4000000 in
set_option maxRecDepth 100000 in
theorem t_adders_6 {p : Program} {l : Launch} {e : Env} {s : State} {m : MethodId} {args : Array Value} {below : List Frame} {meth : Method} {c : Code} {Q : State → Prop} {G : GG} {a : Nat → Nat} {t9 : Nat} (J : LJ p l s m meth c args cL_adders (some .boolean) 1 wsL_adders G a t9) (hA : ∀ k, s.heap.size ≤ a k) (hNI : NI s) (hAO : va_AO RX3 s) (hI : ∀ q, s.heap.size ≤ q → inM a q) {H : Heap} {locs : List Loc} {ls : Array Slot} (hS : va_S (fun q : Nat => s.heap.size ≤ q) s.heap H locs) (hCW : CW G a z10 H) (hl : lv_has ls 1 [(0, .ref (a 0))]) (K : ∀ (H : Heap) (locs : List Loc) (ls : Array Slot), va_S (fun q : Nat => s.heap.size ≤ q) s.heap H locs → CW G a z17 H → lv_has ls 1 [(0, .ref (a 0))] → W p l e ({ frames := 12, cells := 5444, slots := 45292, locals := 246 } : Room) s m args below meth c H locs 3052 24626 Q (F0 m 935 ls [])) : W p l e ({ frames := 12, cells := 5444, slots := 45292, locals := 246 } : Room) s m args below meth c H locs 1774 16958 Q (F0 m 783 ls []) := by
  obtain ⟨hfl, hx, hb, hr, hml, hown, hts, hlocks, ha, hK, hNW, hLow, hX, hNC⟩ := J
  have FX : CallFix p m c cL_adders 1 s args wsL_adders RL := ⟨hx, hb, hml, hown, hts⟩
  refine lv_aload_n hx hb dL_adders_783 rfl (lv_at hl 0 rfl) ?_
  refine lv_iconst (v := nI 2) hx hb dL_adders_784 (by decide) ?_
  refine lv_iconst (v := nI 0) hx hb dL_adders_785 (by decide) ?_
  refine lv_iconst (v := nI 0) hx hb dL_adders_786 (by decide) ?_
  refine lv_iconst (v := nI 0) hx hb dL_adders_787 (by decide) ?_
  refine lv_iconst (v := nI 0) hx hb dL_adders_788 (by decide) ?_
  refine lv_iconst (v := -1) hx hb dL_adders_789 (by decide) ?_
  refine wr_i (va_runS (As := [.ref (a 0), .int (nI 2), .int (nI 0), .int (nI 0), .int (nI 0), .int (nI 0), .int (-1)]) (rest := []) FX (w_off l hfl G a ha t9 z10 oz10 2 0 (by decide) (by decide) (by decide +kernel) (nI 0) (nI 0) (nI 0) (-1) off_z10_2_0_0 off_z10_2_0_1 off_z10_2_0_2 off_z10_2_0_3) (va_cwS 7 hts gL_adders_L_off rfl rfl rfl (by decide +kernel) ⟨Nat.le_of_ble_eq_true rfl, Nat.le_of_ble_eq_true rfl⟩) (preW hK hNW hCW (hLow.at hS (fun q9 h8 h9 => absurd h8 (Nat.not_lt.mpr h9))) (hX.at hS (fun q9 h8 h9 => absurd h8 (Nat.not_lt.mpr h9))) hNC) rfl rfl hl.1 rfl (lv_room (Nat.le_of_ble_eq_true rfl)) dL_adders_790 ⟨Nat.le_of_ble_eq_true rfl, Nat.le_of_ble_eq_true rfl⟩) hS (rng_ge hA) (fun r _ H locs hp hCW hk hS => ?_)
  refine lv_as (y := nI 1) hp ?_
  refine lv_if_eq (tgt := 803) hx hb dL_adders_793 (by decide) (fun c => absurd c (by decide)) (fun _ => ?_)
  refine lv_aload_n hx hb dL_adders_796 rfl (lv_at hl 0 rfl) ?_
  refine wr_i (va_runS (As := [.ref (a 0)]) (rest := []) FX (w_refuses l hfl G a ha t9 z10 oz10) (va_cwS 1 hts gL_adders_L_refuses rfl rfl rfl (by decide +kernel) ⟨Nat.le_of_ble_eq_true rfl, Nat.le_of_ble_eq_true rfl⟩) (preW hK hNW hCW (hLow.at hS (fun q9 h8 h9 => absurd h8 (Nat.not_lt.mpr h9))) (hX.at hS (fun q9 h8 h9 => absurd h8 (Nat.not_lt.mpr h9))) hNC) rfl rfl hl.1 rfl (lv_room (Nat.le_of_ble_eq_true rfl)) dL_adders_797 ⟨Nat.le_of_ble_eq_true rfl, Nat.le_of_ble_eq_true rfl⟩) hS (rng_ge hA) (fun r _ H locs hp hCW hk hS => ?_)
  refine lv_as (y := nI 1) hp ?_
  refine lv_if_ne (tgt := 805) hx hb dL_adders_800 (by decide) (fun _ => ?_) (fun c => absurd c (by decide))
  refine lv_aload_n hx hb dL_adders_805 rfl (lv_at hl 0 rfl) ?_
  refine lv_iconst (v := nI 3) hx hb dL_adders_806 (by decide) ?_
  refine lv_iconst (v := nI 0) hx hb dL_adders_807 (by decide) ?_
  refine lv_iconst (v := nI 4) hx hb dL_adders_808 (by decide) ?_
  refine wr_i (va_runV (As := [.int (nI 3), .int (nI 0), .int (nI 4)]) (rest := []) FX (n_adder l hfl G a ha t9 z10 3 0 4 oz10 (by decide) (by decide) (by decide) (by decide +kernel)) (cwV 3 hts gL_adders_X11_adder rfl rfl rfl (by decide +kernel) ⟨Nat.le_of_ble_eq_true rfl, Nat.le_of_ble_eq_true rfl⟩) (preVX hK hNW hCW (hLow.at hS (fun q9 h8 h9 => absurd h8 (Nat.not_lt.mpr h9))) (hX.at hS (fun q9 h8 h9 => absurd h8 (Nat.not_lt.mpr h9))) (cw_recv hK hCW)) rfl rfl hl.1 rfl (lv_room (Nat.le_of_ble_eq_true rfl)) dL_adders_809 ⟨Nat.le_of_ble_eq_true rfl, Nat.le_of_ble_eq_true rfl⟩) hS (rng_ge hA) (fun r _ H locs hp hCW hk hS => ?_)
  refine lv_as (y := nI 25) (hp.trans (congrArg nI (show nG ((adS z10 3 0 4).1 3) = 25 from rp_z11_3.1))) ?_
  have hCW : CW G a z11 H := hCW
  refine lv_bipush (v := nI 25) hx hb dL_adders_812 (by decide) ?_
  refine lv_icmp_ne (tgt := 979) hx hb dL_adders_814 (by decide) (fun c => absurd c (by decide)) (fun _ => ?_)
  refine lv_aload_n hx hb dL_adders_817 rfl (lv_at hl 0 rfl) ?_
  refine lv_iconst (v := nI 3) hx hb dL_adders_818 (by decide) ?_
  refine lv_bipush (v := nI 25) hx hb dL_adders_819 (by decide) ?_
  refine lv_bipush (v := nI 8) hx hb dL_adders_821 (by decide) ?_
  refine lv_iconst (v := nI 5) hx hb dL_adders_823 (by decide) ?_
  refine lv_bipush (v := nI 17) hx hb dL_adders_824 (by decide) ?_
  refine lv_bipush (v := nI 7) hx hb dL_adders_826 (by decide) ?_
  refine lv_iconst (v := nI 0) hx hb dL_adders_828 (by decide) ?_
  refine wr_i (va_runS (As := [.ref (a 0), .int (nI 3), .int (nI 25), .int (nI 8), .int (nI 5), .int (nI 17), .int (nI 7), .int (nI 0)]) (rest := []) FX (w_net l hfl G a ha t9 z11 oz11 3 (by decide) (nI 25) (nI 8) (nI 5) (nI 17) (nI 7) (nI 0) of_z11_3_0 of_z11_3_1 of_z11_3_2 of_z11_3_3 of_z11_3_4 of_z11_3_6) (va_cwS 8 hts gL_adders_L_net rfl rfl rfl (by decide +kernel) ⟨Nat.le_of_ble_eq_true rfl, Nat.le_of_ble_eq_true rfl⟩) (preW hK hNW hCW (hLow.at hS (fun q9 h8 h9 => absurd h8 (Nat.not_lt.mpr h9))) (hX.at hS (fun q9 h8 h9 => absurd h8 (Nat.not_lt.mpr h9))) hNC) rfl rfl hl.1 rfl (lv_room (Nat.le_of_ble_eq_true rfl)) dL_adders_829 ⟨Nat.le_of_ble_eq_true rfl, Nat.le_of_ble_eq_true rfl⟩) hS (rng_ge hA) (fun r _ H locs hp hCW hk hS => ?_)
  refine lv_as (y := nI 1) hp ?_
  refine lv_if_eq (tgt := 979) hx hb dL_adders_832 (by decide) (fun c => absurd c (by decide)) (fun _ => ?_)
  refine lv_aload_n hx hb dL_adders_835 rfl (lv_at hl 0 rfl) ?_
  refine lv_iconst (v := nI 3) hx hb dL_adders_836 (by decide) ?_
  refine lv_iconst (v := nI 2) hx hb dL_adders_837 (by decide) ?_
  refine wr_i (va_runV (As := [.int (nI 3), .int (nI 2)]) (rest := []) FX (n_unlike l hfl G a ha t9 z11 3 2 oz11 (by decide) (by decide) (by decide +kernel)) (cwV 2 hts gL_adders_X11_unlike rfl rfl rfl (by decide +kernel) ⟨Nat.le_of_ble_eq_true rfl, Nat.le_of_ble_eq_true rfl⟩) (preVX hK hNW hCW (hLow.at hS (fun q9 h8 h9 => absurd h8 (Nat.not_lt.mpr h9))) (hX.at hS (fun q9 h8 h9 => absurd h8 (Nat.not_lt.mpr h9))) (cw_recv hK hCW)) rfl rfl hl.1 rfl (lv_room (Nat.le_of_ble_eq_true rfl)) dL_adders_838 ⟨Nat.le_of_ble_eq_true rfl, Nat.le_of_ble_eq_true rfl⟩) hS (rng_ge hA) (fun r _ H locs hp hCW hk hS => ?_)
  refine lv_as (y := -1) (ul_z11_3_2 hp) ?_
  refine lv_iconst (v := -1) hx hb dL_adders_841 (by decide) ?_
  refine lv_icmp_ne (tgt := 979) hx hb dL_adders_842 (by decide) (fun c => absurd c (by decide)) (fun _ => ?_)
  refine lv_aload_n hx hb dL_adders_845 rfl (lv_at hl 0 rfl) ?_
  refine lv_iconst (v := nI 3) hx hb dL_adders_846 (by decide) ?_
  refine wr_i (va_runV (As := [.int (nI 3)]) (rest := []) FX (n_clear l hfl G a ha t9 z11 3 oz11 (by decide)) (cwV 1 hts gL_adders_X11_clear rfl rfl rfl (by decide +kernel) ⟨Nat.le_of_ble_eq_true rfl, Nat.le_of_ble_eq_true rfl⟩) (preVX hK hNW hCW (hLow.at hS (fun q9 h8 h9 => absurd h8 (Nat.not_lt.mpr h9))) (hX.at hS (fun q9 h8 h9 => absurd h8 (Nat.not_lt.mpr h9))) (cw_recv hK hCW)) rfl rfl hl.1 rfl (lv_room (Nat.le_of_ble_eq_true rfl)) dL_adders_847 ⟨Nat.le_of_ble_eq_true rfl, Nat.le_of_ble_eq_true rfl⟩) hS (rng_ge hA) (fun r _ H locs hp hCW hk hS => ?_)
  refine lv_as (y := nI 25) (hp.trans (congrArg nI rp_z11_3.1)) ?_
  have hCW : CW G a z12 H := hCW
  refine lv_bipush (v := nI 25) hx hb dL_adders_850 (by decide) ?_
  refine lv_icmp_ne (tgt := 979) hx hb dL_adders_852 (by decide) (fun c => absurd c (by decide)) (fun _ => ?_)
  refine lv_aload_n hx hb dL_adders_855 rfl (lv_at hl 0 rfl) ?_
  refine lv_iconst (v := nI 3) hx hb dL_adders_856 (by decide) ?_
  refine lv_iconst (v := nI 2) hx hb dL_adders_857 (by decide) ?_
  refine lv_iconst (v := nI 1) hx hb dL_adders_858 (by decide) ?_
  refine wr_i (va_runV (As := [.int (nI 3), .int (nI 2), .int (nI 1)]) (rest := []) FX (n_adder l hfl G a ha t9 z12 3 2 1 oz12 (by decide) (by decide) (by decide) (by decide +kernel)) (cwV 3 hts gL_adders_X11_adder rfl rfl rfl (by decide +kernel) ⟨Nat.le_of_ble_eq_true rfl, Nat.le_of_ble_eq_true rfl⟩) (preVX hK hNW hCW (hLow.at hS (fun q9 h8 h9 => absurd h8 (Nat.not_lt.mpr h9))) (hX.at hS (fun q9 h8 h9 => absurd h8 (Nat.not_lt.mpr h9))) (cw_recv hK hCW)) rfl rfl hl.1 rfl (lv_room (Nat.le_of_ble_eq_true rfl)) dL_adders_859 ⟨Nat.le_of_ble_eq_true rfl, Nat.le_of_ble_eq_true rfl⟩) hS (rng_ge hA) (fun r _ H locs hp hCW hk hS => ?_)
  refine lv_as (y := nI 4) (hp.trans (congrArg nI (show nG ((adS z12 3 2 1).1 3) = 4 from rp_z13_3.1))) ?_
  have hCW : CW G a z13 H := hCW
  refine lv_iconst (v := nI 4) hx hb dL_adders_862 (by decide) ?_
  refine lv_icmp_ne (tgt := 979) hx hb dL_adders_863 (by decide) (fun c => absurd c (by decide)) (fun _ => ?_)
  refine lv_aload_n hx hb dL_adders_866 rfl (lv_at hl 0 rfl) ?_
  refine lv_iconst (v := nI 3) hx hb dL_adders_867 (by decide) ?_
  refine lv_iconst (v := nI 4) hx hb dL_adders_868 (by decide) ?_
  refine lv_iconst (v := nI 2) hx hb dL_adders_869 (by decide) ?_
  refine lv_iconst (v := nI 2) hx hb dL_adders_870 (by decide) ?_
  refine lv_iconst (v := nI 2) hx hb dL_adders_871 (by decide) ?_
  refine lv_iconst (v := nI 1) hx hb dL_adders_872 (by decide) ?_
  refine lv_iconst (v := nI 0) hx hb dL_adders_873 (by decide) ?_
  refine wr_i (va_runS (As := [.ref (a 0), .int (nI 3), .int (nI 4), .int (nI 2), .int (nI 2), .int (nI 2), .int (nI 1), .int (nI 0)]) (rest := []) FX (w_net l hfl G a ha t9 z13 oz13 3 (by decide) (nI 4) (nI 2) (nI 2) (nI 2) (nI 1) (nI 0) of_z13_3_0 of_z13_3_1 of_z13_3_2 of_z13_3_3 of_z13_3_4 of_z13_3_6) (va_cwS 8 hts gL_adders_L_net rfl rfl rfl (by decide +kernel) ⟨Nat.le_of_ble_eq_true rfl, Nat.le_of_ble_eq_true rfl⟩) (preW hK hNW hCW (hLow.at hS (fun q9 h8 h9 => absurd h8 (Nat.not_lt.mpr h9))) (hX.at hS (fun q9 h8 h9 => absurd h8 (Nat.not_lt.mpr h9))) hNC) rfl rfl hl.1 rfl (lv_room (Nat.le_of_ble_eq_true rfl)) dL_adders_874 ⟨Nat.le_of_ble_eq_true rfl, Nat.le_of_ble_eq_true rfl⟩) hS (rng_ge hA) (fun r _ H locs hp hCW hk hS => ?_)
  refine lv_as (y := nI 1) hp ?_
  refine lv_if_eq (tgt := 979) hx hb dL_adders_877 (by decide) (fun c => absurd c (by decide)) (fun _ => ?_)
  refine lv_aload_n hx hb dL_adders_880 rfl (lv_at hl 0 rfl) ?_
  refine lv_iconst (v := nI 3) hx hb dL_adders_881 (by decide) ?_
  refine wr_i (va_runV (As := [.int (nI 3)]) (rest := []) FX (n_clear l hfl G a ha t9 z13 3 oz13 (by decide)) (cwV 1 hts gL_adders_X11_clear rfl rfl rfl (by decide +kernel) ⟨Nat.le_of_ble_eq_true rfl, Nat.le_of_ble_eq_true rfl⟩) (preVX hK hNW hCW (hLow.at hS (fun q9 h8 h9 => absurd h8 (Nat.not_lt.mpr h9))) (hX.at hS (fun q9 h8 h9 => absurd h8 (Nat.not_lt.mpr h9))) (cw_recv hK hCW)) rfl rfl hl.1 rfl (lv_room (Nat.le_of_ble_eq_true rfl)) dL_adders_882 ⟨Nat.le_of_ble_eq_true rfl, Nat.le_of_ble_eq_true rfl⟩) hS (rng_ge hA) (fun r _ H locs hp hCW hk hS => ?_)
  refine lv_as (y := nI 4) (hp.trans (congrArg nI rp_z13_3.1)) ?_
  have hCW : CW G a z14 H := hCW
  refine lv_iconst (v := nI 4) hx hb dL_adders_885 (by decide) ?_
  refine lv_icmp_ne (tgt := 979) hx hb dL_adders_886 (by decide) (fun c => absurd c (by decide)) (fun _ => ?_)
  refine lv_aload_n hx hb dL_adders_889 rfl (lv_at hl 0 rfl) ?_
  refine lv_iconst (v := nI 3) hx hb dL_adders_890 (by decide) ?_
  refine lv_iconst (v := nI 0) hx hb dL_adders_891 (by decide) ?_
  refine lv_iconst (v := nI 1) hx hb dL_adders_892 (by decide) ?_
  refine wr_i (va_runV (As := [.int (nI 3), .int (nI 0), .int (nI 1)]) (rest := []) FX (n_adder l hfl G a ha t9 z14 3 0 1 oz14 (by decide) (by decide) (by decide) (by decide +kernel)) (cwV 3 hts gL_adders_X11_adder rfl rfl rfl (by decide +kernel) ⟨Nat.le_of_ble_eq_true rfl, Nat.le_of_ble_eq_true rfl⟩) (preVX hK hNW hCW (hLow.at hS (fun q9 h8 h9 => absurd h8 (Nat.not_lt.mpr h9))) (hX.at hS (fun q9 h8 h9 => absurd h8 (Nat.not_lt.mpr h9))) (cw_recv hK hCW)) rfl rfl hl.1 rfl (lv_room (Nat.le_of_ble_eq_true rfl)) dL_adders_893 ⟨Nat.le_of_ble_eq_true rfl, Nat.le_of_ble_eq_true rfl⟩) hS (rng_ge hA) (fun r _ H locs hp hCW hk hS => ?_)
  refine lv_as (y := nI 4) (hp.trans (congrArg nI (show nG ((adS z14 3 0 1).1 3) = 4 from rp_z15_3.1))) ?_
  have hCW : CW G a z15 H := hCW
  refine lv_iconst (v := nI 4) hx hb dL_adders_896 (by decide) ?_
  refine lv_icmp_ne (tgt := 979) hx hb dL_adders_897 (by decide) (fun c => absurd c (by decide)) (fun _ => ?_)
  refine lv_aload_n hx hb dL_adders_900 rfl (lv_at hl 0 rfl) ?_
  refine lv_iconst (v := nI 3) hx hb dL_adders_901 (by decide) ?_
  refine lv_iconst (v := nI 0) hx hb dL_adders_902 (by decide) ?_
  refine lv_iconst (v := nI 0) hx hb dL_adders_903 (by decide) ?_
  refine lv_iconst (v := nI 0) hx hb dL_adders_904 (by decide) ?_
  refine lv_iconst (v := nI 0) hx hb dL_adders_905 (by decide) ?_
  refine lv_iconst (v := -1) hx hb dL_adders_906 (by decide) ?_
  refine wr_i (va_runS (As := [.ref (a 0), .int (nI 3), .int (nI 0), .int (nI 0), .int (nI 0), .int (nI 0), .int (-1)]) (rest := []) FX (w_off l hfl G a ha t9 z15 oz15 3 0 (by decide) (by decide) (by decide +kernel) (nI 0) (nI 0) (nI 0) (-1) off_z15_3_0_0 off_z15_3_0_1 off_z15_3_0_2 off_z15_3_0_3) (va_cwS 7 hts gL_adders_L_off rfl rfl rfl (by decide +kernel) ⟨Nat.le_of_ble_eq_true rfl, Nat.le_of_ble_eq_true rfl⟩) (preW hK hNW hCW (hLow.at hS (fun q9 h8 h9 => absurd h8 (Nat.not_lt.mpr h9))) (hX.at hS (fun q9 h8 h9 => absurd h8 (Nat.not_lt.mpr h9))) hNC) rfl rfl hl.1 rfl (lv_room (Nat.le_of_ble_eq_true rfl)) dL_adders_907 ⟨Nat.le_of_ble_eq_true rfl, Nat.le_of_ble_eq_true rfl⟩) hS (rng_ge hA) (fun r _ H locs hp hCW hk hS => ?_)
  refine lv_as (y := nI 1) hp ?_
  refine lv_if_eq (tgt := 979) hx hb dL_adders_910 (by decide) (fun c => absurd c (by decide)) (fun _ => ?_)
  refine lv_aload_n hx hb dL_adders_913 rfl (lv_at hl 0 rfl) ?_
  refine lv_iconst (v := nI 3) hx hb dL_adders_914 (by decide) ?_
  refine wr_i (va_runV (As := [.int (nI 3)]) (rest := []) FX (n_clear l hfl G a ha t9 z15 3 oz15 (by decide)) (cwV 1 hts gL_adders_X11_clear rfl rfl rfl (by decide +kernel) ⟨Nat.le_of_ble_eq_true rfl, Nat.le_of_ble_eq_true rfl⟩) (preVX hK hNW hCW (hLow.at hS (fun q9 h8 h9 => absurd h8 (Nat.not_lt.mpr h9))) (hX.at hS (fun q9 h8 h9 => absurd h8 (Nat.not_lt.mpr h9))) (cw_recv hK hCW)) rfl rfl hl.1 rfl (lv_room (Nat.le_of_ble_eq_true rfl)) dL_adders_915 ⟨Nat.le_of_ble_eq_true rfl, Nat.le_of_ble_eq_true rfl⟩) hS (rng_ge hA) (fun r _ H locs hp hCW hk hS => ?_)
  refine lv_as (y := nI 4) (hp.trans (congrArg nI rp_z15_3.1)) ?_
  have hCW : CW G a z16 H := hCW
  refine lv_iconst (v := nI 4) hx hb dL_adders_918 (by decide) ?_
  refine lv_icmp_ne (tgt := 979) hx hb dL_adders_919 (by decide) (fun c => absurd c (by decide)) (fun _ => ?_)
  refine lv_aload_n hx hb dL_adders_922 rfl (lv_at hl 0 rfl) ?_
  refine lv_iconst (v := nI 3) hx hb dL_adders_923 (by decide) ?_
  refine lv_iconst (v := nI 1) hx hb dL_adders_924 (by decide) ?_
  refine lv_bipush (v := nI 6) hx hb dL_adders_925 (by decide) ?_
  refine wr_i (va_runV (As := [.int (nI 3), .int (nI 1), .int (nI 6)]) (rest := []) FX (n_adder l hfl G a ha t9 z16 3 1 6 oz16 (by decide) (by decide) (by decide) (by decide +kernel)) (cwV 3 hts gL_adders_X11_adder rfl rfl rfl (by decide +kernel) ⟨Nat.le_of_ble_eq_true rfl, Nat.le_of_ble_eq_true rfl⟩) (preVX hK hNW hCW (hLow.at hS (fun q9 h8 h9 => absurd h8 (Nat.not_lt.mpr h9))) (hX.at hS (fun q9 h8 h9 => absurd h8 (Nat.not_lt.mpr h9))) (cw_recv hK hCW)) rfl rfl hl.1 rfl (lv_room (Nat.le_of_ble_eq_true rfl)) dL_adders_927 ⟨Nat.le_of_ble_eq_true rfl, Nat.le_of_ble_eq_true rfl⟩) hS (rng_ge hA) (fun r _ H locs hp hCW hk hS => ?_)
  refine lv_as (y := nI 50) (hp.trans (congrArg nI (show nG ((adS z16 3 1 6).1 3) = 50 from rp_z17_3.1))) ?_
  have hCW : CW G a z17 H := hCW
  refine lv_bipush (v := nI 50) hx hb dL_adders_930 (by decide) ?_
  refine lv_icmp_ne (tgt := 979) hx hb dL_adders_932 (by decide) (fun c => absurd c (by decide)) (fun _ => ?_)
  exact K _ _ _ hS hCW hl
set_option maxHeartbeats 4000000 in
set_option maxRecDepth 100000 in
theorem t_adders_7 {p : Program} {l : Launch} {e : Env} {s : State} {m : MethodId} {args : Array Value} {below : List Frame} {meth : Method} {c : Code} {Q : State → Prop} {G : GG} {a : Nat → Nat} {t9 : Nat} (J : LJ p l s m meth c args cL_adders (some .boolean) 1 wsL_adders G a t9) (hA : ∀ k, s.heap.size ≤ a k) (hNI : NI s) (hAO : va_AO RX3 s) (hI : ∀ q, s.heap.size ≤ q → inM a q) {H : Heap} {locs : List Loc} {ls : Array Slot} (hS : va_S (fun q : Nat => s.heap.size ≤ q) s.heap H locs) (hCW : CW G a z17 H) (hl : lv_has ls 1 [(0, .ref (a 0))]) (K : ∀ (H : Heap) (locs : List Loc) (ls : Array Slot), va_S (fun q : Nat => s.heap.size ≤ q) s.heap H locs → CW G a z41 H → lv_has ls 1 [(0, .ref (a 0))] → W p l e ({ frames := 12, cells := 5444, slots := 45292, locals := 246 } : Room) s m args below meth c H locs 5444 45292 Q (F0 m 980 ls [.int (nI 1)])) : W p l e ({ frames := 12, cells := 5444, slots := 45292, locals := 246 } : Room) s m args below meth c H locs 3052 24626 Q (F0 m 935 ls []) := by
  obtain ⟨hfl, hx, hb, hr, hml, hown, hts, hlocks, ha, hK, hNW, hLow, hX, hNC⟩ := J
  have FX : CallFix p m c cL_adders 1 s args wsL_adders RL := ⟨hx, hb, hml, hown, hts⟩
  refine lv_aload_n hx hb dL_adders_935 rfl (lv_at hl 0 rfl) ?_
  refine lv_iconst (v := nI 3) hx hb dL_adders_936 (by decide) ?_
  refine lv_iconst (v := nI 0) hx hb dL_adders_937 (by decide) ?_
  refine lv_iconst (v := nI 0) hx hb dL_adders_938 (by decide) ?_
  refine lv_iconst (v := nI 0) hx hb dL_adders_939 (by decide) ?_
  refine lv_iconst (v := nI 0) hx hb dL_adders_940 (by decide) ?_
  refine lv_iconst (v := -1) hx hb dL_adders_941 (by decide) ?_
  refine wr_i (va_runS (As := [.ref (a 0), .int (nI 3), .int (nI 0), .int (nI 0), .int (nI 0), .int (nI 0), .int (-1)]) (rest := []) FX (w_off l hfl G a ha t9 z17 oz17 3 0 (by decide) (by decide) (by decide +kernel) (nI 0) (nI 0) (nI 0) (-1) off_z17_3_0_0 off_z17_3_0_1 off_z17_3_0_2 off_z17_3_0_3) (va_cwS 7 hts gL_adders_L_off rfl rfl rfl (by decide +kernel) ⟨Nat.le_of_ble_eq_true rfl, Nat.le_of_ble_eq_true rfl⟩) (preW hK hNW hCW (hLow.at hS (fun q9 h8 h9 => absurd h8 (Nat.not_lt.mpr h9))) (hX.at hS (fun q9 h8 h9 => absurd h8 (Nat.not_lt.mpr h9))) hNC) rfl rfl hl.1 rfl (lv_room (Nat.le_of_ble_eq_true rfl)) dL_adders_942 ⟨Nat.le_of_ble_eq_true rfl, Nat.le_of_ble_eq_true rfl⟩) hS (rng_ge hA) (fun r _ H locs hp hCW hk hS => ?_)
  refine lv_as (y := nI 1) hp ?_
  refine lv_if_eq (tgt := 979) hx hb dL_adders_945 (by decide) (fun c => absurd c (by decide)) (fun _ => ?_)
  refine lv_aload_n hx hb dL_adders_948 rfl (lv_at hl 0 rfl) ?_
  refine wr_i (va_runS (As := [.ref (a 0)]) (rest := []) FX (w_multipliers l hfl G a ha t9) (va_cwS 1 hts gL_adders_L_multipliers rfl rfl rfl (by decide +kernel) ⟨Nat.le_of_ble_eq_true rfl, Nat.le_of_ble_eq_true rfl⟩) (preW hK hNW hCW (hLow.at hS (fun q9 h8 h9 => absurd h8 (Nat.not_lt.mpr h9))) (hX.at hS (fun q9 h8 h9 => absurd h8 (Nat.not_lt.mpr h9))) hNC) rfl rfl hl.1 rfl (lv_room (Nat.le_of_ble_eq_true rfl)) dL_adders_949 ⟨Nat.le_of_ble_eq_true rfl, Nat.le_of_ble_eq_true rfl⟩) hS (rng_ge hA) (fun r _ H locs hp hCW hk hS => ?_)
  refine lv_as (y := nI 1) hp ?_
  refine lv_if_eq (tgt := 979) hx hb dL_adders_952 (by decide) (fun c => absurd c (by decide)) (fun _ => ?_)
  refine lv_aload_n hx hb dL_adders_955 rfl (lv_at hl 0 rfl) ?_
  refine wr_i (va_runS (As := [.ref (a 0)]) (rest := []) FX (w_glitch l hfl G a ha t9) (va_cwS 1 hts gL_adders_L_glitch rfl rfl rfl (by decide +kernel) ⟨Nat.le_of_ble_eq_true rfl, Nat.le_of_ble_eq_true rfl⟩) (preW hK hNW hCW (hLow.at hS (fun q9 h8 h9 => absurd h8 (Nat.not_lt.mpr h9))) (hX.at hS (fun q9 h8 h9 => absurd h8 (Nat.not_lt.mpr h9))) hNC) rfl rfl hl.1 rfl (lv_room (Nat.le_of_ble_eq_true rfl)) dL_adders_956 ⟨Nat.le_of_ble_eq_true rfl, Nat.le_of_ble_eq_true rfl⟩) hS (rng_ge hA) (fun r _ H locs hp hCW hk hS => ?_)
  refine lv_as (y := nI 1) hp ?_
  refine lv_if_eq (tgt := 979) hx hb dL_adders_959 (by decide) (fun c => absurd c (by decide)) (fun _ => ?_)
  refine lv_aload_n hx hb dL_adders_962 rfl (lv_at hl 0 rfl) ?_
  refine wr_i (va_runS (As := [.ref (a 0)]) (rest := []) FX (w_digits l hfl G a ha t9 z41 oz41) (va_cwS 1 hts gL_adders_L_digits rfl rfl rfl (by decide +kernel) ⟨Nat.le_of_ble_eq_true rfl, Nat.le_of_ble_eq_true rfl⟩) (preW hK hNW hCW (hLow.at hS (fun q9 h8 h9 => absurd h8 (Nat.not_lt.mpr h9))) (hX.at hS (fun q9 h8 h9 => absurd h8 (Nat.not_lt.mpr h9))) hNC) rfl rfl hl.1 rfl (lv_room (Nat.le_of_ble_eq_true rfl)) dL_adders_963 ⟨Nat.le_of_ble_eq_true rfl, Nat.le_of_ble_eq_true rfl⟩) hS (rng_ge hA) (fun r _ H locs hp hCW hk hS => ?_)
  refine lv_as (y := nI 1) hp ?_
  refine lv_if_eq (tgt := 979) hx hb dL_adders_966 (by decide) (fun c => absurd c (by decide)) (fun _ => ?_)
  refine wr_i (va_runS (As := []) (rest := []) FX (w_most l hfl G a t9) (va_cwS 0 hts gL_adders_L_most rfl rfl rfl (by decide +kernel) ⟨Nat.le_of_ble_eq_true rfl, Nat.le_of_ble_eq_true rfl⟩) (preN hK hNW (fun q h => hI q (Nat.le_trans hS.1 h)) (hLow.at hS (fun q9 h8 h9 => absurd h8 (Nat.not_lt.mpr h9))) (hX.at hS (fun q9 h8 h9 => absurd h8 (Nat.not_lt.mpr h9))) hNC hNI hAO) rfl rfl hl.1 rfl (lv_room (Nat.le_of_ble_eq_true rfl)) dL_adders_969 ⟨Nat.le_of_ble_eq_true rfl, Nat.le_of_ble_eq_true rfl⟩) hS (fun _ h => h.elim) (fun r _ H locs hp _ hk hS => ?_)
  have hCW := CW_k ha (i := 115) (n := 0) (fun q hq _ => hk q hq (fun h => h)) (by omega) hCW
  refine lv_as (y := nI 1) hp ?_
  refine lv_if_eq (tgt := 979) hx hb dL_adders_972 (by decide) (fun c => absurd c (by decide)) (fun _ => ?_)
  refine lv_iconst (v := nI 1) hx hb dL_adders_975 (by decide) ?_
  refine lv_goto (tgt := 980) hx hb dL_adders_976 (by decide) ?_
  exact K _ _ _ hS hCW hl
set_option maxRecDepth 20000 in
theorem inL_adders_11 : ∀ w ∈ u_ws RX11 TX11 12, w ∈ wsL_adders := by decide +kernel
set_option maxHeartbeats 4000000 in
set_option maxRecDepth 100000 in
theorem w_adders (l : Launch) (hfl : l.stackTraces = false) (G : GG) (d : Nat → Nat) (t9 : Nat) : Met l yL_adders wsL_adders ({ frames := 12, cells := 5444, slots := 45292, locals := 246 } : Room) (PcN G d t9 [] (fun H => ∀ q, H.size ≤ q → inM d q)) (QI (fun (r : Int32) (_ : Unit) => r = nI 1) (fun _ _ => True) nA) 5444 45292 nA := by
  refine Met.ofW (cc := cL_adders) (maxL := 1) (ret := (some .boolean)) (by decide) rfl ?_
  intro p e s m args below meth c s₁ B hml hv
  obtain ⟨⟨⟨⟨⟨rfl, hIn, hK, hNW⟩, hLow0⟩, hX0⟩, hNC⟩, hNI, hAO⟩ := hv
  obtain ⟨a, hab⟩ : ∃ a : Nat → Nat, ∀ k, a k = s.heap.size + k := ⟨_, fun _ => rfl⟩
  have ha : Inj a := fun i j h => by rw [hab, hab] at h; omega
  have hA : ∀ k, s.heap.size ≤ a k := fun k => by rw [hab]; omega
  have hI : ∀ q, s.heap.size ≤ q → inM a q := fun q h => ⟨q - s.heap.size, by rw [hab]; omega⟩
  have hda : ∀ q, inM a q → inM d q := fun q h => hIn q (by obtain ⟨k, e⟩ := h; rw [e]; exact hA k)
  have hLow := hLow0.nar hda
  have hX := hX0.nar hda
  have hx := B.exec
  have hb := B.bytes
  have hr := B.returns
  have hts := atoms_spec (ws := wsL_adders) B.pre
  have hown : s.vm.findClass RL = some m.cls := findClass_of_methodNamed B.named
  have hlocks := B.notSynchronized
  have FX : CallFix p m c cL_adders 1 s ([] : List Value).toArray wsL_adders RL := ⟨hx, hb, hml, hown, hts⟩
  have J : LJ p l s m meth c ([] : List Value).toArray cL_adders (some .boolean) 1 wsL_adders G a t9 := ⟨hfl, hx, hb, hr, hml, hown, hts, hlocks, ha, hK, hNW, hLow, hX, hNC⟩
  have hl := lv_entry ([]) (n := 1) (Nat.le_of_ble_eq_true rfl)
  rw [lg_entry_eq]
  generalize (lg_sl ([]) ++ List.replicate (1 - (lg_sl ([])).length) Slot.unset).toArray = ls at hl ⊢
  have hl : lv_has ls 1 [] := hl
  have hS : va_S (fun q : Nat => s.heap.size ≤ q) s.heap s.heap [] := va_S.rf
  refine pp_new (a := a) (b0 := s.heap.size) (ci := 11) (fs := [.null, .null, .null, .null, .null, .null, .null, .null, .null, .null, .null, .null]) (C := RX11) (T := TX11) (N := 12) hx hb hts inL_adders_11 tyX11 tyX11_ok hown (hts (.classLink RL 8 RX11) (List.mem_of_getElem? (i := 1) (by decide +kernel))) (hts (.instantiable RX11 12) (List.mem_of_getElem? (i := 2) (by decide +kernel))) (hts (.initialized RX11) (List.mem_of_getElem? (i := 3) (by decide +kernel))) hK rfl (fun j hj => by rcases (show j = 0 ∨ j = 1 ∨ j = 2 ∨ j = 3 ∨ j = 4 ∨ j = 5 ∨ j = 6 ∨ j = 7 ∨ j = 8 ∨ j = 9 ∨ j = 10 ∨ j = 11 by omega) with rfl | rfl | rfl | rfl | rfl | rfl | rfl | rfl | rfl | rfl | rfl | rfl <;> rfl) hab (j := 0) rfl (j1 := 1) rfl hS (Nat.le_of_ble_eq_true rfl) (Nat.le_of_ble_eq_true rfl) dL_adders_0 (fun H hP9 hk1 hZ hS => ?_)
  refine lv_dup hx hb dL_adders_3 rfl ?_
  refine wr_v (va_runI (As := []) (rest := [.ref (a 0)]) FX (c_X11_init l G a s.heap.size hab) (cwI 0 hts gL_adders_X11_init rfl rfl rfl (hts (.initialized RX11) (List.mem_of_getElem? (i := 3) (by decide +kernel))) (hts (.methodLink RL 92 yX11_init) (List.mem_of_getElem? (i := 7) (by decide +kernel))) (hts (.instanceMethod yX11_init) (List.mem_of_getElem? (i := 8) (by decide +kernel))) rfl (by decide +kernel) ⟨Nat.le_of_ble_eq_true rfl, Nat.le_of_ble_eq_true rfl⟩) (preI hK hNW ⟨hZ, hP9⟩ hNI hAO) rfl rfl hl.1 rfl (lv_room (Nat.le_of_ble_eq_true rfl)) dL_adders_4 ⟨Nat.le_of_ble_eq_true rfl, Nat.le_of_ble_eq_true rfl⟩) hS (rng_ge hA) (fun _ H locs _ hB hk2 hS => ?_)
  obtain ⟨c1, c2, c3, c4, c5, c6, c7, c8, c9, c10, c11, c12, c13, c14⟩ := hB
  obtain ⟨m1, m2, m3, m4, m5, m6, m7, m8⟩ := mak_0 c5
  have hCW : CW G a st0 H := ⟨c1, c2, c3, c4, m1, m2, m3, m4, m5, m6, m7, m8, ⟨_, _, _, c6⟩, ⟨_, _, c7⟩, ⟨_, _, c8⟩, ⟨_, _, c9⟩, ⟨_, _, _, c10⟩, ⟨_, _, c11⟩, ⟨_, c12⟩, ⟨_, _, _, _, _, c13⟩, c14⟩
  refine lv_astore_n (lv' := [(0, .ref (a 0))]) hx hb dL_adders_7 rfl hl (by decide) rfl (fun ls hl => ?_)
  exact t_adders_1 J hA hNI hAO hI hS hCW hl (fun H locs ls hS hCW hl => t_adders_2 J hA hNI hAO hI hS hCW hl (fun H locs ls hS hCW hl => t_adders_3 J hA hNI hAO hI hS hCW hl (fun H locs ls hS hCW hl => t_adders_4 J hA hNI hAO hI hS hCW hl (fun H locs ls hS hCW hl => t_adders_5 J hA hNI hAO hI hS hCW hl (fun H locs ls hS hCW hl => t_adders_6 J hA hNI hAO hI hS hCW hl (fun H locs ls hS hCW hl => t_adders_7 J hA hNI hAO hI hS hCW hl (fun H locs ls hS hCW hl => fin_own hS (fun hS => en_wz () hx hb hr hlocks hS nw1 rfl trivial dL_adders_980))))))))
