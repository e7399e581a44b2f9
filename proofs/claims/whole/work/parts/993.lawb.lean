/-! the law's cases: both are called, both answer alike -/
theorem z_clear {st : ST} {p9 : Int32} (h : nI (cCl p9) = nI 0) : cCl p9 = 0 := by
  revert h; unfold cCl; (repeat' split) <;> intro h <;> first | rfl | exact absurd h (by decide)
set_option maxHeartbeats 4000000 in
set_option maxRecDepth 100000 in
theorem b_clear {p : Program} {l : Launch} {e : Env} {s : State} {m : MethodId} {below : List Frame} {meth : Method} {c : Code} {b L : Nat} {xs : Nat → Int32} (hfl : l.stackTraces = false) {G : GG} {a : Nat → Nat} {t9 : Nat} (D0 : LC p s m meth c b L xs G a t9) (hL : L ≤ 2560) {st : ST} {th : Int32} {f0 : Nat → Int64} {j C9 S9 : Nat} (hO : OKS st) (hj : j + 4 < L) (hC9 : C9 ≤ 600000) (hS9 : S9 ≤ 7200000) {H : Heap} {locs : List Loc} {ls : Array Slot} (hS : va_S (fun q : Nat => s.heap.size ≤ q) s.heap H locs) (hCW : CW G a st H) (hMW : MW G a st th H) (hOut : outP G a f0 H) (hl : lv_has ls 7 [(0, .ref b), (1, .ref (a 0)), (2, .ref (a 93)), (3, .ref (a 115)), (4, .int (nI j))])
    (K : ∀ (st1 : ST) (th1 : Int32) (f1 : Nat → Int64) (H1 : Heap) (locs1 : List Loc) (ls1 : Array Slot), OKS st1 → CW G a st1 H1 → MW G a st1 th1 H1 → outP G a f1 H1 → va_S (fun q : Nat => s.heap.size ≤ q) s.heap H1 locs1 → lv_has ls1 7 [(0, .ref b), (1, .ref (a 0)), (2, .ref (a 93)), (3, .ref (a 115)), (4, .int (nI j))] → W p l e room_1 s m #[Value.ref b] below meth c H1 locs1 (C9 + 10) (S9 + 100) (lw_Z below #[Value.ref b] s) (F0 m 1612 ls1 [])) : W p l e room_1 s m #[Value.ref b] below meth c H locs C9 S9 (lw_Z below #[Value.ref b] s) (F0 m 496 ls []) := by
  obtain ⟨⟨hx, hb, hr, hml, hown, hts0, hX0, hbl, hlocks, hgv⟩, ha, hK, hNW, hLow, hX, hNC, hA⟩ := id D0
  have hts : ∀ w ∈ wsL_law, w.before #[Value.ref b] s = true := fun w h => hts0 w (wsL_law_in w h)
  have hbA : ¬ (fun q : Nat => s.heap.size ≤ q) b := Nat.not_le.mpr hbl
  have FX : CallFix p m c cL_law 7 s #[Value.ref b] wsL_law RL := ⟨hx, hb, hml, hown, hts⟩
  have hgC : ∀ q, orA (rng a 0 93) (rng a 115 1) q → s.heap.size ≤ q := fun q h => h.elim (rng_ge hA q) (rng_ge hA q)
  have i1 : vp_in (nI j + nI 1) L := by rw [nI_add]; exact vp_in_nI (by omega) (by omega)
  refine lv_aload_n hx hb dL_law_496 rfl (lv_at hl 1 rfl) ?_
  refine lv_aload_n hx hb dL_law_497 rfl (lv_at hl 0 rfl) ?_
  refine lv_iload hx hb dL_law_498 (lv_at hl 4 rfl) ?_
  refine lv_iconst (v := nI 1) hx hb dL_law_500 (by decide) ?_
  refine lv_iadd hx hb dL_law_501 ?_
  refine va_sld hx hb hX0 hbl hbA hS i1 dL_law_502 ?_
  refine lv_aload_n hx hb dL_law_503 rfl (lv_at hl 3 rfl) ?_
  refine wr_i (vx_run0 (vx_runSX (As := [.ref (a 0), .int (xs (nI j + nI 1).toNatClampNeg), .ref (a 115)]) (rest := []) FX (w_clear l hfl G a ha t9 st (xs (nI j + nI 1).toNatClampNeg) f0 hO) (vx_cwSW 3 hts gL_law_L_clear rfl rfl rfl (by decide +kernel) ⟨Nat.le_of_ble_eq_true rfl, Nat.le_of_ble_eq_true rfl⟩) (preW hK hNW ⟨hCW, hOut⟩ (hLow.at hS (fun q9 h8 h9 => absurd h8 (Nat.not_lt.mpr h9))) (hX.at hS (fun q9 h8 h9 => absurd h8 (Nat.not_lt.mpr h9))) hNC) rfl rfl hl.1 rfl (lv_room (Nat.le_of_ble_eq_true rfl)) dL_law_504 (rm_ok (by omega) (by omega)))) hS hgC (fun r f1 H1 locs1 hp hB hk hS => ?_)
  obtain ⟨hCW, hOut⟩ := hB
  have hMW := MW_k ha hk (mw_no ha) hMW
  refine lv_istore (lv' := [(5, .int r), (0, .ref b), (1, .ref (a 0)), (2, .ref (a 93)), (3, .ref (a 115)), (4, .int (nI j))]) hx hb dL_law_507 hl (by decide) rfl (fun ls hl => ?_)
  refine lv_aload_n hx hb dL_law_509 rfl (lv_at hl 3 rfl) ?_
  refine lv_aload_n hx hb dL_law_510 rfl (lv_at hl 1 rfl) ?_
  refine lv_iload hx hb dL_law_511 (lv_at hl 5 rfl) ?_
  refine lv_iconst (v := nI 1) hx hb dL_law_513 (by decide) ?_
  refine lv_iadd hx hb dL_law_514 ?_
  refine va_sld hx hb hX0 hbl hbA hS i1 dL_law_515 ?_
  refine wr_i (va_runV (As := [.int (xs (nI j + nI 1).toNatClampNeg)]) (rest := []) FX (k_X12_clear l G a ha st (xs (nI j + nI 1).toNatClampNeg) hO) (cwV 1 hts gL_law_X12_clear rfl rfl rfl (by decide +kernel) ⟨Nat.le_of_ble_eq_true rfl, Nat.le_of_ble_eq_true rfl⟩) (preV hK hNW ⟨th, hMW⟩ (mw_recv hK hMW)) rfl rfl hl.1 rfl (lv_room (Nat.le_of_ble_eq_true rfl)) dL_law_516 (rm_ok (by omega) (by omega))) hS (rng_ge hA) (fun y u9 H2 locs2 hq hMW hk2 hS => ?_)
  have hCW := CW_k ha hk2 (by omega) hCW
  have hOut : outP G a f1 H2 := kp hk2 hOut (dj_cons (rng_no ha (by omega)) dj_nil)
  refine lv_istore (lv' := [(6, .int y), (5, .int r), (0, .ref b), (1, .ref (a 0)), (2, .ref (a 93)), (3, .ref (a 115)), (4, .int (nI j))]) hx hb dL_law_519 hl (by decide) rfl (fun ls hl => ?_)
  refine lv_aload_n hx hb dL_law_521 rfl (lv_at hl 4 rfl) ?_
  obtain ⟨⟨cy, h0⟩, -⟩ := id hMW
  refine ro_i (va_runV (As := []) (rest := []) FX (c_X12_thrown l G a cy (nI (cCl (xs (nI j + nI 1).toNatClampNeg)))) (cwV 0 hts gL_law_X12_thrown rfl rfl rfl (by decide +kernel) ⟨Nat.le_of_ble_eq_true rfl, Nat.le_of_ble_eq_true rfl⟩) (preV hK hNW h0 (mw_recv hK hMW)) rfl rfl hl.1 rfl (lv_room (Nat.le_of_ble_eq_true rfl)) dL_law_522 (rm_ok (by omega) (by omega))) ?_
  refine lv_iload hx hb dL_law_525 (lv_at hl 1 rfl) ?_
  refine lv_icmp_eq (tgt := 532) hx hb dL_law_527 (by decide) (fun c1 => ?_) (fun c1 => absurd hp.1.symm c1)
  refine lv_iload hx hb dL_law_532 (lv_at hl 1 rfl) ?_
  have fin := fun (ls : Array Slot) (hl : lv_has ls 7 [(6, .int y), (5, .int r), (0, .ref b), (1, .ref (a 0)), (2, .ref (a 93)), (3, .ref (a 115)), (4, .int (nI j))]) => K _ (nI (cCl (xs (nI j + nI 1).toNatClampNeg))) f1 H2 locs2 ls (ok_clear hO) hCW hMW hOut hS (lv_sub hl [2, 3, 4, 5, 6] rfl)
  refine lv_if_ne (tgt := 549) hx hb dL_law_534 (by decide) (fun c2 => ?_) (fun c2 => ?_)
  · refine lv_goto (tgt := 1612) hx hb dL_law_549 (by decide) (wid (by omega) (by omega) (fin _ hl))
  · obtain ⟨x, e1, e2⟩ := hp.2 (z_clear (st := st) (hp.1.symm.trans c2))
    have e3 := hq (z_clear (st := st) (hp.1.symm.trans c2))
    have e4 : x = y := e2.trans e3.symm
    refine lv_aload_n hx hb dL_law_537 rfl (lv_at hl 5 rfl) ?_
    refine lv_iconst (v := nI 0) hx hb dL_law_538 (by decide) ?_
    refine pp_lald hx hb hK hOut 0 rfl (vp_in_nI (by omega) (by omega)) dL_law_539 ?_
    refine lv_iload hx hb dL_law_540 (lv_at hl 0 rfl) ?_
    refine lv_i2l (v := y.toInt64) hx hb dL_law_542 rfl ?_
    refine W.lcmp hx hb dL_law_543 ?_
    refine lv_if_eq (tgt := 549) hx hb dL_law_544 (by decide) (fun c3 => ?_) (fun c3 => absurd (an_eq e1 e4) c3)
    refine lv_goto (tgt := 1612) hx hb dL_law_549 (by decide) (wid (by omega) (by omega) (fin _ hl))
theorem z_cost {st : ST} {kd9 d9 x9 : Int32} (h : nI (cCo kd9 d9 x9) = nI 0) : cCo kd9 d9 x9 = 0 := by
  revert h; unfold cCo; (repeat' split) <;> intro h <;> first | rfl | exact absurd h (by decide)
set_option maxHeartbeats 4000000 in
set_option maxRecDepth 100000 in
theorem b_cost {p : Program} {l : Launch} {e : Env} {s : State} {m : MethodId} {below : List Frame} {meth : Method} {c : Code} {b L : Nat} {xs : Nat → Int32} (hfl : l.stackTraces = false) {G : GG} {a : Nat → Nat} {t9 : Nat} (D0 : LC p s m meth c b L xs G a t9) (hL : L ≤ 2560) {st : ST} {th : Int32} {f0 : Nat → Int64} {j C9 S9 : Nat} (hO : OKS st) (hj : j + 4 < L) (hC9 : C9 ≤ 600000) (hS9 : S9 ≤ 7200000) {H : Heap} {locs : List Loc} {ls : Array Slot} (hS : va_S (fun q : Nat => s.heap.size ≤ q) s.heap H locs) (hCW : CW G a st H) (hMW : MW G a st th H) (hOut : outP G a f0 H) (hl : lv_has ls 7 [(0, .ref b), (1, .ref (a 0)), (2, .ref (a 93)), (3, .ref (a 115)), (4, .int (nI j))])
    (K : ∀ (st1 : ST) (th1 : Int32) (f1 : Nat → Int64) (H1 : Heap) (locs1 : List Loc) (ls1 : Array Slot), OKS st1 → CW G a st1 H1 → MW G a st1 th1 H1 → outP G a f1 H1 → va_S (fun q : Nat => s.heap.size ≤ q) s.heap H1 locs1 → lv_has ls1 7 [(0, .ref b), (1, .ref (a 0)), (2, .ref (a 93)), (3, .ref (a 115)), (4, .int (nI j))] → W p l e room_1 s m #[Value.ref b] below meth c H1 locs1 (C9 + 10) (S9 + 100) (lw_Z below #[Value.ref b] s) (F0 m 1612 ls1 [])) : W p l e room_1 s m #[Value.ref b] below meth c H locs C9 S9 (lw_Z below #[Value.ref b] s) (F0 m 552 ls []) := by
  obtain ⟨⟨hx, hb, hr, hml, hown, hts0, hX0, hbl, hlocks, hgv⟩, ha, hK, hNW, hLow, hX, hNC, hA⟩ := id D0
  have hts : ∀ w ∈ wsL_law, w.before #[Value.ref b] s = true := fun w h => hts0 w (wsL_law_in w h)
  have hbA : ¬ (fun q : Nat => s.heap.size ≤ q) b := Nat.not_le.mpr hbl
  have FX : CallFix p m c cL_law 7 s #[Value.ref b] wsL_law RL := ⟨hx, hb, hml, hown, hts⟩
  have hgC : ∀ q, orA (rng a 0 93) (rng a 115 1) q → s.heap.size ≤ q := fun q h => h.elim (rng_ge hA q) (rng_ge hA q)
  have i1 : vp_in (nI j + nI 1) L := by rw [nI_add]; exact vp_in_nI (by omega) (by omega)
  have i2 : vp_in (nI j + nI 2) L := by rw [nI_add]; exact vp_in_nI (by omega) (by omega)
  have i3 : vp_in (nI j + nI 3) L := by rw [nI_add]; exact vp_in_nI (by omega) (by omega)
  refine lv_aload_n hx hb dL_law_552 rfl (lv_at hl 1 rfl) ?_
  refine lv_aload_n hx hb dL_law_553 rfl (lv_at hl 0 rfl) ?_
  refine lv_iload hx hb dL_law_554 (lv_at hl 4 rfl) ?_
  refine lv_iconst (v := nI 1) hx hb dL_law_556 (by decide) ?_
  refine lv_iadd hx hb dL_law_557 ?_
  refine va_sld hx hb hX0 hbl hbA hS i1 dL_law_558 ?_
  refine lv_aload_n hx hb dL_law_559 rfl (lv_at hl 0 rfl) ?_
  refine lv_iload hx hb dL_law_560 (lv_at hl 4 rfl) ?_
  refine lv_iconst (v := nI 2) hx hb dL_law_562 (by decide) ?_
  refine lv_iadd hx hb dL_law_563 ?_
  refine va_sld hx hb hX0 hbl hbA hS i2 dL_law_564 ?_
  refine lv_aload_n hx hb dL_law_565 rfl (lv_at hl 0 rfl) ?_
  refine lv_iload hx hb dL_law_566 (lv_at hl 4 rfl) ?_
  refine lv_iconst (v := nI 3) hx hb dL_law_568 (by decide) ?_
  refine lv_iadd hx hb dL_law_569 ?_
  refine va_sld hx hb hX0 hbl hbA hS i3 dL_law_570 ?_
  refine lv_aload_n hx hb dL_law_571 rfl (lv_at hl 3 rfl) ?_
  refine wr_i (vx_run0 (vx_runSX (As := [.ref (a 0), .int (xs (nI j + nI 1).toNatClampNeg), .int (xs (nI j + nI 2).toNatClampNeg), .int (xs (nI j + nI 3).toNatClampNeg), .ref (a 115)]) (rest := []) FX (w_cost l hfl G a ha t9 st (xs (nI j + nI 1).toNatClampNeg) (xs (nI j + nI 2).toNatClampNeg) (xs (nI j + nI 3).toNatClampNeg) f0 hO) (vx_cwSW 5 hts gL_law_L_cost rfl rfl rfl (by decide +kernel) ⟨Nat.le_of_ble_eq_true rfl, Nat.le_of_ble_eq_true rfl⟩) (preW hK hNW ⟨hCW, hOut⟩ (hLow.at hS (fun q9 h8 h9 => absurd h8 (Nat.not_lt.mpr h9))) (hX.at hS (fun q9 h8 h9 => absurd h8 (Nat.not_lt.mpr h9))) hNC) rfl rfl hl.1 rfl (lv_room (Nat.le_of_ble_eq_true rfl)) dL_law_572 (rm_ok (by omega) (by omega)))) hS hgC (fun r f1 H1 locs1 hp hB hk hS => ?_)
  obtain ⟨hCW, hOut⟩ := hB
  have hMW := MW_k ha hk (mw_no ha) hMW
  refine lv_istore (lv' := [(5, .int r), (0, .ref b), (1, .ref (a 0)), (2, .ref (a 93)), (3, .ref (a 115)), (4, .int (nI j))]) hx hb dL_law_575 hl (by decide) rfl (fun ls hl => ?_)
  refine lv_aload_n hx hb dL_law_577 rfl (lv_at hl 3 rfl) ?_
  refine lv_aload_n hx hb dL_law_578 rfl (lv_at hl 1 rfl) ?_
  refine lv_iload hx hb dL_law_579 (lv_at hl 5 rfl) ?_
  refine lv_iconst (v := nI 1) hx hb dL_law_581 (by decide) ?_
  refine lv_iadd hx hb dL_law_582 ?_
  refine va_sld hx hb hX0 hbl hbA hS i1 dL_law_583 ?_
  refine lv_aload_n hx hb dL_law_584 rfl (lv_at hl 1 rfl) ?_
  refine lv_iload hx hb dL_law_585 (lv_at hl 5 rfl) ?_
  refine lv_iconst (v := nI 2) hx hb dL_law_587 (by decide) ?_
  refine lv_iadd hx hb dL_law_588 ?_
  refine va_sld hx hb hX0 hbl hbA hS i2 dL_law_589 ?_
  refine lv_aload_n hx hb dL_law_590 rfl (lv_at hl 1 rfl) ?_
  refine lv_iload hx hb dL_law_591 (lv_at hl 5 rfl) ?_
  refine lv_iconst (v := nI 3) hx hb dL_law_593 (by decide) ?_
  refine lv_iadd hx hb dL_law_594 ?_
  refine va_sld hx hb hX0 hbl hbA hS i3 dL_law_595 ?_
  refine wr_i (va_runV (As := [.int (xs (nI j + nI 1).toNatClampNeg), .int (xs (nI j + nI 2).toNatClampNeg), .int (xs (nI j + nI 3).toNatClampNeg)]) (rest := []) FX (k_X12_cost l G a ha st (xs (nI j + nI 1).toNatClampNeg) (xs (nI j + nI 2).toNatClampNeg) (xs (nI j + nI 3).toNatClampNeg) hO) (cwV 3 hts gL_law_X12_cost rfl rfl rfl (by decide +kernel) ⟨Nat.le_of_ble_eq_true rfl, Nat.le_of_ble_eq_true rfl⟩) (preV hK hNW ⟨th, hMW⟩ (mw_recv hK hMW)) rfl rfl hl.1 rfl (lv_room (Nat.le_of_ble_eq_true rfl)) dL_law_596 (rm_ok (by omega) (by omega))) hS (rng_ge hA) (fun y u9 H2 locs2 hq hMW hk2 hS => ?_)
  have hCW := CW_k ha hk2 (by omega) hCW
  have hOut : outP G a f1 H2 := kp hk2 hOut (dj_cons (rng_no ha (by omega)) dj_nil)
  refine lv_istore (lv' := [(6, .int y), (5, .int r), (0, .ref b), (1, .ref (a 0)), (2, .ref (a 93)), (3, .ref (a 115)), (4, .int (nI j))]) hx hb dL_law_599 hl (by decide) rfl (fun ls hl => ?_)
  refine lv_aload_n hx hb dL_law_601 rfl (lv_at hl 4 rfl) ?_
  obtain ⟨⟨cy, h0⟩, -⟩ := id hMW
  refine ro_i (va_runV (As := []) (rest := []) FX (c_X12_thrown l G a cy (nI (cCo (xs (nI j + nI 1).toNatClampNeg) (xs (nI j + nI 2).toNatClampNeg) (xs (nI j + nI 3).toNatClampNeg)))) (cwV 0 hts gL_law_X12_thrown rfl rfl rfl (by decide +kernel) ⟨Nat.le_of_ble_eq_true rfl, Nat.le_of_ble_eq_true rfl⟩) (preV hK hNW h0 (mw_recv hK hMW)) rfl rfl hl.1 rfl (lv_room (Nat.le_of_ble_eq_true rfl)) dL_law_602 (rm_ok (by omega) (by omega))) ?_
  refine lv_iload hx hb dL_law_605 (lv_at hl 1 rfl) ?_
  refine lv_icmp_eq (tgt := 612) hx hb dL_law_607 (by decide) (fun c1 => ?_) (fun c1 => absurd hp.1.symm c1)
  refine lv_iload hx hb dL_law_612 (lv_at hl 1 rfl) ?_
  have fin := fun (ls : Array Slot) (hl : lv_has ls 7 [(6, .int y), (5, .int r), (0, .ref b), (1, .ref (a 0)), (2, .ref (a 93)), (3, .ref (a 115)), (4, .int (nI j))]) => K _ (nI (cCo (xs (nI j + nI 1).toNatClampNeg) (xs (nI j + nI 2).toNatClampNeg) (xs (nI j + nI 3).toNatClampNeg))) f1 H2 locs2 ls (ok_cost hO) hCW hMW hOut hS (lv_sub hl [2, 3, 4, 5, 6] rfl)
  refine lv_if_ne (tgt := 629) hx hb dL_law_614 (by decide) (fun c2 => ?_) (fun c2 => ?_)
  · refine lv_goto (tgt := 1612) hx hb dL_law_629 (by decide) (wid (by omega) (by omega) (fin _ hl))
  · obtain ⟨x, e1, e2⟩ := hp.2 (z_cost (st := st) (hp.1.symm.trans c2))
    have e3 := hq (z_cost (st := st) (hp.1.symm.trans c2))
    have e4 : x = y := e2.trans e3.symm
    refine lv_aload_n hx hb dL_law_617 rfl (lv_at hl 5 rfl) ?_
    refine lv_iconst (v := nI 0) hx hb dL_law_618 (by decide) ?_
    refine pp_lald hx hb hK hOut 0 rfl (vp_in_nI (by omega) (by omega)) dL_law_619 ?_
    refine lv_iload hx hb dL_law_620 (lv_at hl 0 rfl) ?_
    refine lv_i2l (v := y.toInt64) hx hb dL_law_622 rfl ?_
    refine W.lcmp hx hb dL_law_623 ?_
    refine lv_if_eq (tgt := 629) hx hb dL_law_624 (by decide) (fun c3 => ?_) (fun c3 => absurd (an_eq e1 e4) c3)
    refine lv_goto (tgt := 1612) hx hb dL_law_629 (by decide) (wid (by omega) (by omega) (fin _ hl))
theorem z_stick {st : ST} {p9 g9 b9 : Int32} (h : nI (cSt st.1 p9 g9 b9) = nI 0) : cSt st.1 p9 g9 b9 = 0 := by
  revert h; unfold cSt; (repeat' split) <;> intro h <;> first | rfl | exact absurd h (by decide)
set_option maxHeartbeats 4000000 in
set_option maxRecDepth 100000 in
theorem b_stick {p : Program} {l : Launch} {e : Env} {s : State} {m : MethodId} {below : List Frame} {meth : Method} {c : Code} {b L : Nat} {xs : Nat → Int32} (hfl : l.stackTraces = false) {G : GG} {a : Nat → Nat} {t9 : Nat} (D0 : LC p s m meth c b L xs G a t9) (hL : L ≤ 2560) {st : ST} {th : Int32} {f0 : Nat → Int64} {j C9 S9 : Nat} (hO : OKS st) (hj : j + 4 < L) (hC9 : C9 ≤ 600000) (hS9 : S9 ≤ 7200000) {H : Heap} {locs : List Loc} {ls : Array Slot} (hS : va_S (fun q : Nat => s.heap.size ≤ q) s.heap H locs) (hCW : CW G a st H) (hMW : MW G a st th H) (hOut : outP G a f0 H) (hl : lv_has ls 7 [(0, .ref b), (1, .ref (a 0)), (2, .ref (a 93)), (3, .ref (a 115)), (4, .int (nI j))])
    (K : ∀ (st1 : ST) (th1 : Int32) (f1 : Nat → Int64) (H1 : Heap) (locs1 : List Loc) (ls1 : Array Slot), OKS st1 → CW G a st1 H1 → MW G a st1 th1 H1 → outP G a f1 H1 → va_S (fun q : Nat => s.heap.size ≤ q) s.heap H1 locs1 → lv_has ls1 7 [(0, .ref b), (1, .ref (a 0)), (2, .ref (a 93)), (3, .ref (a 115)), (4, .int (nI j))] → W p l e room_1 s m #[Value.ref b] below meth c H1 locs1 (C9 + 10) (S9 + 100) (lw_Z below #[Value.ref b] s) (F0 m 1612 ls1 [])) : W p l e room_1 s m #[Value.ref b] below meth c H locs C9 S9 (lw_Z below #[Value.ref b] s) (F0 m 632 ls []) := by
  obtain ⟨⟨hx, hb, hr, hml, hown, hts0, hX0, hbl, hlocks, hgv⟩, ha, hK, hNW, hLow, hX, hNC, hA⟩ := id D0
  have hts : ∀ w ∈ wsL_law, w.before #[Value.ref b] s = true := fun w h => hts0 w (wsL_law_in w h)
  have hbA : ¬ (fun q : Nat => s.heap.size ≤ q) b := Nat.not_le.mpr hbl
  have FX : CallFix p m c cL_law 7 s #[Value.ref b] wsL_law RL := ⟨hx, hb, hml, hown, hts⟩
  have hgC : ∀ q, orA (rng a 0 93) (rng a 115 1) q → s.heap.size ≤ q := fun q h => h.elim (rng_ge hA q) (rng_ge hA q)
  have i1 : vp_in (nI j + nI 1) L := by rw [nI_add]; exact vp_in_nI (by omega) (by omega)
  have i2 : vp_in (nI j + nI 2) L := by rw [nI_add]; exact vp_in_nI (by omega) (by omega)
  have i3 : vp_in (nI j + nI 3) L := by rw [nI_add]; exact vp_in_nI (by omega) (by omega)
  refine lv_aload_n hx hb dL_law_632 rfl (lv_at hl 1 rfl) ?_
  refine lv_aload_n hx hb dL_law_633 rfl (lv_at hl 0 rfl) ?_
  refine lv_iload hx hb dL_law_634 (lv_at hl 4 rfl) ?_
  refine lv_iconst (v := nI 1) hx hb dL_law_636 (by decide) ?_
  refine lv_iadd hx hb dL_law_637 ?_
  refine va_sld hx hb hX0 hbl hbA hS i1 dL_law_638 ?_
  refine lv_aload_n hx hb dL_law_639 rfl (lv_at hl 0 rfl) ?_
  refine lv_iload hx hb dL_law_640 (lv_at hl 4 rfl) ?_
  refine lv_iconst (v := nI 2) hx hb dL_law_642 (by decide) ?_
  refine lv_iadd hx hb dL_law_643 ?_
  refine va_sld hx hb hX0 hbl hbA hS i2 dL_law_644 ?_
  refine lv_aload_n hx hb dL_law_645 rfl (lv_at hl 0 rfl) ?_
  refine lv_iload hx hb dL_law_646 (lv_at hl 4 rfl) ?_
  refine lv_iconst (v := nI 3) hx hb dL_law_648 (by decide) ?_
  refine lv_iadd hx hb dL_law_649 ?_
  refine va_sld hx hb hX0 hbl hbA hS i3 dL_law_650 ?_
  refine lv_aload_n hx hb dL_law_651 rfl (lv_at hl 3 rfl) ?_
  refine wr_i (vx_run0 (vx_runSX (As := [.ref (a 0), .int (xs (nI j + nI 1).toNatClampNeg), .int (xs (nI j + nI 2).toNatClampNeg), .int (xs (nI j + nI 3).toNatClampNeg), .ref (a 115)]) (rest := []) FX (w_stick l hfl G a ha t9 st (xs (nI j + nI 1).toNatClampNeg) (xs (nI j + nI 2).toNatClampNeg) (xs (nI j + nI 3).toNatClampNeg) f0 hO) (vx_cwSW 5 hts gL_law_L_stick rfl rfl rfl (by decide +kernel) ⟨Nat.le_of_ble_eq_true rfl, Nat.le_of_ble_eq_true rfl⟩) (preW hK hNW ⟨hCW, hOut⟩ (hLow.at hS (fun q9 h8 h9 => absurd h8 (Nat.not_lt.mpr h9))) (hX.at hS (fun q9 h8 h9 => absurd h8 (Nat.not_lt.mpr h9))) hNC) rfl rfl hl.1 rfl (lv_room (Nat.le_of_ble_eq_true rfl)) dL_law_652 (rm_ok (by omega) (by omega)))) hS hgC (fun r f1 H1 locs1 hp hB hk hS => ?_)
  obtain ⟨hCW, hOut⟩ := hB
  have hMW := MW_k ha hk (mw_no ha) hMW
  refine lv_istore (lv' := [(5, .int r), (0, .ref b), (1, .ref (a 0)), (2, .ref (a 93)), (3, .ref (a 115)), (4, .int (nI j))]) hx hb dL_law_655 hl (by decide) rfl (fun ls hl => ?_)
  refine lv_aload_n hx hb dL_law_657 rfl (lv_at hl 3 rfl) ?_
  refine lv_aload_n hx hb dL_law_658 rfl (lv_at hl 1 rfl) ?_
  refine lv_iload hx hb dL_law_659 (lv_at hl 5 rfl) ?_
  refine lv_iconst (v := nI 1) hx hb dL_law_661 (by decide) ?_
  refine lv_iadd hx hb dL_law_662 ?_
  refine va_sld hx hb hX0 hbl hbA hS i1 dL_law_663 ?_
  refine lv_aload_n hx hb dL_law_664 rfl (lv_at hl 1 rfl) ?_
  refine lv_iload hx hb dL_law_665 (lv_at hl 5 rfl) ?_
  refine lv_iconst (v := nI 2) hx hb dL_law_667 (by decide) ?_
  refine lv_iadd hx hb dL_law_668 ?_
  refine va_sld hx hb hX0 hbl hbA hS i2 dL_law_669 ?_
  refine lv_aload_n hx hb dL_law_670 rfl (lv_at hl 1 rfl) ?_
  refine lv_iload hx hb dL_law_671 (lv_at hl 5 rfl) ?_
  refine lv_iconst (v := nI 3) hx hb dL_law_673 (by decide) ?_
  refine lv_iadd hx hb dL_law_674 ?_
  refine va_sld hx hb hX0 hbl hbA hS i3 dL_law_675 ?_
  refine wr_i (va_runV (As := [.int (xs (nI j + nI 1).toNatClampNeg), .int (xs (nI j + nI 2).toNatClampNeg), .int (xs (nI j + nI 3).toNatClampNeg)]) (rest := []) FX (k_X12_stick l G a ha st (xs (nI j + nI 1).toNatClampNeg) (xs (nI j + nI 2).toNatClampNeg) (xs (nI j + nI 3).toNatClampNeg) hO) (cwV 3 hts gL_law_X12_stick rfl rfl rfl (by decide +kernel) ⟨Nat.le_of_ble_eq_true rfl, Nat.le_of_ble_eq_true rfl⟩) (preV hK hNW ⟨th, hMW⟩ (mw_recv hK hMW)) rfl rfl hl.1 rfl (lv_room (Nat.le_of_ble_eq_true rfl)) dL_law_676 (rm_ok (by omega) (by omega))) hS (rng_ge hA) (fun y u9 H2 locs2 hq hMW hk2 hS => ?_)
  have hCW := CW_k ha hk2 (by omega) hCW
  have hOut : outP G a f1 H2 := kp hk2 hOut (dj_cons (rng_no ha (by omega)) dj_nil)
  refine lv_istore (lv' := [(6, .int y), (5, .int r), (0, .ref b), (1, .ref (a 0)), (2, .ref (a 93)), (3, .ref (a 115)), (4, .int (nI j))]) hx hb dL_law_679 hl (by decide) rfl (fun ls hl => ?_)
  refine lv_aload_n hx hb dL_law_681 rfl (lv_at hl 4 rfl) ?_
  obtain ⟨⟨cy, h0⟩, -⟩ := id hMW
  refine ro_i (va_runV (As := []) (rest := []) FX (c_X12_thrown l G a cy (nI (cSt st.1 (xs (nI j + nI 1).toNatClampNeg) (xs (nI j + nI 2).toNatClampNeg) (xs (nI j + nI 3).toNatClampNeg)))) (cwV 0 hts gL_law_X12_thrown rfl rfl rfl (by decide +kernel) ⟨Nat.le_of_ble_eq_true rfl, Nat.le_of_ble_eq_true rfl⟩) (preV hK hNW h0 (mw_recv hK hMW)) rfl rfl hl.1 rfl (lv_room (Nat.le_of_ble_eq_true rfl)) dL_law_682 (rm_ok (by omega) (by omega))) ?_
  refine lv_iload hx hb dL_law_685 (lv_at hl 1 rfl) ?_
  refine lv_icmp_eq (tgt := 692) hx hb dL_law_687 (by decide) (fun c1 => ?_) (fun c1 => absurd hp.1.symm c1)
  refine lv_iload hx hb dL_law_692 (lv_at hl 1 rfl) ?_
  have fin := fun (ls : Array Slot) (hl : lv_has ls 7 [(6, .int y), (5, .int r), (0, .ref b), (1, .ref (a 0)), (2, .ref (a 93)), (3, .ref (a 115)), (4, .int (nI j))]) => K _ (nI (cSt st.1 (xs (nI j + nI 1).toNatClampNeg) (xs (nI j + nI 2).toNatClampNeg) (xs (nI j + nI 3).toNatClampNeg))) f1 H2 locs2 ls (ok_stick hO) hCW hMW hOut hS (lv_sub hl [2, 3, 4, 5, 6] rfl)
  refine lv_if_ne (tgt := 709) hx hb dL_law_694 (by decide) (fun c2 => ?_) (fun c2 => ?_)
  · refine lv_goto (tgt := 1612) hx hb dL_law_709 (by decide) (wid (by omega) (by omega) (fin _ hl))
  · obtain ⟨x, e1, e2⟩ := hp.2 (z_stick (st := st) (hp.1.symm.trans c2))
    have e3 := hq (z_stick (st := st) (hp.1.symm.trans c2))
    have e4 : x = y := e2.trans e3.symm
    refine lv_aload_n hx hb dL_law_697 rfl (lv_at hl 5 rfl) ?_
    refine lv_iconst (v := nI 0) hx hb dL_law_698 (by decide) ?_
    refine pp_lald hx hb hK hOut 0 rfl (vp_in_nI (by omega) (by omega)) dL_law_699 ?_
    refine lv_iload hx hb dL_law_700 (lv_at hl 0 rfl) ?_
    refine lv_i2l (v := y.toInt64) hx hb dL_law_702 rfl ?_
    refine W.lcmp hx hb dL_law_703 ?_
    refine lv_if_eq (tgt := 709) hx hb dL_law_704 (by decide) (fun c3 => ?_) (fun c3 => absurd (an_eq e1 e4) c3)
    refine lv_goto (tgt := 1612) hx hb dL_law_709 (by decide) (wid (by omega) (by omega) (fin _ hl))
theorem z_bit {st : ST} {p9 g9 x9 : Int32} (h : nI (cBi st.1 p9 g9 x9) = nI 0) : cBi st.1 p9 g9 x9 = 0 := by
  revert h; unfold cBi; (repeat' split) <;> intro h <;> first | rfl | exact absurd h (by decide)
set_option maxHeartbeats 4000000 in
set_option maxRecDepth 100000 in
theorem b_bit {p : Program} {l : Launch} {e : Env} {s : State} {m : MethodId} {below : List Frame} {meth : Method} {c : Code} {b L : Nat} {xs : Nat → Int32} (hfl : l.stackTraces = false) {G : GG} {a : Nat → Nat} {t9 : Nat} (D0 : LC p s m meth c b L xs G a t9) (hL : L ≤ 2560) {st : ST} {th : Int32} {f0 : Nat → Int64} {j C9 S9 : Nat} (hO : OKS st) (hj : j + 4 < L) (hC9 : C9 ≤ 600000) (hS9 : S9 ≤ 7200000) {H : Heap} {locs : List Loc} {ls : Array Slot} (hS : va_S (fun q : Nat => s.heap.size ≤ q) s.heap H locs) (hCW : CW G a st H) (hMW : MW G a st th H) (hOut : outP G a f0 H) (hl : lv_has ls 7 [(0, .ref b), (1, .ref (a 0)), (2, .ref (a 93)), (3, .ref (a 115)), (4, .int (nI j))])
    (K : ∀ (st1 : ST) (th1 : Int32) (f1 : Nat → Int64) (H1 : Heap) (locs1 : List Loc) (ls1 : Array Slot), OKS st1 → CW G a st1 H1 → MW G a st1 th1 H1 → outP G a f1 H1 → va_S (fun q : Nat => s.heap.size ≤ q) s.heap H1 locs1 → lv_has ls1 7 [(0, .ref b), (1, .ref (a 0)), (2, .ref (a 93)), (3, .ref (a 115)), (4, .int (nI j))] → W p l e room_1 s m #[Value.ref b] below meth c H1 locs1 (C9 + 10) (S9 + 100) (lw_Z below #[Value.ref b] s) (F0 m 1612 ls1 [])) : W p l e room_1 s m #[Value.ref b] below meth c H locs C9 S9 (lw_Z below #[Value.ref b] s) (F0 m 712 ls []) := by
  obtain ⟨⟨hx, hb, hr, hml, hown, hts0, hX0, hbl, hlocks, hgv⟩, ha, hK, hNW, hLow, hX, hNC, hA⟩ := id D0
  have hts : ∀ w ∈ wsL_law, w.before #[Value.ref b] s = true := fun w h => hts0 w (wsL_law_in w h)
  have hbA : ¬ (fun q : Nat => s.heap.size ≤ q) b := Nat.not_le.mpr hbl
  have FX : CallFix p m c cL_law 7 s #[Value.ref b] wsL_law RL := ⟨hx, hb, hml, hown, hts⟩
  have hgC : ∀ q, orA (rng a 0 93) (rng a 115 1) q → s.heap.size ≤ q := fun q h => h.elim (rng_ge hA q) (rng_ge hA q)
  have i1 : vp_in (nI j + nI 1) L := by rw [nI_add]; exact vp_in_nI (by omega) (by omega)
  have i2 : vp_in (nI j + nI 2) L := by rw [nI_add]; exact vp_in_nI (by omega) (by omega)
  have i3 : vp_in (nI j + nI 3) L := by rw [nI_add]; exact vp_in_nI (by omega) (by omega)
  refine lv_aload_n hx hb dL_law_712 rfl (lv_at hl 1 rfl) ?_
  refine lv_aload_n hx hb dL_law_713 rfl (lv_at hl 0 rfl) ?_
  refine lv_iload hx hb dL_law_714 (lv_at hl 4 rfl) ?_
  refine lv_iconst (v := nI 1) hx hb dL_law_716 (by decide) ?_
  refine lv_iadd hx hb dL_law_717 ?_
  refine va_sld hx hb hX0 hbl hbA hS i1 dL_law_718 ?_
  refine lv_aload_n hx hb dL_law_719 rfl (lv_at hl 0 rfl) ?_
  refine lv_iload hx hb dL_law_720 (lv_at hl 4 rfl) ?_
  refine lv_iconst (v := nI 2) hx hb dL_law_722 (by decide) ?_
  refine lv_iadd hx hb dL_law_723 ?_
  refine va_sld hx hb hX0 hbl hbA hS i2 dL_law_724 ?_
  refine lv_aload_n hx hb dL_law_725 rfl (lv_at hl 0 rfl) ?_
  refine lv_iload hx hb dL_law_726 (lv_at hl 4 rfl) ?_
  refine lv_iconst (v := nI 3) hx hb dL_law_728 (by decide) ?_
  refine lv_iadd hx hb dL_law_729 ?_
  refine va_sld hx hb hX0 hbl hbA hS i3 dL_law_730 ?_
  refine lv_aload_n hx hb dL_law_731 rfl (lv_at hl 3 rfl) ?_
  refine wr_i (vx_run0 (vx_runSX (As := [.ref (a 0), .int (xs (nI j + nI 1).toNatClampNeg), .int (xs (nI j + nI 2).toNatClampNeg), .int (xs (nI j + nI 3).toNatClampNeg), .ref (a 115)]) (rest := []) FX (w_bit l hfl G a ha t9 st (xs (nI j + nI 1).toNatClampNeg) (xs (nI j + nI 2).toNatClampNeg) (xs (nI j + nI 3).toNatClampNeg) f0 hO) (vx_cwSW 5 hts gL_law_L_bit rfl rfl rfl (by decide +kernel) ⟨Nat.le_of_ble_eq_true rfl, Nat.le_of_ble_eq_true rfl⟩) (preW hK hNW ⟨hCW, hOut⟩ (hLow.at hS (fun q9 h8 h9 => absurd h8 (Nat.not_lt.mpr h9))) (hX.at hS (fun q9 h8 h9 => absurd h8 (Nat.not_lt.mpr h9))) hNC) rfl rfl hl.1 rfl (lv_room (Nat.le_of_ble_eq_true rfl)) dL_law_732 (rm_ok (by omega) (by omega)))) hS hgC (fun r f1 H1 locs1 hp hB hk hS => ?_)
  obtain ⟨hCW, hOut⟩ := hB
  have hMW := MW_k ha hk (mw_no ha) hMW
  refine lv_istore (lv' := [(5, .int r), (0, .ref b), (1, .ref (a 0)), (2, .ref (a 93)), (3, .ref (a 115)), (4, .int (nI j))]) hx hb dL_law_735 hl (by decide) rfl (fun ls hl => ?_)
  refine lv_aload_n hx hb dL_law_737 rfl (lv_at hl 3 rfl) ?_
  refine lv_aload_n hx hb dL_law_738 rfl (lv_at hl 1 rfl) ?_
  refine lv_iload hx hb dL_law_739 (lv_at hl 5 rfl) ?_
  refine lv_iconst (v := nI 1) hx hb dL_law_741 (by decide) ?_
  refine lv_iadd hx hb dL_law_742 ?_
  refine va_sld hx hb hX0 hbl hbA hS i1 dL_law_743 ?_
  refine lv_aload_n hx hb dL_law_744 rfl (lv_at hl 1 rfl) ?_
  refine lv_iload hx hb dL_law_745 (lv_at hl 5 rfl) ?_
  refine lv_iconst (v := nI 2) hx hb dL_law_747 (by decide) ?_
  refine lv_iadd hx hb dL_law_748 ?_
  refine va_sld hx hb hX0 hbl hbA hS i2 dL_law_749 ?_
  refine lv_aload_n hx hb dL_law_750 rfl (lv_at hl 1 rfl) ?_
  refine lv_iload hx hb dL_law_751 (lv_at hl 5 rfl) ?_
  refine lv_iconst (v := nI 3) hx hb dL_law_753 (by decide) ?_
  refine lv_iadd hx hb dL_law_754 ?_
  refine va_sld hx hb hX0 hbl hbA hS i3 dL_law_755 ?_
  refine wr_i (va_runV (As := [.int (xs (nI j + nI 1).toNatClampNeg), .int (xs (nI j + nI 2).toNatClampNeg), .int (xs (nI j + nI 3).toNatClampNeg)]) (rest := []) FX (k_X12_bit l G a ha st (xs (nI j + nI 1).toNatClampNeg) (xs (nI j + nI 2).toNatClampNeg) (xs (nI j + nI 3).toNatClampNeg) hO) (cwV 3 hts gL_law_X12_bit rfl rfl rfl (by decide +kernel) ⟨Nat.le_of_ble_eq_true rfl, Nat.le_of_ble_eq_true rfl⟩) (preV hK hNW ⟨th, hMW⟩ (mw_recv hK hMW)) rfl rfl hl.1 rfl (lv_room (Nat.le_of_ble_eq_true rfl)) dL_law_756 (rm_ok (by omega) (by omega))) hS (rng_ge hA) (fun y u9 H2 locs2 hq hMW hk2 hS => ?_)
  have hCW := CW_k ha hk2 (by omega) hCW
  have hOut : outP G a f1 H2 := kp hk2 hOut (dj_cons (rng_no ha (by omega)) dj_nil)
  refine lv_istore (lv' := [(6, .int y), (5, .int r), (0, .ref b), (1, .ref (a 0)), (2, .ref (a 93)), (3, .ref (a 115)), (4, .int (nI j))]) hx hb dL_law_759 hl (by decide) rfl (fun ls hl => ?_)
  refine lv_aload_n hx hb dL_law_761 rfl (lv_at hl 4 rfl) ?_
  obtain ⟨⟨cy, h0⟩, -⟩ := id hMW
  refine ro_i (va_runV (As := []) (rest := []) FX (c_X12_thrown l G a cy (nI (cBi st.1 (xs (nI j + nI 1).toNatClampNeg) (xs (nI j + nI 2).toNatClampNeg) (xs (nI j + nI 3).toNatClampNeg)))) (cwV 0 hts gL_law_X12_thrown rfl rfl rfl (by decide +kernel) ⟨Nat.le_of_ble_eq_true rfl, Nat.le_of_ble_eq_true rfl⟩) (preV hK hNW h0 (mw_recv hK hMW)) rfl rfl hl.1 rfl (lv_room (Nat.le_of_ble_eq_true rfl)) dL_law_762 (rm_ok (by omega) (by omega))) ?_
  refine lv_iload hx hb dL_law_765 (lv_at hl 1 rfl) ?_
  refine lv_icmp_eq (tgt := 772) hx hb dL_law_767 (by decide) (fun c1 => ?_) (fun c1 => absurd hp.1.symm c1)
  refine lv_iload hx hb dL_law_772 (lv_at hl 1 rfl) ?_
  have fin := fun (ls : Array Slot) (hl : lv_has ls 7 [(6, .int y), (5, .int r), (0, .ref b), (1, .ref (a 0)), (2, .ref (a 93)), (3, .ref (a 115)), (4, .int (nI j))]) => K _ (nI (cBi st.1 (xs (nI j + nI 1).toNatClampNeg) (xs (nI j + nI 2).toNatClampNeg) (xs (nI j + nI 3).toNatClampNeg))) f1 H2 locs2 ls hO hCW hMW hOut hS (lv_sub hl [2, 3, 4, 5, 6] rfl)
  refine lv_if_ne (tgt := 789) hx hb dL_law_774 (by decide) (fun c2 => ?_) (fun c2 => ?_)
  · refine lv_goto (tgt := 1612) hx hb dL_law_789 (by decide) (wid (by omega) (by omega) (fin _ hl))
  · obtain ⟨x, e1, e2⟩ := hp.2 (z_bit (st := st) (hp.1.symm.trans c2))
    have e3 := hq (z_bit (st := st) (hp.1.symm.trans c2))
    have e4 : x = y := e2.trans e3.symm
    refine lv_aload_n hx hb dL_law_777 rfl (lv_at hl 5 rfl) ?_
    refine lv_iconst (v := nI 0) hx hb dL_law_778 (by decide) ?_
    refine pp_lald hx hb hK hOut 0 rfl (vp_in_nI (by omega) (by omega)) dL_law_779 ?_
    refine lv_iload hx hb dL_law_780 (lv_at hl 0 rfl) ?_
    refine lv_i2l (v := y.toInt64) hx hb dL_law_782 rfl ?_
    refine W.lcmp hx hb dL_law_783 ?_
    refine lv_if_eq (tgt := 789) hx hb dL_law_784 (by decide) (fun c3 => ?_) (fun c3 => absurd (an_eq e1 e4) c3)
    refine lv_goto (tgt := 1612) hx hb dL_law_789 (by decide) (wid (by omega) (by omega) (fin _ hl))
theorem z_value {st : ST} {p9 x9 : Int32} (h : nI (cVa p9 x9) = nI 0) : cVa p9 x9 = 0 := by
  revert h; unfold cVa; (repeat' split) <;> intro h <;> first | rfl | exact absurd h (by decide)
set_option maxHeartbeats 4000000 in
set_option maxRecDepth 100000 in
theorem b_value {p : Program} {l : Launch} {e : Env} {s : State} {m : MethodId} {below : List Frame} {meth : Method} {c : Code} {b L : Nat} {xs : Nat → Int32} (hfl : l.stackTraces = false) {G : GG} {a : Nat → Nat} {t9 : Nat} (D0 : LC p s m meth c b L xs G a t9) (hL : L ≤ 2560) {st : ST} {th : Int32} {f0 : Nat → Int64} {j C9 S9 : Nat} (hO : OKS st) (hj : j + 4 < L) (hC9 : C9 ≤ 600000) (hS9 : S9 ≤ 7200000) {H : Heap} {locs : List Loc} {ls : Array Slot} (hS : va_S (fun q : Nat => s.heap.size ≤ q) s.heap H locs) (hCW : CW G a st H) (hMW : MW G a st th H) (hOut : outP G a f0 H) (hl : lv_has ls 7 [(0, .ref b), (1, .ref (a 0)), (2, .ref (a 93)), (3, .ref (a 115)), (4, .int (nI j))])
    (K : ∀ (st1 : ST) (th1 : Int32) (f1 : Nat → Int64) (H1 : Heap) (locs1 : List Loc) (ls1 : Array Slot), OKS st1 → CW G a st1 H1 → MW G a st1 th1 H1 → outP G a f1 H1 → va_S (fun q : Nat => s.heap.size ≤ q) s.heap H1 locs1 → lv_has ls1 7 [(0, .ref b), (1, .ref (a 0)), (2, .ref (a 93)), (3, .ref (a 115)), (4, .int (nI j))] → W p l e room_1 s m #[Value.ref b] below meth c H1 locs1 (C9 + 10) (S9 + 100) (lw_Z below #[Value.ref b] s) (F0 m 1612 ls1 [])) : W p l e room_1 s m #[Value.ref b] below meth c H locs C9 S9 (lw_Z below #[Value.ref b] s) (F0 m 792 ls []) := by
  obtain ⟨⟨hx, hb, hr, hml, hown, hts0, hX0, hbl, hlocks, hgv⟩, ha, hK, hNW, hLow, hX, hNC, hA⟩ := id D0
  have hts : ∀ w ∈ wsL_law, w.before #[Value.ref b] s = true := fun w h => hts0 w (wsL_law_in w h)
  have hbA : ¬ (fun q : Nat => s.heap.size ≤ q) b := Nat.not_le.mpr hbl
  have FX : CallFix p m c cL_law 7 s #[Value.ref b] wsL_law RL := ⟨hx, hb, hml, hown, hts⟩
  have hgC : ∀ q, orA (rng a 0 93) (rng a 115 1) q → s.heap.size ≤ q := fun q h => h.elim (rng_ge hA q) (rng_ge hA q)
  have i1 : vp_in (nI j + nI 1) L := by rw [nI_add]; exact vp_in_nI (by omega) (by omega)
  have i2 : vp_in (nI j + nI 2) L := by rw [nI_add]; exact vp_in_nI (by omega) (by omega)
  refine lv_aload_n hx hb dL_law_792 rfl (lv_at hl 1 rfl) ?_
  refine lv_aload_n hx hb dL_law_793 rfl (lv_at hl 0 rfl) ?_
  refine lv_iload hx hb dL_law_794 (lv_at hl 4 rfl) ?_
  refine lv_iconst (v := nI 1) hx hb dL_law_796 (by decide) ?_
  refine lv_iadd hx hb dL_law_797 ?_
  refine va_sld hx hb hX0 hbl hbA hS i1 dL_law_798 ?_
  refine lv_aload_n hx hb dL_law_799 rfl (lv_at hl 0 rfl) ?_
  refine lv_iload hx hb dL_law_800 (lv_at hl 4 rfl) ?_
  refine lv_iconst (v := nI 2) hx hb dL_law_802 (by decide) ?_
  refine lv_iadd hx hb dL_law_803 ?_
  refine va_sld hx hb hX0 hbl hbA hS i2 dL_law_804 ?_
  refine lv_aload_n hx hb dL_law_805 rfl (lv_at hl 3 rfl) ?_
  refine wr_i (vx_run0 (vx_runSX (As := [.ref (a 0), .int (xs (nI j + nI 1).toNatClampNeg), .int (xs (nI j + nI 2).toNatClampNeg), .ref (a 115)]) (rest := []) FX (w_value l hfl G a ha t9 st (xs (nI j + nI 1).toNatClampNeg) (xs (nI j + nI 2).toNatClampNeg) f0 hO) (vx_cwSW 4 hts gL_law_L_value rfl rfl rfl (by decide +kernel) ⟨Nat.le_of_ble_eq_true rfl, Nat.le_of_ble_eq_true rfl⟩) (preW hK hNW ⟨hCW, hOut⟩ (hLow.at hS (fun q9 h8 h9 => absurd h8 (Nat.not_lt.mpr h9))) (hX.at hS (fun q9 h8 h9 => absurd h8 (Nat.not_lt.mpr h9))) hNC) rfl rfl hl.1 rfl (lv_room (Nat.le_of_ble_eq_true rfl)) dL_law_806 (rm_ok (by omega) (by omega)))) hS hgC (fun r f1 H1 locs1 hp hB hk hS => ?_)
  obtain ⟨hCW, hOut⟩ := hB
  have hMW := MW_k ha hk (mw_no ha) hMW
  refine lv_istore (lv' := [(5, .int r), (0, .ref b), (1, .ref (a 0)), (2, .ref (a 93)), (3, .ref (a 115)), (4, .int (nI j))]) hx hb dL_law_809 hl (by decide) rfl (fun ls hl => ?_)
  refine lv_aload_n hx hb dL_law_811 rfl (lv_at hl 3 rfl) ?_
  refine lv_aload_n hx hb dL_law_812 rfl (lv_at hl 1 rfl) ?_
  refine lv_iload hx hb dL_law_813 (lv_at hl 5 rfl) ?_
  refine lv_iconst (v := nI 1) hx hb dL_law_815 (by decide) ?_
  refine lv_iadd hx hb dL_law_816 ?_
  refine va_sld hx hb hX0 hbl hbA hS i1 dL_law_817 ?_
  refine lv_aload_n hx hb dL_law_818 rfl (lv_at hl 1 rfl) ?_
  refine lv_iload hx hb dL_law_819 (lv_at hl 5 rfl) ?_
  refine lv_iconst (v := nI 2) hx hb dL_law_821 (by decide) ?_
  refine lv_iadd hx hb dL_law_822 ?_
  refine va_sld hx hb hX0 hbl hbA hS i2 dL_law_823 ?_
  refine wr_i (va_runV (As := [.int (xs (nI j + nI 1).toNatClampNeg), .int (xs (nI j + nI 2).toNatClampNeg)]) (rest := []) FX (k_X12_value l G a ha st (xs (nI j + nI 1).toNatClampNeg) (xs (nI j + nI 2).toNatClampNeg) hO) (cwV 2 hts gL_law_X12_value rfl rfl rfl (by decide +kernel) ⟨Nat.le_of_ble_eq_true rfl, Nat.le_of_ble_eq_true rfl⟩) (preV hK hNW ⟨th, hMW⟩ (mw_recv hK hMW)) rfl rfl hl.1 rfl (lv_room (Nat.le_of_ble_eq_true rfl)) dL_law_824 (rm_ok (by omega) (by omega))) hS (rng_ge hA) (fun y u9 H2 locs2 hq hMW hk2 hS => ?_)
  have hCW := CW_k ha hk2 (by omega) hCW
  have hOut : outP G a f1 H2 := kp hk2 hOut (dj_cons (rng_no ha (by omega)) dj_nil)
  refine lv_istore (lv' := [(6, .int y), (5, .int r), (0, .ref b), (1, .ref (a 0)), (2, .ref (a 93)), (3, .ref (a 115)), (4, .int (nI j))]) hx hb dL_law_827 hl (by decide) rfl (fun ls hl => ?_)
  refine lv_aload_n hx hb dL_law_829 rfl (lv_at hl 4 rfl) ?_
  obtain ⟨⟨cy, h0⟩, -⟩ := id hMW
  refine ro_i (va_runV (As := []) (rest := []) FX (c_X12_thrown l G a cy (nI (cVa (xs (nI j + nI 1).toNatClampNeg) (xs (nI j + nI 2).toNatClampNeg)))) (cwV 0 hts gL_law_X12_thrown rfl rfl rfl (by decide +kernel) ⟨Nat.le_of_ble_eq_true rfl, Nat.le_of_ble_eq_true rfl⟩) (preV hK hNW h0 (mw_recv hK hMW)) rfl rfl hl.1 rfl (lv_room (Nat.le_of_ble_eq_true rfl)) dL_law_830 (rm_ok (by omega) (by omega))) ?_
  refine lv_iload hx hb dL_law_833 (lv_at hl 1 rfl) ?_
  refine lv_icmp_eq (tgt := 840) hx hb dL_law_835 (by decide) (fun c1 => ?_) (fun c1 => absurd hp.1.symm c1)
  refine lv_iload hx hb dL_law_840 (lv_at hl 1 rfl) ?_
  have fin := fun (ls : Array Slot) (hl : lv_has ls 7 [(6, .int y), (5, .int r), (0, .ref b), (1, .ref (a 0)), (2, .ref (a 93)), (3, .ref (a 115)), (4, .int (nI j))]) => K _ (nI (cVa (xs (nI j + nI 1).toNatClampNeg) (xs (nI j + nI 2).toNatClampNeg))) f1 H2 locs2 ls hO hCW hMW hOut hS (lv_sub hl [2, 3, 4, 5, 6] rfl)
  refine lv_if_ne (tgt := 857) hx hb dL_law_842 (by decide) (fun c2 => ?_) (fun c2 => ?_)
  · refine lv_goto (tgt := 1612) hx hb dL_law_857 (by decide) (wid (by omega) (by omega) (fin _ hl))
  · obtain ⟨x, e1, e2⟩ := hp.2 (z_value (st := st) (hp.1.symm.trans c2))
    have e3 := hq (z_value (st := st) (hp.1.symm.trans c2))
    have e4 : x = y := e2.trans e3.symm
    refine lv_aload_n hx hb dL_law_845 rfl (lv_at hl 5 rfl) ?_
    refine lv_iconst (v := nI 0) hx hb dL_law_846 (by decide) ?_
    refine pp_lald hx hb hK hOut 0 rfl (vp_in_nI (by omega) (by omega)) dL_law_847 ?_
    refine lv_iload hx hb dL_law_848 (lv_at hl 0 rfl) ?_
    refine lv_i2l (v := y.toInt64) hx hb dL_law_850 rfl ?_
    refine W.lcmp hx hb dL_law_851 ?_
    refine lv_if_eq (tgt := 857) hx hb dL_law_852 (by decide) (fun c3 => ?_) (fun c3 => absurd (an_eq e1 e4) c3)
    refine lv_goto (tgt := 1612) hx hb dL_law_857 (by decide) (wid (by omega) (by omega) (fin _ hl))
