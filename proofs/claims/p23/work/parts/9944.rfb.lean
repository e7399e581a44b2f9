/-! refuses: what there is not is refused, nothing changes -/
set_option maxHeartbeats 4000000 in
set_option maxRecDepth 100000 in
theorem rf_B0 {p : Program} {l : Launch} {e : Env} {s : State} {m : MethodId} {args : Array Value} {below : List Frame} {meth : Method} {c : Code} {Q : State → Prop} {G : GG} {a : Nat → Nat} {t9 : Nat} (J : LJ p l s m meth c args cL_refuses (some .boolean) 12 wsL_refuses G a t9) {st : ST} (hO : OKS st) {bf : Int32}  (c0 s0 : Nat) (hc : c0 + 65 ≤ 1200) (hs : s0 + 390 ≤ 7200) {H : Heap} {locs : List Loc} {ls : Array Slot} (hS : va_S (rng a 0 93) s.heap H locs) (hCW : CW G a st H) (hl : lv_has ls 12 [(8, .int (nI 1)), (7, .int (-2147483648)), (6, .int (-1)), (5, .int (-1)), (4, .int (-1)), (0, .ref (a 0)), (1, .int (nI 2147483647)), (2, .int bf), (3, .int (nI 0))]) (K : ∀ (H : Heap) (locs : List Loc) (ls : Array Slot), va_S (rng a 0 93) s.heap H locs → CW G a st H → lv_has ls 12 [(9, .int (nI 0)), (8, .int (nI 1)), (7, .int (-2147483648)), (6, .int (-1)), (5, .int (-1)), (4, .int (-1)), (0, .ref (a 0)), (1, .int (nI 2147483647)), (2, .int bf), (3, .int (nI 0))] → W p l e ({ frames := 10, cells := 1200, slots := 7200, locals := 194 } : Room) s m args below meth c H locs (c0 + 65) (s0 + 390) Q (F0 m 941 ls [])) : W p l e ({ frames := 10, cells := 1200, slots := 7200, locals := 194 } : Room) s m args below meth c H locs c0 s0 Q (F0 m 592 ls []) := by
  obtain ⟨hfl, hx, hb, hr, hml, hown, hts, hlocks, ha, hK, hNW, hLow, hX, hNC⟩ := J
  have FX : CallFix p m c cL_refuses 12 s args wsL_refuses RL := ⟨hx, hb, hml, hown, hts⟩
  refine lv_bipush (v := nI 14) hx hb dL_refuses_592 (by decide) ?_
  refine lv_istore (lv' := [(9, .int (nI 14)), (8, .int (nI 1)), (7, .int (-2147483648)), (6, .int (-1)), (5, .int (-1)), (4, .int (-1)), (0, .ref (a 0)), (1, .int (nI 2147483647)), (2, .int bf), (3, .int (nI 0))]) hx hb dL_refuses_594 hl (by decide) rfl (fun ls hl => ?_)
  refine lv_iload hx hb dL_refuses_596 (lv_at hl 0 rfl) ?_
  refine lv_bipush (v := nI 16) hx hb dL_refuses_598 (by decide) ?_
  refine lv_icmp_ge (tgt := 694) hx hb dL_refuses_600 (by decide) (fun c => absurd c (by decide)) (fun _ => ?_)
  refine lv_iload hx hb dL_refuses_603 (lv_at hl 1 rfl) ?_
  refine lv_if_eq (tgt := 694) hx hb dL_refuses_605 (by decide) (fun c => absurd c (by decide)) (fun _ => ?_)
  refine lv_aload_n hx hb dL_refuses_608 rfl (lv_at hl 6 rfl) ?_
  refine lv_iload hx hb dL_refuses_609 (lv_at hl 0 rfl) ?_
  refine lv_iload hx hb dL_refuses_611 (lv_at hl 4 rfl) ?_
  refine lv_iconst (v := -1) hx hb dL_refuses_613 (by decide) ?_
  refine lv_iconst (v := nI 0) hx hb dL_refuses_614 (by decide) ?_
  refine lv_iconst (v := nI 0) hx hb dL_refuses_615 (by decide) ?_
  have hC : cCh (-1) (-1) (nI 0) (nI 0) = 1 := by decide
  refine wr_i (vx_run0 (vx_runSX (As := [.ref (a 0), .int (nI 14), .int (-1), .int (-1), .int (nI 0), .int (nI 0)]) (rest := []) FX (w_act_changes l hfl G a ha t9 st (-1) (-1) (nI 0) (nI 0) hO) (vx_cwSW 6 hts gL_refuses_L_act rfl rfl rfl (by decide +kernel) ⟨Nat.le_of_ble_eq_true rfl, Nat.le_of_ble_eq_true rfl⟩) (preW hK hNW hCW (hLow.at hS (fun q9 _ q => rng_M q9 q)) (hX.at hS (fun q9 _ q => rng_M q9 q)) hNC) rfl rfl hl.1 rfl (lv_room (Nat.le_of_ble_eq_true rfl)) dL_refuses_616 (rmx (m := 1200) (n := 7200) (by omega) (by omega)))) hS (fun q h => h) (fun r _ H locs hp hCW hk hS => ?_)
  refine lv_as (y := -7000001) (hp.2.1 hC) ?_
  have hCW : CW G a st H := hCW
  refine lv_ldc (v := -7000001) hx hb hown (hts (.constant RL 75 (-7000001)) (List.mem_of_getElem? (i := 5) (by decide +kernel))) dL_refuses_619 ?_
  refine lv_icmp_ne (tgt := 685) hx hb dL_refuses_621 (by decide) (fun c => absurd c (by decide)) (fun _ => ?_)
  refine lv_aload_n hx hb dL_refuses_624 rfl (lv_at hl 6 rfl) ?_
  refine lv_iload hx hb dL_refuses_625 (lv_at hl 0 rfl) ?_
  refine lv_iconst (v := nI 0) hx hb dL_refuses_627 (by decide) ?_
  refine lv_iload hx hb dL_refuses_628 (lv_at hl 3 rfl) ?_
  refine lv_iconst (v := nI 0) hx hb dL_refuses_630 (by decide) ?_
  refine lv_iconst (v := nI 0) hx hb dL_refuses_631 (by decide) ?_
  have hC : cCh (nI 0) (-1) (nI 0) (nI 0) = 2 := by decide
  refine wr_i (vx_run0 (vx_runSX (As := [.ref (a 0), .int (nI 14), .int (nI 0), .int (-1), .int (nI 0), .int (nI 0)]) (rest := []) FX (w_act_changes l hfl G a ha t9 st (nI 0) (-1) (nI 0) (nI 0) hO) (vx_cwSW 6 hts gL_refuses_L_act rfl rfl rfl (by decide +kernel) ⟨Nat.le_of_ble_eq_true rfl, Nat.le_of_ble_eq_true rfl⟩) (preW hK hNW hCW (hLow.at hS (fun q9 _ q => rng_M q9 q)) (hX.at hS (fun q9 _ q => rng_M q9 q)) hNC) rfl rfl hl.1 rfl (lv_room (Nat.le_of_ble_eq_true rfl)) dL_refuses_632 (rmx (m := 1200) (n := 7200) (by omega) (by omega)))) hS (fun q h => h) (fun r _ H locs hp hCW hk hS => ?_)
  refine lv_as (y := -7000002) (hp.2.2.1 hC) ?_
  have hCW : CW G a st H := hCW
  refine lv_ldc (v := -7000002) hx hb hown (hts (.constant RL 78 (-7000002)) (List.mem_of_getElem? (i := 6) (by decide +kernel))) dL_refuses_635 ?_
  refine lv_icmp_ne (tgt := 685) hx hb dL_refuses_637 (by decide) (fun c => absurd c (by decide)) (fun _ => ?_)
  refine lv_aload_n hx hb dL_refuses_640 rfl (lv_at hl 6 rfl) ?_
  refine lv_iload hx hb dL_refuses_641 (lv_at hl 0 rfl) ?_
  refine lv_iconst (v := nI 0) hx hb dL_refuses_643 (by decide) ?_
  refine lv_iconst (v := nI 0) hx hb dL_refuses_644 (by decide) ?_
  refine lv_iload hx hb dL_refuses_645 (lv_at hl 3 rfl) ?_
  refine lv_iconst (v := nI 0) hx hb dL_refuses_647 (by decide) ?_
  have hC : cCh (nI 0) (nI 0) (-1) (nI 0) = 2 := by decide
  refine wr_i (vx_run0 (vx_runSX (As := [.ref (a 0), .int (nI 14), .int (nI 0), .int (nI 0), .int (-1), .int (nI 0)]) (rest := []) FX (w_act_changes l hfl G a ha t9 st (nI 0) (nI 0) (-1) (nI 0) hO) (vx_cwSW 6 hts gL_refuses_L_act rfl rfl rfl (by decide +kernel) ⟨Nat.le_of_ble_eq_true rfl, Nat.le_of_ble_eq_true rfl⟩) (preW hK hNW hCW (hLow.at hS (fun q9 _ q => rng_M q9 q)) (hX.at hS (fun q9 _ q => rng_M q9 q)) hNC) rfl rfl hl.1 rfl (lv_room (Nat.le_of_ble_eq_true rfl)) dL_refuses_648 (rmx (m := 1200) (n := 7200) (by omega) (by omega)))) hS (fun q h => h) (fun r _ H locs hp hCW hk hS => ?_)
  refine lv_as (y := -7000002) (hp.2.2.1 hC) ?_
  have hCW : CW G a st H := hCW
  refine lv_ldc (v := -7000002) hx hb hown (hts (.constant RL 78 (-7000002)) (List.mem_of_getElem? (i := 6) (by decide +kernel))) dL_refuses_651 ?_
  refine lv_icmp_ne (tgt := 685) hx hb dL_refuses_653 (by decide) (fun c => absurd c (by decide)) (fun _ => ?_)
  refine lv_aload_n hx hb dL_refuses_656 rfl (lv_at hl 6 rfl) ?_
  refine lv_iload hx hb dL_refuses_657 (lv_at hl 0 rfl) ?_
  refine lv_iconst (v := nI 0) hx hb dL_refuses_659 (by decide) ?_
  refine lv_iconst (v := nI 0) hx hb dL_refuses_660 (by decide) ?_
  refine lv_iconst (v := nI 0) hx hb dL_refuses_661 (by decide) ?_
  refine lv_iload_n hx hb dL_refuses_662 rfl (lv_at hl 9 rfl) ?_
  refine lv_iconst (v := nI 1) hx hb dL_refuses_663 (by decide) ?_
  refine lv_icmp_ne (tgt := 671) hx hb dL_refuses_664 (by decide) (fun _ => ?_) (fun c => absurd c (by decide))
  refine lv_iload hx hb dL_refuses_671 (lv_at hl 5 rfl) ?_
  have hC : cCh (nI 0) (nI 0) (nI 0) (-1) = 2 := by decide
  refine wr_i (vx_run0 (vx_runSX (As := [.ref (a 0), .int (nI 14), .int (nI 0), .int (nI 0), .int (nI 0), .int (-1)]) (rest := []) FX (w_act_changes l hfl G a ha t9 st (nI 0) (nI 0) (nI 0) (-1) hO) (vx_cwSW 6 hts gL_refuses_L_act rfl rfl rfl (by decide +kernel) ⟨Nat.le_of_ble_eq_true rfl, Nat.le_of_ble_eq_true rfl⟩) (preW hK hNW hCW (hLow.at hS (fun q9 _ q => rng_M q9 q)) (hX.at hS (fun q9 _ q => rng_M q9 q)) hNC) rfl rfl hl.1 rfl (lv_room (Nat.le_of_ble_eq_true rfl)) dL_refuses_673 (rmx (m := 1200) (n := 7200) (by omega) (by omega)))) hS (fun q h => h) (fun r _ H locs hp hCW hk hS => ?_)
  refine lv_as (y := -7000002) (hp.2.2.1 hC) ?_
  have hCW : CW G a st H := hCW
  refine lv_ldc (v := -7000002) hx hb hown (hts (.constant RL 78 (-7000002)) (List.mem_of_getElem? (i := 6) (by decide +kernel))) dL_refuses_676 ?_
  refine lv_icmp_ne (tgt := 685) hx hb dL_refuses_678 (by decide) (fun c => absurd c (by decide)) (fun _ => ?_)
  refine lv_iconst (v := nI 1) hx hb dL_refuses_681 (by decide) ?_
  refine lv_goto (tgt := 686) hx hb dL_refuses_682 (by decide) ?_
  refine lv_istore (lv' := [(8, .int (nI 1)), (9, .int (nI 14)), (7, .int (-2147483648)), (6, .int (-1)), (5, .int (-1)), (4, .int (-1)), (0, .ref (a 0)), (1, .int (nI 2147483647)), (2, .int bf), (3, .int (nI 0))]) hx hb dL_refuses_686 hl (by decide) rfl (fun ls hl => ?_)
  refine lv_iinc (v := nI 15) (lv' := [(9, .int (nI 15)), (8, .int (nI 1)), (7, .int (-2147483648)), (6, .int (-1)), (5, .int (-1)), (4, .int (-1)), (0, .ref (a 0)), (1, .int (nI 2147483647)), (2, .int bf), (3, .int (nI 0))]) hx hb dL_refuses_688 hl (k := 1) rfl (by decide) (by decide) rfl (fun ls hl => ?_)
  refine lv_goto (tgt := 596) hx hb dL_refuses_691 (by decide) ?_
  refine lv_iload hx hb dL_refuses_596 (lv_at hl 0 rfl) ?_
  refine lv_bipush (v := nI 16) hx hb dL_refuses_598 (by decide) ?_
  refine lv_icmp_ge (tgt := 694) hx hb dL_refuses_600 (by decide) (fun c => absurd c (by decide)) (fun _ => ?_)
  refine lv_iload hx hb dL_refuses_603 (lv_at hl 1 rfl) ?_
  refine lv_if_eq (tgt := 694) hx hb dL_refuses_605 (by decide) (fun c => absurd c (by decide)) (fun _ => ?_)
  refine lv_aload_n hx hb dL_refuses_608 rfl (lv_at hl 6 rfl) ?_
  refine lv_iload hx hb dL_refuses_609 (lv_at hl 0 rfl) ?_
  refine lv_iload hx hb dL_refuses_611 (lv_at hl 4 rfl) ?_
  refine lv_iconst (v := -1) hx hb dL_refuses_613 (by decide) ?_
  refine lv_iconst (v := nI 0) hx hb dL_refuses_614 (by decide) ?_
  refine lv_iconst (v := nI 0) hx hb dL_refuses_615 (by decide) ?_
  have hC : cCh (-1) (-1) (nI 0) (nI 0) = 1 := by decide
  refine wr_i (vx_run0 (vx_runSX (As := [.ref (a 0), .int (nI 15), .int (-1), .int (-1), .int (nI 0), .int (nI 0)]) (rest := []) FX (w_act_changesAnew l hfl G a ha t9 st (-1) (-1) (nI 0) (nI 0) hO) (vx_cwSW 6 hts gL_refuses_L_act rfl rfl rfl (by decide +kernel) ⟨Nat.le_of_ble_eq_true rfl, Nat.le_of_ble_eq_true rfl⟩) (preW hK hNW hCW (hLow.at hS (fun q9 _ q => rng_M q9 q)) (hX.at hS (fun q9 _ q => rng_M q9 q)) hNC) rfl rfl hl.1 rfl (lv_room (Nat.le_of_ble_eq_true rfl)) dL_refuses_616 (rmx (m := 1200) (n := 7200) (by omega) (by omega)))) hS (fun q h => h) (fun r _ H locs hp hCW hk hS => ?_)
  refine lv_as (y := -7000001) (hp.2.1 hC) ?_
  have hCW : CW G a st H := hCW
  refine lv_ldc (v := -7000001) hx hb hown (hts (.constant RL 75 (-7000001)) (List.mem_of_getElem? (i := 5) (by decide +kernel))) dL_refuses_619 ?_
  refine lv_icmp_ne (tgt := 685) hx hb dL_refuses_621 (by decide) (fun c => absurd c (by decide)) (fun _ => ?_)
  refine lv_aload_n hx hb dL_refuses_624 rfl (lv_at hl 6 rfl) ?_
  refine lv_iload hx hb dL_refuses_625 (lv_at hl 0 rfl) ?_
  refine lv_iconst (v := nI 0) hx hb dL_refuses_627 (by decide) ?_
  refine lv_iload hx hb dL_refuses_628 (lv_at hl 3 rfl) ?_
  refine lv_iconst (v := nI 0) hx hb dL_refuses_630 (by decide) ?_
  refine lv_iconst (v := nI 0) hx hb dL_refuses_631 (by decide) ?_
  have hC : cCh (nI 0) (-1) (nI 0) (nI 0) = 2 := by decide
  refine wr_i (vx_run0 (vx_runSX (As := [.ref (a 0), .int (nI 15), .int (nI 0), .int (-1), .int (nI 0), .int (nI 0)]) (rest := []) FX (w_act_changesAnew l hfl G a ha t9 st (nI 0) (-1) (nI 0) (nI 0) hO) (vx_cwSW 6 hts gL_refuses_L_act rfl rfl rfl (by decide +kernel) ⟨Nat.le_of_ble_eq_true rfl, Nat.le_of_ble_eq_true rfl⟩) (preW hK hNW hCW (hLow.at hS (fun q9 _ q => rng_M q9 q)) (hX.at hS (fun q9 _ q => rng_M q9 q)) hNC) rfl rfl hl.1 rfl (lv_room (Nat.le_of_ble_eq_true rfl)) dL_refuses_632 (rmx (m := 1200) (n := 7200) (by omega) (by omega)))) hS (fun q h => h) (fun r _ H locs hp hCW hk hS => ?_)
  refine lv_as (y := -7000002) (hp.2.2.1 hC) ?_
  have hCW : CW G a st H := hCW
  refine lv_ldc (v := -7000002) hx hb hown (hts (.constant RL 78 (-7000002)) (List.mem_of_getElem? (i := 6) (by decide +kernel))) dL_refuses_635 ?_
  refine lv_icmp_ne (tgt := 685) hx hb dL_refuses_637 (by decide) (fun c => absurd c (by decide)) (fun _ => ?_)
  refine lv_aload_n hx hb dL_refuses_640 rfl (lv_at hl 6 rfl) ?_
  refine lv_iload hx hb dL_refuses_641 (lv_at hl 0 rfl) ?_
  refine lv_iconst (v := nI 0) hx hb dL_refuses_643 (by decide) ?_
  refine lv_iconst (v := nI 0) hx hb dL_refuses_644 (by decide) ?_
  refine lv_iload hx hb dL_refuses_645 (lv_at hl 3 rfl) ?_
  refine lv_iconst (v := nI 0) hx hb dL_refuses_647 (by decide) ?_
  have hC : cCh (nI 0) (nI 0) (-1) (nI 0) = 2 := by decide
  refine wr_i (vx_run0 (vx_runSX (As := [.ref (a 0), .int (nI 15), .int (nI 0), .int (nI 0), .int (-1), .int (nI 0)]) (rest := []) FX (w_act_changesAnew l hfl G a ha t9 st (nI 0) (nI 0) (-1) (nI 0) hO) (vx_cwSW 6 hts gL_refuses_L_act rfl rfl rfl (by decide +kernel) ⟨Nat.le_of_ble_eq_true rfl, Nat.le_of_ble_eq_true rfl⟩) (preW hK hNW hCW (hLow.at hS (fun q9 _ q => rng_M q9 q)) (hX.at hS (fun q9 _ q => rng_M q9 q)) hNC) rfl rfl hl.1 rfl (lv_room (Nat.le_of_ble_eq_true rfl)) dL_refuses_648 (rmx (m := 1200) (n := 7200) (by omega) (by omega)))) hS (fun q h => h) (fun r _ H locs hp hCW hk hS => ?_)
  refine lv_as (y := -7000002) (hp.2.2.1 hC) ?_
  have hCW : CW G a st H := hCW
  refine lv_ldc (v := -7000002) hx hb hown (hts (.constant RL 78 (-7000002)) (List.mem_of_getElem? (i := 6) (by decide +kernel))) dL_refuses_651 ?_
  refine lv_icmp_ne (tgt := 685) hx hb dL_refuses_653 (by decide) (fun c => absurd c (by decide)) (fun _ => ?_)
  refine lv_aload_n hx hb dL_refuses_656 rfl (lv_at hl 6 rfl) ?_
  refine lv_iload hx hb dL_refuses_657 (lv_at hl 0 rfl) ?_
  refine lv_iconst (v := nI 0) hx hb dL_refuses_659 (by decide) ?_
  refine lv_iconst (v := nI 0) hx hb dL_refuses_660 (by decide) ?_
  refine lv_iconst (v := nI 0) hx hb dL_refuses_661 (by decide) ?_
  refine lv_iload_n hx hb dL_refuses_662 rfl (lv_at hl 9 rfl) ?_
  refine lv_iconst (v := nI 1) hx hb dL_refuses_663 (by decide) ?_
  refine lv_icmp_ne (tgt := 671) hx hb dL_refuses_664 (by decide) (fun _ => ?_) (fun c => absurd c (by decide))
  refine lv_iload hx hb dL_refuses_671 (lv_at hl 5 rfl) ?_
  have hC : cCh (nI 0) (nI 0) (nI 0) (-1) = 2 := by decide
  refine wr_i (vx_run0 (vx_runSX (As := [.ref (a 0), .int (nI 15), .int (nI 0), .int (nI 0), .int (nI 0), .int (-1)]) (rest := []) FX (w_act_changesAnew l hfl G a ha t9 st (nI 0) (nI 0) (nI 0) (-1) hO) (vx_cwSW 6 hts gL_refuses_L_act rfl rfl rfl (by decide +kernel) ⟨Nat.le_of_ble_eq_true rfl, Nat.le_of_ble_eq_true rfl⟩) (preW hK hNW hCW (hLow.at hS (fun q9 _ q => rng_M q9 q)) (hX.at hS (fun q9 _ q => rng_M q9 q)) hNC) rfl rfl hl.1 rfl (lv_room (Nat.le_of_ble_eq_true rfl)) dL_refuses_673 (rmx (m := 1200) (n := 7200) (by omega) (by omega)))) hS (fun q h => h) (fun r _ H locs hp hCW hk hS => ?_)
  refine lv_as (y := -7000002) (hp.2.2.1 hC) ?_
  have hCW : CW G a st H := hCW
  refine lv_ldc (v := -7000002) hx hb hown (hts (.constant RL 78 (-7000002)) (List.mem_of_getElem? (i := 6) (by decide +kernel))) dL_refuses_676 ?_
  refine lv_icmp_ne (tgt := 685) hx hb dL_refuses_678 (by decide) (fun c => absurd c (by decide)) (fun _ => ?_)
  refine lv_iconst (v := nI 1) hx hb dL_refuses_681 (by decide) ?_
  refine lv_goto (tgt := 686) hx hb dL_refuses_682 (by decide) ?_
  refine lv_istore (lv' := [(8, .int (nI 1)), (9, .int (nI 15)), (7, .int (-2147483648)), (6, .int (-1)), (5, .int (-1)), (4, .int (-1)), (0, .ref (a 0)), (1, .int (nI 2147483647)), (2, .int bf), (3, .int (nI 0))]) hx hb dL_refuses_686 hl (by decide) rfl (fun ls hl => ?_)
  refine lv_iinc (v := nI 16) (lv' := [(9, .int (nI 16)), (8, .int (nI 1)), (7, .int (-2147483648)), (6, .int (-1)), (5, .int (-1)), (4, .int (-1)), (0, .ref (a 0)), (1, .int (nI 2147483647)), (2, .int bf), (3, .int (nI 0))]) hx hb dL_refuses_688 hl (k := 1) rfl (by decide) (by decide) rfl (fun ls hl => ?_)
  refine lv_goto (tgt := 596) hx hb dL_refuses_691 (by decide) ?_
  refine lv_iload hx hb dL_refuses_596 (lv_at hl 0 rfl) ?_
  refine lv_bipush (v := nI 16) hx hb dL_refuses_598 (by decide) ?_
  refine lv_icmp_ge (tgt := 694) hx hb dL_refuses_600 (by decide) (fun _ => ?_) (fun c => absurd c (by decide))
  refine lv_iload hx hb dL_refuses_694 (lv_at hl 1 rfl) ?_
  refine lv_if_eq (tgt := 935) hx hb dL_refuses_696 (by decide) (fun c => absurd c (by decide)) (fun _ => ?_)
  refine lv_aload_n hx hb dL_refuses_699 rfl (lv_at hl 6 rfl) ?_
  refine lv_bipush (v := nI 16) hx hb dL_refuses_700 (by decide) ?_
  refine lv_iload hx hb dL_refuses_702 (lv_at hl 4 rfl) ?_
  refine lv_bipush (v := nI 9) hx hb dL_refuses_704 (by decide) ?_
  refine lv_bipush (v := nI 9) hx hb dL_refuses_706 (by decide) ?_
  refine lv_iconst (v := nI 0) hx hb dL_refuses_708 (by decide) ?_
  have hC : cOff st.1 (-1) (nI 9) (nI 9) = 1 := rc_of (by decide)
  refine wr_i (vx_run0 (vx_runSX (As := [.ref (a 0), .int (nI 16), .int (-1), .int (nI 9), .int (nI 9), .int (nI 0)]) (rest := []) FX (w_act_off l hfl G a ha t9 st (-1) (nI 9) (nI 9) (nI 0) hO) (vx_cwSW 6 hts gL_refuses_L_act rfl rfl rfl (by decide +kernel) ⟨Nat.le_of_ble_eq_true rfl, Nat.le_of_ble_eq_true rfl⟩) (preW hK hNW hCW (hLow.at hS (fun q9 _ q => rng_M q9 q)) (hX.at hS (fun q9 _ q => rng_M q9 q)) hNC) rfl rfl hl.1 rfl (lv_room (Nat.le_of_ble_eq_true rfl)) dL_refuses_709 (rmx (m := 1200) (n := 7200) (by omega) (by omega)))) hS (fun q h => h) (fun r _ H locs hp hCW hk hS => ?_)
  refine lv_as (y := -7000001) (hp.2.1 hC) ?_
  have hCW : CW G a st H := hCW
  refine lv_ldc (v := -7000001) hx hb hown (hts (.constant RL 75 (-7000001)) (List.mem_of_getElem? (i := 5) (by decide +kernel))) dL_refuses_712 ?_
  refine lv_icmp_ne (tgt := 935) hx hb dL_refuses_714 (by decide) (fun c => absurd c (by decide)) (fun _ => ?_)
  refine lv_aload_n hx hb dL_refuses_717 rfl (lv_at hl 6 rfl) ?_
  refine lv_bipush (v := nI 16) hx hb dL_refuses_718 (by decide) ?_
  refine lv_iconst (v := nI 0) hx hb dL_refuses_720 (by decide) ?_
  refine lv_iload_n hx hb dL_refuses_721 rfl (lv_at hl 9 rfl) ?_
  refine lv_iconst (v := nI 1) hx hb dL_refuses_722 (by decide) ?_
  refine lv_icmp_ne (tgt := 730) hx hb dL_refuses_723 (by decide) (fun _ => ?_) (fun c => absurd c (by decide))
  refine lv_iload hx hb dL_refuses_730 (lv_at hl 5 rfl) ?_
  refine lv_iconst (v := nI 0) hx hb dL_refuses_732 (by decide) ?_
  refine lv_iconst (v := nI 0) hx hb dL_refuses_733 (by decide) ?_
  have hC : cOff st.1 (nI 0) (-1) (nI 0) = 2 := rc_oo (by decide) (by decide)
  refine wr_i (vx_run0 (vx_runSX (As := [.ref (a 0), .int (nI 16), .int (nI 0), .int (-1), .int (nI 0), .int (nI 0)]) (rest := []) FX (w_act_off l hfl G a ha t9 st (nI 0) (-1) (nI 0) (nI 0) hO) (vx_cwSW 6 hts gL_refuses_L_act rfl rfl rfl (by decide +kernel) ⟨Nat.le_of_ble_eq_true rfl, Nat.le_of_ble_eq_true rfl⟩) (preW hK hNW hCW (hLow.at hS (fun q9 _ q => rng_M q9 q)) (hX.at hS (fun q9 _ q => rng_M q9 q)) hNC) rfl rfl hl.1 rfl (lv_room (Nat.le_of_ble_eq_true rfl)) dL_refuses_734 (rmx (m := 1200) (n := 7200) (by omega) (by omega)))) hS (fun q h => h) (fun r _ H locs hp hCW hk hS => ?_)
  refine lv_as (y := -7000002) (hp.2.2.1 hC) ?_
  have hCW : CW G a st H := hCW
  refine lv_ldc (v := -7000002) hx hb hown (hts (.constant RL 78 (-7000002)) (List.mem_of_getElem? (i := 6) (by decide +kernel))) dL_refuses_737 ?_
  refine lv_icmp_ne (tgt := 935) hx hb dL_refuses_739 (by decide) (fun c => absurd c (by decide)) (fun _ => ?_)
  refine lv_aload_n hx hb dL_refuses_742 rfl (lv_at hl 6 rfl) ?_
  refine lv_bipush (v := nI 16) hx hb dL_refuses_743 (by decide) ?_
  refine lv_iconst (v := nI 0) hx hb dL_refuses_745 (by decide) ?_
  refine lv_iconst (v := nI 0) hx hb dL_refuses_746 (by decide) ?_
  refine lv_iload_n hx hb dL_refuses_747 rfl (lv_at hl 9 rfl) ?_
  refine lv_iconst (v := nI 1) hx hb dL_refuses_748 (by decide) ?_
  refine lv_icmp_ne (tgt := 756) hx hb dL_refuses_749 (by decide) (fun _ => ?_) (fun c => absurd c (by decide))
  refine lv_iload hx hb dL_refuses_756 (lv_at hl 5 rfl) ?_
  refine lv_iconst (v := nI 0) hx hb dL_refuses_758 (by decide) ?_
  have hC : cOff st.1 (nI 0) (nI 0) (-1) = 2 := rc_ow (by decide) (by decide)
  refine wr_i (vx_run0 (vx_runSX (As := [.ref (a 0), .int (nI 16), .int (nI 0), .int (nI 0), .int (-1), .int (nI 0)]) (rest := []) FX (w_act_off l hfl G a ha t9 st (nI 0) (nI 0) (-1) (nI 0) hO) (vx_cwSW 6 hts gL_refuses_L_act rfl rfl rfl (by decide +kernel) ⟨Nat.le_of_ble_eq_true rfl, Nat.le_of_ble_eq_true rfl⟩) (preW hK hNW hCW (hLow.at hS (fun q9 _ q => rng_M q9 q)) (hX.at hS (fun q9 _ q => rng_M q9 q)) hNC) rfl rfl hl.1 rfl (lv_room (Nat.le_of_ble_eq_true rfl)) dL_refuses_759 (rmx (m := 1200) (n := 7200) (by omega) (by omega)))) hS (fun q h => h) (fun r _ H locs hp hCW hk hS => ?_)
  refine lv_as (y := -7000002) (hp.2.2.1 hC) ?_
  have hCW : CW G a st H := hCW
  refine lv_ldc (v := -7000002) hx hb hown (hts (.constant RL 78 (-7000002)) (List.mem_of_getElem? (i := 6) (by decide +kernel))) dL_refuses_762 ?_
  refine lv_icmp_ne (tgt := 935) hx hb dL_refuses_764 (by decide) (fun c => absurd c (by decide)) (fun _ => ?_)
  refine lv_aload_n hx hb dL_refuses_767 rfl (lv_at hl 6 rfl) ?_
  refine lv_bipush (v := nI 17) hx hb dL_refuses_768 (by decide) ?_
  refine lv_iload hx hb dL_refuses_770 (lv_at hl 4 rfl) ?_
  refine lv_iconst (v := nI 0) hx hb dL_refuses_772 (by decide) ?_
  refine lv_iconst (v := nI 0) hx hb dL_refuses_773 (by decide) ?_
  refine lv_iconst (v := nI 0) hx hb dL_refuses_774 (by decide) ?_
  have hC : cUns st.1 (-1) (nI 0) (nI 0) = 1 := rc_un (by decide)
  refine wr_i (vx_run0 (vx_runSX (As := [.ref (a 0), .int (nI 17), .int (-1), .int (nI 0), .int (nI 0), .int (nI 0)]) (rest := []) FX (w_act_unseen l hfl G a ha t9 st (-1) (nI 0) (nI 0) (nI 0) hO) (vx_cwSW 6 hts gL_refuses_L_act rfl rfl rfl (by decide +kernel) ⟨Nat.le_of_ble_eq_true rfl, Nat.le_of_ble_eq_true rfl⟩) (preW hK hNW hCW (hLow.at hS (fun q9 _ q => rng_M q9 q)) (hX.at hS (fun q9 _ q => rng_M q9 q)) hNC) rfl rfl hl.1 rfl (lv_room (Nat.le_of_ble_eq_true rfl)) dL_refuses_775 (rmx (m := 1200) (n := 7200) (by omega) (by omega)))) hS (fun q h => h) (fun r _ H locs hp hCW hk hS => ?_)
  refine lv_as (y := -7000001) (hp.2.1 hC) ?_
  have hCW : CW G a st H := hCW
  refine lv_ldc (v := -7000001) hx hb hown (hts (.constant RL 75 (-7000001)) (List.mem_of_getElem? (i := 5) (by decide +kernel))) dL_refuses_778 ?_
  refine lv_icmp_ne (tgt := 935) hx hb dL_refuses_780 (by decide) (fun c => absurd c (by decide)) (fun _ => ?_)
  refine lv_aload_n hx hb dL_refuses_783 rfl (lv_at hl 6 rfl) ?_
  refine lv_bipush (v := nI 17) hx hb dL_refuses_784 (by decide) ?_
  refine lv_iconst (v := nI 0) hx hb dL_refuses_786 (by decide) ?_
  refine lv_iload_n hx hb dL_refuses_787 rfl (lv_at hl 9 rfl) ?_
  refine lv_iconst (v := nI 1) hx hb dL_refuses_788 (by decide) ?_
  refine lv_icmp_ne (tgt := 796) hx hb dL_refuses_789 (by decide) (fun _ => ?_) (fun c => absurd c (by decide))
  refine lv_iload hx hb dL_refuses_796 (lv_at hl 5 rfl) ?_
  refine lv_iconst (v := nI 5) hx hb dL_refuses_798 (by decide) ?_
  refine lv_iconst (v := nI 0) hx hb dL_refuses_799 (by decide) ?_
  have hC : cUns st.1 (nI 0) (-1) (nI 5) = 2 := rc_uo (by decide) (by decide)
  refine wr_i (vx_run0 (vx_runSX (As := [.ref (a 0), .int (nI 17), .int (nI 0), .int (-1), .int (nI 5), .int (nI 0)]) (rest := []) FX (w_act_unseen l hfl G a ha t9 st (nI 0) (-1) (nI 5) (nI 0) hO) (vx_cwSW 6 hts gL_refuses_L_act rfl rfl rfl (by decide +kernel) ⟨Nat.le_of_ble_eq_true rfl, Nat.le_of_ble_eq_true rfl⟩) (preW hK hNW hCW (hLow.at hS (fun q9 _ q => rng_M q9 q)) (hX.at hS (fun q9 _ q => rng_M q9 q)) hNC) rfl rfl hl.1 rfl (lv_room (Nat.le_of_ble_eq_true rfl)) dL_refuses_800 (rmx (m := 1200) (n := 7200) (by omega) (by omega)))) hS (fun q h => h) (fun r _ H locs hp hCW hk hS => ?_)
  refine lv_as (y := -7000002) (hp.2.2.1 hC) ?_
  have hCW : CW G a st H := hCW
  refine lv_ldc (v := -7000002) hx hb hown (hts (.constant RL 78 (-7000002)) (List.mem_of_getElem? (i := 6) (by decide +kernel))) dL_refuses_803 ?_
  refine lv_icmp_ne (tgt := 935) hx hb dL_refuses_805 (by decide) (fun c => absurd c (by decide)) (fun _ => ?_)
  refine lv_aload_n hx hb dL_refuses_808 rfl (lv_at hl 6 rfl) ?_
  refine lv_bipush (v := nI 17) hx hb dL_refuses_809 (by decide) ?_
  refine lv_iconst (v := nI 0) hx hb dL_refuses_811 (by decide) ?_
  refine lv_iconst (v := nI 0) hx hb dL_refuses_812 (by decide) ?_
  refine lv_iload_n hx hb dL_refuses_813 rfl (lv_at hl 9 rfl) ?_
  refine lv_if_ne (tgt := 821) hx hb dL_refuses_814 (by decide) (fun c => absurd c (by decide)) (fun _ => ?_)
  refine lv_iconst (v := nI 1) hx hb dL_refuses_817 (by decide) ?_
  refine lv_goto (tgt := 833) hx hb dL_refuses_818 (by decide) ?_
  refine lv_iconst (v := nI 0) hx hb dL_refuses_833 (by decide) ?_
  have hC : cUns st.1 (nI 0) (nI 0) (nI 1) = 2 := rc_uw (by decide) (by decide)
  refine wr_i (vx_run0 (vx_runSX (As := [.ref (a 0), .int (nI 17), .int (nI 0), .int (nI 0), .int (nI 1), .int (nI 0)]) (rest := []) FX (w_act_unseen l hfl G a ha t9 st (nI 0) (nI 0) (nI 1) (nI 0) hO) (vx_cwSW 6 hts gL_refuses_L_act rfl rfl rfl (by decide +kernel) ⟨Nat.le_of_ble_eq_true rfl, Nat.le_of_ble_eq_true rfl⟩) (preW hK hNW hCW (hLow.at hS (fun q9 _ q => rng_M q9 q)) (hX.at hS (fun q9 _ q => rng_M q9 q)) hNC) rfl rfl hl.1 rfl (lv_room (Nat.le_of_ble_eq_true rfl)) dL_refuses_834 (rmx (m := 1200) (n := 7200) (by omega) (by omega)))) hS (fun q h => h) (fun r _ H locs hp hCW hk hS => ?_)
  refine lv_as (y := -7000002) (hp.2.2.1 hC) ?_
  have hCW : CW G a st H := hCW
  refine lv_ldc (v := -7000002) hx hb hown (hts (.constant RL 78 (-7000002)) (List.mem_of_getElem? (i := 6) (by decide +kernel))) dL_refuses_837 ?_
  refine lv_icmp_ne (tgt := 935) hx hb dL_refuses_839 (by decide) (fun c => absurd c (by decide)) (fun _ => ?_)
  refine lv_aload_n hx hb dL_refuses_842 rfl (lv_at hl 6 rfl) ?_
  refine lv_bipush (v := nI 18) hx hb dL_refuses_843 (by decide) ?_
  refine lv_iload hx hb dL_refuses_845 (lv_at hl 4 rfl) ?_
  refine lv_iconst (v := nI 0) hx hb dL_refuses_847 (by decide) ?_
  refine lv_iconst (v := nI 0) hx hb dL_refuses_848 (by decide) ?_
  refine lv_iconst (v := nI 0) hx hb dL_refuses_849 (by decide) ?_
  have hC : cUn st.1 (-1) (nI 0) = 1 := rc_ul (by decide)
  refine wr_i (vx_run0 (vx_runSX (As := [.ref (a 0), .int (nI 18), .int (-1), .int (nI 0), .int (nI 0), .int (nI 0)]) (rest := []) FX (w_act_unlike l hfl G a ha t9 st (-1) (nI 0) (nI 0) (nI 0) hO) (vx_cwSW 6 hts gL_refuses_L_act rfl rfl rfl (by decide +kernel) ⟨Nat.le_of_ble_eq_true rfl, Nat.le_of_ble_eq_true rfl⟩) (preW hK hNW hCW (hLow.at hS (fun q9 _ q => rng_M q9 q)) (hX.at hS (fun q9 _ q => rng_M q9 q)) hNC) rfl rfl hl.1 rfl (lv_room (Nat.le_of_ble_eq_true rfl)) dL_refuses_850 (rmx (m := 1200) (n := 7200) (by omega) (by omega)))) hS (fun q h => h) (fun r _ H locs hp hCW hk hS => ?_)
  refine lv_as (y := -7000001) (hp.2.1 hC) ?_
  have hCW : CW G a st H := hCW
  refine lv_ldc (v := -7000001) hx hb hown (hts (.constant RL 75 (-7000001)) (List.mem_of_getElem? (i := 5) (by decide +kernel))) dL_refuses_853 ?_
  refine lv_icmp_ne (tgt := 935) hx hb dL_refuses_855 (by decide) (fun c => absurd c (by decide)) (fun _ => ?_)
  refine lv_aload_n hx hb dL_refuses_858 rfl (lv_at hl 6 rfl) ?_
  refine lv_bipush (v := nI 18) hx hb dL_refuses_859 (by decide) ?_
  refine lv_iconst (v := nI 0) hx hb dL_refuses_861 (by decide) ?_
  refine lv_iload hx hb dL_refuses_862 (lv_at hl 4 rfl) ?_
  refine lv_iconst (v := nI 0) hx hb dL_refuses_864 (by decide) ?_
  refine lv_iconst (v := nI 0) hx hb dL_refuses_865 (by decide) ?_
  have hC : cUn st.1 (nI 0) (-1) = 1 := rc_uv (by decide)
  refine wr_i (vx_run0 (vx_runSX (As := [.ref (a 0), .int (nI 18), .int (nI 0), .int (-1), .int (nI 0), .int (nI 0)]) (rest := []) FX (w_act_unlike l hfl G a ha t9 st (nI 0) (-1) (nI 0) (nI 0) hO) (vx_cwSW 6 hts gL_refuses_L_act rfl rfl rfl (by decide +kernel) ⟨Nat.le_of_ble_eq_true rfl, Nat.le_of_ble_eq_true rfl⟩) (preW hK hNW hCW (hLow.at hS (fun q9 _ q => rng_M q9 q)) (hX.at hS (fun q9 _ q => rng_M q9 q)) hNC) rfl rfl hl.1 rfl (lv_room (Nat.le_of_ble_eq_true rfl)) dL_refuses_866 (rmx (m := 1200) (n := 7200) (by omega) (by omega)))) hS (fun q h => h) (fun r _ H locs hp hCW hk hS => ?_)
  refine lv_as (y := -7000001) (hp.2.1 hC) ?_
  have hCW : CW G a st H := hCW
  refine lv_ldc (v := -7000001) hx hb hown (hts (.constant RL 75 (-7000001)) (List.mem_of_getElem? (i := 5) (by decide +kernel))) dL_refuses_869 ?_
  refine lv_icmp_ne (tgt := 935) hx hb dL_refuses_871 (by decide) (fun c => absurd c (by decide)) (fun _ => ?_)
  refine lv_aload_n hx hb dL_refuses_874 rfl (lv_at hl 6 rfl) ?_
  refine lv_bipush (v := nI 19) hx hb dL_refuses_875 (by decide) ?_
  refine lv_iconst (v := nI 0) hx hb dL_refuses_877 (by decide) ?_
  refine lv_iload_n hx hb dL_refuses_878 rfl (lv_at hl 9 rfl) ?_
  refine lv_iconst (v := nI 1) hx hb dL_refuses_879 (by decide) ?_
  refine lv_icmp_ne (tgt := 888) hx hb dL_refuses_880 (by decide) (fun _ => ?_) (fun c => absurd c (by decide))
  refine lv_iload hx hb dL_refuses_888 (lv_at hl 5 rfl) ?_
  refine lv_iconst (v := nI 0) hx hb dL_refuses_890 (by decide) ?_
  refine lv_iconst (v := nI 0) hx hb dL_refuses_891 (by decide) ?_
  have hC : cDi (nI 0) (-1) = 1 := by decide
  refine wr_i (vx_run0 (vx_runSX (As := [.ref (a 0), .int (nI 19), .int (nI 0), .int (-1), .int (nI 0), .int (nI 0)]) (rest := []) FX (w_act_digit l hfl G a ha t9 st (nI 0) (-1) (nI 0) (nI 0) hO) (vx_cwSW 6 hts gL_refuses_L_act rfl rfl rfl (by decide +kernel) ⟨Nat.le_of_ble_eq_true rfl, Nat.le_of_ble_eq_true rfl⟩) (preW hK hNW hCW (hLow.at hS (fun q9 _ q => rng_M q9 q)) (hX.at hS (fun q9 _ q => rng_M q9 q)) hNC) rfl rfl hl.1 rfl (lv_room (Nat.le_of_ble_eq_true rfl)) dL_refuses_892 (rmx (m := 1200) (n := 7200) (by omega) (by omega)))) hS (fun q h => h) (fun r _ H locs hp hCW hk hS => ?_)
  refine lv_as (y := -7000001) (hp.2.1 hC) ?_
  have hCW : CW G a st H := hCW
  refine lv_ldc (v := -7000001) hx hb hown (hts (.constant RL 75 (-7000001)) (List.mem_of_getElem? (i := 5) (by decide +kernel))) dL_refuses_895 ?_
  refine lv_icmp_ne (tgt := 935) hx hb dL_refuses_897 (by decide) (fun c => absurd c (by decide)) (fun _ => ?_)
  refine lv_aload_n hx hb dL_refuses_900 rfl (lv_at hl 6 rfl) ?_
  refine lv_bipush (v := nI 19) hx hb dL_refuses_901 (by decide) ?_
  refine lv_iload hx hb dL_refuses_903 (lv_at hl 2 rfl) ?_
  refine lv_iconst (v := nI 0) hx hb dL_refuses_905 (by decide) ?_
  refine lv_iconst (v := nI 0) hx hb dL_refuses_906 (by decide) ?_
  refine lv_iconst (v := nI 0) hx hb dL_refuses_907 (by decide) ?_
  have hC : cDi (-2147483648) (nI 0) = 2 := by decide
  refine wr_i (vx_run0 (vx_runSX (As := [.ref (a 0), .int (nI 19), .int (-2147483648), .int (nI 0), .int (nI 0), .int (nI 0)]) (rest := []) FX (w_act_digit l hfl G a ha t9 st (-2147483648) (nI 0) (nI 0) (nI 0) hO) (vx_cwSW 6 hts gL_refuses_L_act rfl rfl rfl (by decide +kernel) ⟨Nat.le_of_ble_eq_true rfl, Nat.le_of_ble_eq_true rfl⟩) (preW hK hNW hCW (hLow.at hS (fun q9 _ q => rng_M q9 q)) (hX.at hS (fun q9 _ q => rng_M q9 q)) hNC) rfl rfl hl.1 rfl (lv_room (Nat.le_of_ble_eq_true rfl)) dL_refuses_908 (rmx (m := 1200) (n := 7200) (by omega) (by omega)))) hS (fun q h => h) (fun r _ H locs hp hCW hk hS => ?_)
  refine lv_as (y := -7000002) (hp.2.2.1 hC) ?_
  have hCW : CW G a st H := hCW
  refine lv_ldc (v := -7000002) hx hb hown (hts (.constant RL 78 (-7000002)) (List.mem_of_getElem? (i := 6) (by decide +kernel))) dL_refuses_911 ?_
  refine lv_icmp_ne (tgt := 935) hx hb dL_refuses_913 (by decide) (fun c => absurd c (by decide)) (fun _ => ?_)
  refine lv_aload_n hx hb dL_refuses_916 rfl (lv_at hl 6 rfl) ?_
  refine lv_bipush (v := nI 19) hx hb dL_refuses_917 (by decide) ?_
  refine lv_iconst (v := -1) hx hb dL_refuses_919 (by decide) ?_
  refine lv_iconst (v := -1) hx hb dL_refuses_920 (by decide) ?_
  refine lv_iconst (v := nI 0) hx hb dL_refuses_921 (by decide) ?_
  refine lv_iconst (v := nI 0) hx hb dL_refuses_922 (by decide) ?_
  have hC : cDi (-1) (-1) = 1 := by decide
  refine wr_i (vx_run0 (vx_runSX (As := [.ref (a 0), .int (nI 19), .int (-1), .int (-1), .int (nI 0), .int (nI 0)]) (rest := []) FX (w_act_digit l hfl G a ha t9 st (-1) (-1) (nI 0) (nI 0) hO) (vx_cwSW 6 hts gL_refuses_L_act rfl rfl rfl (by decide +kernel) ⟨Nat.le_of_ble_eq_true rfl, Nat.le_of_ble_eq_true rfl⟩) (preW hK hNW hCW (hLow.at hS (fun q9 _ q => rng_M q9 q)) (hX.at hS (fun q9 _ q => rng_M q9 q)) hNC) rfl rfl hl.1 rfl (lv_room (Nat.le_of_ble_eq_true rfl)) dL_refuses_923 (rmx (m := 1200) (n := 7200) (by omega) (by omega)))) hS (fun q h => h) (fun r _ H locs hp hCW hk hS => ?_)
  refine lv_as (y := -7000001) (hp.2.1 hC) ?_
  have hCW : CW G a st H := hCW
  refine lv_ldc (v := -7000001) hx hb hown (hts (.constant RL 75 (-7000001)) (List.mem_of_getElem? (i := 5) (by decide +kernel))) dL_refuses_926 ?_
  refine lv_icmp_ne (tgt := 935) hx hb dL_refuses_928 (by decide) (fun c => absurd c (by decide)) (fun _ => ?_)
  refine lv_iconst (v := nI 1) hx hb dL_refuses_931 (by decide) ?_
  refine lv_goto (tgt := 936) hx hb dL_refuses_932 (by decide) ?_
  refine lv_istore (lv' := [(8, .int (nI 1)), (9, .int (nI 16)), (7, .int (-2147483648)), (6, .int (-1)), (5, .int (-1)), (4, .int (-1)), (0, .ref (a 0)), (1, .int (nI 2147483647)), (2, .int bf), (3, .int (nI 0))]) hx hb dL_refuses_936 hl (by decide) rfl (fun ls hl => ?_)
  refine lv_iconst (v := nI 0) hx hb dL_refuses_938 (by decide) ?_
  refine lv_istore (lv' := [(9, .int (nI 0)), (8, .int (nI 1)), (7, .int (-2147483648)), (6, .int (-1)), (5, .int (-1)), (4, .int (-1)), (0, .ref (a 0)), (1, .int (nI 2147483647)), (2, .int bf), (3, .int (nI 0))]) hx hb dL_refuses_939 hl (by decide) rfl (fun ls hl => ?_)
  exact wid (by omega) (by omega) (K _ _ _ hS hCW hl)
set_option maxHeartbeats 4000000 in
set_option maxRecDepth 100000 in
theorem rf_B1 {p : Program} {l : Launch} {e : Env} {s : State} {m : MethodId} {args : Array Value} {below : List Frame} {meth : Method} {c : Code} {Q : State → Prop} {G : GG} {a : Nat → Nat} {t9 : Nat} (J : LJ p l s m meth c args cL_refuses (some .boolean) 12 wsL_refuses G a t9) {st : ST} (hO : OKS st) {bf : Int32}  (c0 s0 : Nat) (hc : c0 + 65 ≤ 1200) (hs : s0 + 390 ≤ 7200) {H : Heap} {locs : List Loc} {ls : Array Slot} (hS : va_S (rng a 0 93) s.heap H locs) (hCW : CW G a st H) (hl : lv_has ls 12 [(8, .int (nI 1)), (7, .int (-2)), (6, .int (nI 1073741824)), (5, .int (nI 4)), (4, .int (-2147483648)), (0, .ref (a 0)), (1, .int (nI 2147483647)), (2, .int bf), (3, .int (nI 1))]) (K : ∀ (H : Heap) (locs : List Loc) (ls : Array Slot), va_S (rng a 0 93) s.heap H locs → CW G a st H → lv_has ls 12 [(9, .int (nI 0)), (8, .int (nI 1)), (7, .int (-2)), (6, .int (nI 1073741824)), (5, .int (nI 4)), (4, .int (-2147483648)), (0, .ref (a 0)), (1, .int (nI 2147483647)), (2, .int bf), (3, .int (nI 1))] → W p l e ({ frames := 10, cells := 1200, slots := 7200, locals := 194 } : Room) s m args below meth c H locs (c0 + 65) (s0 + 390) Q (F0 m 941 ls [])) : W p l e ({ frames := 10, cells := 1200, slots := 7200, locals := 194 } : Room) s m args below meth c H locs c0 s0 Q (F0 m 592 ls []) := by
  obtain ⟨hfl, hx, hb, hr, hml, hown, hts, hlocks, ha, hK, hNW, hLow, hX, hNC⟩ := J
  have FX : CallFix p m c cL_refuses 12 s args wsL_refuses RL := ⟨hx, hb, hml, hown, hts⟩
  refine lv_bipush (v := nI 14) hx hb dL_refuses_592 (by decide) ?_
  refine lv_istore (lv' := [(9, .int (nI 14)), (8, .int (nI 1)), (7, .int (-2)), (6, .int (nI 1073741824)), (5, .int (nI 4)), (4, .int (-2147483648)), (0, .ref (a 0)), (1, .int (nI 2147483647)), (2, .int bf), (3, .int (nI 1))]) hx hb dL_refuses_594 hl (by decide) rfl (fun ls hl => ?_)
  refine lv_iload hx hb dL_refuses_596 (lv_at hl 0 rfl) ?_
  refine lv_bipush (v := nI 16) hx hb dL_refuses_598 (by decide) ?_
  refine lv_icmp_ge (tgt := 694) hx hb dL_refuses_600 (by decide) (fun c => absurd c (by decide)) (fun _ => ?_)
  refine lv_iload hx hb dL_refuses_603 (lv_at hl 1 rfl) ?_
  refine lv_if_eq (tgt := 694) hx hb dL_refuses_605 (by decide) (fun c => absurd c (by decide)) (fun _ => ?_)
  refine lv_aload_n hx hb dL_refuses_608 rfl (lv_at hl 6 rfl) ?_
  refine lv_iload hx hb dL_refuses_609 (lv_at hl 0 rfl) ?_
  refine lv_iload hx hb dL_refuses_611 (lv_at hl 4 rfl) ?_
  refine lv_iconst (v := -1) hx hb dL_refuses_613 (by decide) ?_
  refine lv_iconst (v := nI 0) hx hb dL_refuses_614 (by decide) ?_
  refine lv_iconst (v := nI 0) hx hb dL_refuses_615 (by decide) ?_
  have hC : cCh (nI 4) (-1) (nI 0) (nI 0) = 1 := by decide
  refine wr_i (vx_run0 (vx_runSX (As := [.ref (a 0), .int (nI 14), .int (nI 4), .int (-1), .int (nI 0), .int (nI 0)]) (rest := []) FX (w_act_changes l hfl G a ha t9 st (nI 4) (-1) (nI 0) (nI 0) hO) (vx_cwSW 6 hts gL_refuses_L_act rfl rfl rfl (by decide +kernel) ⟨Nat.le_of_ble_eq_true rfl, Nat.le_of_ble_eq_true rfl⟩) (preW hK hNW hCW (hLow.at hS (fun q9 _ q => rng_M q9 q)) (hX.at hS (fun q9 _ q => rng_M q9 q)) hNC) rfl rfl hl.1 rfl (lv_room (Nat.le_of_ble_eq_true rfl)) dL_refuses_616 (rmx (m := 1200) (n := 7200) (by omega) (by omega)))) hS (fun q h => h) (fun r _ H locs hp hCW hk hS => ?_)
  refine lv_as (y := -7000001) (hp.2.1 hC) ?_
  have hCW : CW G a st H := hCW
  refine lv_ldc (v := -7000001) hx hb hown (hts (.constant RL 75 (-7000001)) (List.mem_of_getElem? (i := 5) (by decide +kernel))) dL_refuses_619 ?_
  refine lv_icmp_ne (tgt := 685) hx hb dL_refuses_621 (by decide) (fun c => absurd c (by decide)) (fun _ => ?_)
  refine lv_aload_n hx hb dL_refuses_624 rfl (lv_at hl 6 rfl) ?_
  refine lv_iload hx hb dL_refuses_625 (lv_at hl 0 rfl) ?_
  refine lv_iconst (v := nI 0) hx hb dL_refuses_627 (by decide) ?_
  refine lv_iload hx hb dL_refuses_628 (lv_at hl 3 rfl) ?_
  refine lv_iconst (v := nI 0) hx hb dL_refuses_630 (by decide) ?_
  refine lv_iconst (v := nI 0) hx hb dL_refuses_631 (by decide) ?_
  have hC : cCh (nI 0) (nI 1073741824) (nI 0) (nI 0) = 2 := by decide
  refine wr_i (vx_run0 (vx_runSX (As := [.ref (a 0), .int (nI 14), .int (nI 0), .int (nI 1073741824), .int (nI 0), .int (nI 0)]) (rest := []) FX (w_act_changes l hfl G a ha t9 st (nI 0) (nI 1073741824) (nI 0) (nI 0) hO) (vx_cwSW 6 hts gL_refuses_L_act rfl rfl rfl (by decide +kernel) ⟨Nat.le_of_ble_eq_true rfl, Nat.le_of_ble_eq_true rfl⟩) (preW hK hNW hCW (hLow.at hS (fun q9 _ q => rng_M q9 q)) (hX.at hS (fun q9 _ q => rng_M q9 q)) hNC) rfl rfl hl.1 rfl (lv_room (Nat.le_of_ble_eq_true rfl)) dL_refuses_632 (rmx (m := 1200) (n := 7200) (by omega) (by omega)))) hS (fun q h => h) (fun r _ H locs hp hCW hk hS => ?_)
  refine lv_as (y := -7000002) (hp.2.2.1 hC) ?_
  have hCW : CW G a st H := hCW
  refine lv_ldc (v := -7000002) hx hb hown (hts (.constant RL 78 (-7000002)) (List.mem_of_getElem? (i := 6) (by decide +kernel))) dL_refuses_635 ?_
  refine lv_icmp_ne (tgt := 685) hx hb dL_refuses_637 (by decide) (fun c => absurd c (by decide)) (fun _ => ?_)
  refine lv_aload_n hx hb dL_refuses_640 rfl (lv_at hl 6 rfl) ?_
  refine lv_iload hx hb dL_refuses_641 (lv_at hl 0 rfl) ?_
  refine lv_iconst (v := nI 0) hx hb dL_refuses_643 (by decide) ?_
  refine lv_iconst (v := nI 0) hx hb dL_refuses_644 (by decide) ?_
  refine lv_iload hx hb dL_refuses_645 (lv_at hl 3 rfl) ?_
  refine lv_iconst (v := nI 0) hx hb dL_refuses_647 (by decide) ?_
  have hC : cCh (nI 0) (nI 0) (nI 1073741824) (nI 0) = 2 := by decide
  refine wr_i (vx_run0 (vx_runSX (As := [.ref (a 0), .int (nI 14), .int (nI 0), .int (nI 0), .int (nI 1073741824), .int (nI 0)]) (rest := []) FX (w_act_changes l hfl G a ha t9 st (nI 0) (nI 0) (nI 1073741824) (nI 0) hO) (vx_cwSW 6 hts gL_refuses_L_act rfl rfl rfl (by decide +kernel) ⟨Nat.le_of_ble_eq_true rfl, Nat.le_of_ble_eq_true rfl⟩) (preW hK hNW hCW (hLow.at hS (fun q9 _ q => rng_M q9 q)) (hX.at hS (fun q9 _ q => rng_M q9 q)) hNC) rfl rfl hl.1 rfl (lv_room (Nat.le_of_ble_eq_true rfl)) dL_refuses_648 (rmx (m := 1200) (n := 7200) (by omega) (by omega)))) hS (fun q h => h) (fun r _ H locs hp hCW hk hS => ?_)
  refine lv_as (y := -7000002) (hp.2.2.1 hC) ?_
  have hCW : CW G a st H := hCW
  refine lv_ldc (v := -7000002) hx hb hown (hts (.constant RL 78 (-7000002)) (List.mem_of_getElem? (i := 6) (by decide +kernel))) dL_refuses_651 ?_
  refine lv_icmp_ne (tgt := 685) hx hb dL_refuses_653 (by decide) (fun c => absurd c (by decide)) (fun _ => ?_)
  refine lv_aload_n hx hb dL_refuses_656 rfl (lv_at hl 6 rfl) ?_
  refine lv_iload hx hb dL_refuses_657 (lv_at hl 0 rfl) ?_
  refine lv_iconst (v := nI 0) hx hb dL_refuses_659 (by decide) ?_
  refine lv_iconst (v := nI 0) hx hb dL_refuses_660 (by decide) ?_
  refine lv_iconst (v := nI 0) hx hb dL_refuses_661 (by decide) ?_
  refine lv_iload_n hx hb dL_refuses_662 rfl (lv_at hl 9 rfl) ?_
  refine lv_iconst (v := nI 1) hx hb dL_refuses_663 (by decide) ?_
  refine lv_icmp_ne (tgt := 671) hx hb dL_refuses_664 (by decide) (fun c => absurd c (by decide)) (fun _ => ?_)
  refine lv_iconst (v := nI 3) hx hb dL_refuses_667 (by decide) ?_
  refine lv_goto (tgt := 673) hx hb dL_refuses_668 (by decide) ?_
  have hC : cCh (nI 0) (nI 0) (nI 0) (nI 3) = 2 := by decide
  refine wr_i (vx_run0 (vx_runSX (As := [.ref (a 0), .int (nI 14), .int (nI 0), .int (nI 0), .int (nI 0), .int (nI 3)]) (rest := []) FX (w_act_changes l hfl G a ha t9 st (nI 0) (nI 0) (nI 0) (nI 3) hO) (vx_cwSW 6 hts gL_refuses_L_act rfl rfl rfl (by decide +kernel) ⟨Nat.le_of_ble_eq_true rfl, Nat.le_of_ble_eq_true rfl⟩) (preW hK hNW hCW (hLow.at hS (fun q9 _ q => rng_M q9 q)) (hX.at hS (fun q9 _ q => rng_M q9 q)) hNC) rfl rfl hl.1 rfl (lv_room (Nat.le_of_ble_eq_true rfl)) dL_refuses_673 (rmx (m := 1200) (n := 7200) (by omega) (by omega)))) hS (fun q h => h) (fun r _ H locs hp hCW hk hS => ?_)
  refine lv_as (y := -7000002) (hp.2.2.1 hC) ?_
  have hCW : CW G a st H := hCW
  refine lv_ldc (v := -7000002) hx hb hown (hts (.constant RL 78 (-7000002)) (List.mem_of_getElem? (i := 6) (by decide +kernel))) dL_refuses_676 ?_
  refine lv_icmp_ne (tgt := 685) hx hb dL_refuses_678 (by decide) (fun c => absurd c (by decide)) (fun _ => ?_)
  refine lv_iconst (v := nI 1) hx hb dL_refuses_681 (by decide) ?_
  refine lv_goto (tgt := 686) hx hb dL_refuses_682 (by decide) ?_
  refine lv_istore (lv' := [(8, .int (nI 1)), (9, .int (nI 14)), (7, .int (-2)), (6, .int (nI 1073741824)), (5, .int (nI 4)), (4, .int (-2147483648)), (0, .ref (a 0)), (1, .int (nI 2147483647)), (2, .int bf), (3, .int (nI 1))]) hx hb dL_refuses_686 hl (by decide) rfl (fun ls hl => ?_)
  refine lv_iinc (v := nI 15) (lv' := [(9, .int (nI 15)), (8, .int (nI 1)), (7, .int (-2)), (6, .int (nI 1073741824)), (5, .int (nI 4)), (4, .int (-2147483648)), (0, .ref (a 0)), (1, .int (nI 2147483647)), (2, .int bf), (3, .int (nI 1))]) hx hb dL_refuses_688 hl (k := 1) rfl (by decide) (by decide) rfl (fun ls hl => ?_)
  refine lv_goto (tgt := 596) hx hb dL_refuses_691 (by decide) ?_
  refine lv_iload hx hb dL_refuses_596 (lv_at hl 0 rfl) ?_
  refine lv_bipush (v := nI 16) hx hb dL_refuses_598 (by decide) ?_
  refine lv_icmp_ge (tgt := 694) hx hb dL_refuses_600 (by decide) (fun c => absurd c (by decide)) (fun _ => ?_)
  refine lv_iload hx hb dL_refuses_603 (lv_at hl 1 rfl) ?_
  refine lv_if_eq (tgt := 694) hx hb dL_refuses_605 (by decide) (fun c => absurd c (by decide)) (fun _ => ?_)
  refine lv_aload_n hx hb dL_refuses_608 rfl (lv_at hl 6 rfl) ?_
  refine lv_iload hx hb dL_refuses_609 (lv_at hl 0 rfl) ?_
  refine lv_iload hx hb dL_refuses_611 (lv_at hl 4 rfl) ?_
  refine lv_iconst (v := -1) hx hb dL_refuses_613 (by decide) ?_
  refine lv_iconst (v := nI 0) hx hb dL_refuses_614 (by decide) ?_
  refine lv_iconst (v := nI 0) hx hb dL_refuses_615 (by decide) ?_
  have hC : cCh (nI 4) (-1) (nI 0) (nI 0) = 1 := by decide
  refine wr_i (vx_run0 (vx_runSX (As := [.ref (a 0), .int (nI 15), .int (nI 4), .int (-1), .int (nI 0), .int (nI 0)]) (rest := []) FX (w_act_changesAnew l hfl G a ha t9 st (nI 4) (-1) (nI 0) (nI 0) hO) (vx_cwSW 6 hts gL_refuses_L_act rfl rfl rfl (by decide +kernel) ⟨Nat.le_of_ble_eq_true rfl, Nat.le_of_ble_eq_true rfl⟩) (preW hK hNW hCW (hLow.at hS (fun q9 _ q => rng_M q9 q)) (hX.at hS (fun q9 _ q => rng_M q9 q)) hNC) rfl rfl hl.1 rfl (lv_room (Nat.le_of_ble_eq_true rfl)) dL_refuses_616 (rmx (m := 1200) (n := 7200) (by omega) (by omega)))) hS (fun q h => h) (fun r _ H locs hp hCW hk hS => ?_)
  refine lv_as (y := -7000001) (hp.2.1 hC) ?_
  have hCW : CW G a st H := hCW
  refine lv_ldc (v := -7000001) hx hb hown (hts (.constant RL 75 (-7000001)) (List.mem_of_getElem? (i := 5) (by decide +kernel))) dL_refuses_619 ?_
  refine lv_icmp_ne (tgt := 685) hx hb dL_refuses_621 (by decide) (fun c => absurd c (by decide)) (fun _ => ?_)
  refine lv_aload_n hx hb dL_refuses_624 rfl (lv_at hl 6 rfl) ?_
  refine lv_iload hx hb dL_refuses_625 (lv_at hl 0 rfl) ?_
  refine lv_iconst (v := nI 0) hx hb dL_refuses_627 (by decide) ?_
  refine lv_iload hx hb dL_refuses_628 (lv_at hl 3 rfl) ?_
  refine lv_iconst (v := nI 0) hx hb dL_refuses_630 (by decide) ?_
  refine lv_iconst (v := nI 0) hx hb dL_refuses_631 (by decide) ?_
  have hC : cCh (nI 0) (nI 1073741824) (nI 0) (nI 0) = 2 := by decide
  refine wr_i (vx_run0 (vx_runSX (As := [.ref (a 0), .int (nI 15), .int (nI 0), .int (nI 1073741824), .int (nI 0), .int (nI 0)]) (rest := []) FX (w_act_changesAnew l hfl G a ha t9 st (nI 0) (nI 1073741824) (nI 0) (nI 0) hO) (vx_cwSW 6 hts gL_refuses_L_act rfl rfl rfl (by decide +kernel) ⟨Nat.le_of_ble_eq_true rfl, Nat.le_of_ble_eq_true rfl⟩) (preW hK hNW hCW (hLow.at hS (fun q9 _ q => rng_M q9 q)) (hX.at hS (fun q9 _ q => rng_M q9 q)) hNC) rfl rfl hl.1 rfl (lv_room (Nat.le_of_ble_eq_true rfl)) dL_refuses_632 (rmx (m := 1200) (n := 7200) (by omega) (by omega)))) hS (fun q h => h) (fun r _ H locs hp hCW hk hS => ?_)
  refine lv_as (y := -7000002) (hp.2.2.1 hC) ?_
  have hCW : CW G a st H := hCW
  refine lv_ldc (v := -7000002) hx hb hown (hts (.constant RL 78 (-7000002)) (List.mem_of_getElem? (i := 6) (by decide +kernel))) dL_refuses_635 ?_
  refine lv_icmp_ne (tgt := 685) hx hb dL_refuses_637 (by decide) (fun c => absurd c (by decide)) (fun _ => ?_)
  refine lv_aload_n hx hb dL_refuses_640 rfl (lv_at hl 6 rfl) ?_
  refine lv_iload hx hb dL_refuses_641 (lv_at hl 0 rfl) ?_
  refine lv_iconst (v := nI 0) hx hb dL_refuses_643 (by decide) ?_
  refine lv_iconst (v := nI 0) hx hb dL_refuses_644 (by decide) ?_
  refine lv_iload hx hb dL_refuses_645 (lv_at hl 3 rfl) ?_
  refine lv_iconst (v := nI 0) hx hb dL_refuses_647 (by decide) ?_
  have hC : cCh (nI 0) (nI 0) (nI 1073741824) (nI 0) = 2 := by decide
  refine wr_i (vx_run0 (vx_runSX (As := [.ref (a 0), .int (nI 15), .int (nI 0), .int (nI 0), .int (nI 1073741824), .int (nI 0)]) (rest := []) FX (w_act_changesAnew l hfl G a ha t9 st (nI 0) (nI 0) (nI 1073741824) (nI 0) hO) (vx_cwSW 6 hts gL_refuses_L_act rfl rfl rfl (by decide +kernel) ⟨Nat.le_of_ble_eq_true rfl, Nat.le_of_ble_eq_true rfl⟩) (preW hK hNW hCW (hLow.at hS (fun q9 _ q => rng_M q9 q)) (hX.at hS (fun q9 _ q => rng_M q9 q)) hNC) rfl rfl hl.1 rfl (lv_room (Nat.le_of_ble_eq_true rfl)) dL_refuses_648 (rmx (m := 1200) (n := 7200) (by omega) (by omega)))) hS (fun q h => h) (fun r _ H locs hp hCW hk hS => ?_)
  refine lv_as (y := -7000002) (hp.2.2.1 hC) ?_
  have hCW : CW G a st H := hCW
  refine lv_ldc (v := -7000002) hx hb hown (hts (.constant RL 78 (-7000002)) (List.mem_of_getElem? (i := 6) (by decide +kernel))) dL_refuses_651 ?_
  refine lv_icmp_ne (tgt := 685) hx hb dL_refuses_653 (by decide) (fun c => absurd c (by decide)) (fun _ => ?_)
  refine lv_aload_n hx hb dL_refuses_656 rfl (lv_at hl 6 rfl) ?_
  refine lv_iload hx hb dL_refuses_657 (lv_at hl 0 rfl) ?_
  refine lv_iconst (v := nI 0) hx hb dL_refuses_659 (by decide) ?_
  refine lv_iconst (v := nI 0) hx hb dL_refuses_660 (by decide) ?_
  refine lv_iconst (v := nI 0) hx hb dL_refuses_661 (by decide) ?_
  refine lv_iload_n hx hb dL_refuses_662 rfl (lv_at hl 9 rfl) ?_
  refine lv_iconst (v := nI 1) hx hb dL_refuses_663 (by decide) ?_
  refine lv_icmp_ne (tgt := 671) hx hb dL_refuses_664 (by decide) (fun c => absurd c (by decide)) (fun _ => ?_)
  refine lv_iconst (v := nI 3) hx hb dL_refuses_667 (by decide) ?_
  refine lv_goto (tgt := 673) hx hb dL_refuses_668 (by decide) ?_
  have hC : cCh (nI 0) (nI 0) (nI 0) (nI 3) = 2 := by decide
  refine wr_i (vx_run0 (vx_runSX (As := [.ref (a 0), .int (nI 15), .int (nI 0), .int (nI 0), .int (nI 0), .int (nI 3)]) (rest := []) FX (w_act_changesAnew l hfl G a ha t9 st (nI 0) (nI 0) (nI 0) (nI 3) hO) (vx_cwSW 6 hts gL_refuses_L_act rfl rfl rfl (by decide +kernel) ⟨Nat.le_of_ble_eq_true rfl, Nat.le_of_ble_eq_true rfl⟩) (preW hK hNW hCW (hLow.at hS (fun q9 _ q => rng_M q9 q)) (hX.at hS (fun q9 _ q => rng_M q9 q)) hNC) rfl rfl hl.1 rfl (lv_room (Nat.le_of_ble_eq_true rfl)) dL_refuses_673 (rmx (m := 1200) (n := 7200) (by omega) (by omega)))) hS (fun q h => h) (fun r _ H locs hp hCW hk hS => ?_)
  refine lv_as (y := -7000002) (hp.2.2.1 hC) ?_
  have hCW : CW G a st H := hCW
  refine lv_ldc (v := -7000002) hx hb hown (hts (.constant RL 78 (-7000002)) (List.mem_of_getElem? (i := 6) (by decide +kernel))) dL_refuses_676 ?_
  refine lv_icmp_ne (tgt := 685) hx hb dL_refuses_678 (by decide) (fun c => absurd c (by decide)) (fun _ => ?_)
  refine lv_iconst (v := nI 1) hx hb dL_refuses_681 (by decide) ?_
  refine lv_goto (tgt := 686) hx hb dL_refuses_682 (by decide) ?_
  refine lv_istore (lv' := [(8, .int (nI 1)), (9, .int (nI 15)), (7, .int (-2)), (6, .int (nI 1073741824)), (5, .int (nI 4)), (4, .int (-2147483648)), (0, .ref (a 0)), (1, .int (nI 2147483647)), (2, .int bf), (3, .int (nI 1))]) hx hb dL_refuses_686 hl (by decide) rfl (fun ls hl => ?_)
  refine lv_iinc (v := nI 16) (lv' := [(9, .int (nI 16)), (8, .int (nI 1)), (7, .int (-2)), (6, .int (nI 1073741824)), (5, .int (nI 4)), (4, .int (-2147483648)), (0, .ref (a 0)), (1, .int (nI 2147483647)), (2, .int bf), (3, .int (nI 1))]) hx hb dL_refuses_688 hl (k := 1) rfl (by decide) (by decide) rfl (fun ls hl => ?_)
  refine lv_goto (tgt := 596) hx hb dL_refuses_691 (by decide) ?_
  refine lv_iload hx hb dL_refuses_596 (lv_at hl 0 rfl) ?_
  refine lv_bipush (v := nI 16) hx hb dL_refuses_598 (by decide) ?_
  refine lv_icmp_ge (tgt := 694) hx hb dL_refuses_600 (by decide) (fun _ => ?_) (fun c => absurd c (by decide))
  refine lv_iload hx hb dL_refuses_694 (lv_at hl 1 rfl) ?_
  refine lv_if_eq (tgt := 935) hx hb dL_refuses_696 (by decide) (fun c => absurd c (by decide)) (fun _ => ?_)
  refine lv_aload_n hx hb dL_refuses_699 rfl (lv_at hl 6 rfl) ?_
  refine lv_bipush (v := nI 16) hx hb dL_refuses_700 (by decide) ?_
  refine lv_iload hx hb dL_refuses_702 (lv_at hl 4 rfl) ?_
  refine lv_bipush (v := nI 9) hx hb dL_refuses_704 (by decide) ?_
  refine lv_bipush (v := nI 9) hx hb dL_refuses_706 (by decide) ?_
  refine lv_iconst (v := nI 0) hx hb dL_refuses_708 (by decide) ?_
  have hC : cOff st.1 (nI 4) (nI 9) (nI 9) = 1 := rc_of (by decide)
  refine wr_i (vx_run0 (vx_runSX (As := [.ref (a 0), .int (nI 16), .int (nI 4), .int (nI 9), .int (nI 9), .int (nI 0)]) (rest := []) FX (w_act_off l hfl G a ha t9 st (nI 4) (nI 9) (nI 9) (nI 0) hO) (vx_cwSW 6 hts gL_refuses_L_act rfl rfl rfl (by decide +kernel) ⟨Nat.le_of_ble_eq_true rfl, Nat.le_of_ble_eq_true rfl⟩) (preW hK hNW hCW (hLow.at hS (fun q9 _ q => rng_M q9 q)) (hX.at hS (fun q9 _ q => rng_M q9 q)) hNC) rfl rfl hl.1 rfl (lv_room (Nat.le_of_ble_eq_true rfl)) dL_refuses_709 (rmx (m := 1200) (n := 7200) (by omega) (by omega)))) hS (fun q h => h) (fun r _ H locs hp hCW hk hS => ?_)
  refine lv_as (y := -7000001) (hp.2.1 hC) ?_
  have hCW : CW G a st H := hCW
  refine lv_ldc (v := -7000001) hx hb hown (hts (.constant RL 75 (-7000001)) (List.mem_of_getElem? (i := 5) (by decide +kernel))) dL_refuses_712 ?_
  refine lv_icmp_ne (tgt := 935) hx hb dL_refuses_714 (by decide) (fun c => absurd c (by decide)) (fun _ => ?_)
  refine lv_aload_n hx hb dL_refuses_717 rfl (lv_at hl 6 rfl) ?_
  refine lv_bipush (v := nI 16) hx hb dL_refuses_718 (by decide) ?_
  refine lv_iconst (v := nI 0) hx hb dL_refuses_720 (by decide) ?_
  refine lv_iload_n hx hb dL_refuses_721 rfl (lv_at hl 9 rfl) ?_
  refine lv_iconst (v := nI 1) hx hb dL_refuses_722 (by decide) ?_
  refine lv_icmp_ne (tgt := 730) hx hb dL_refuses_723 (by decide) (fun c => absurd c (by decide)) (fun _ => ?_)
  refine lv_iconst (v := nI 2) hx hb dL_refuses_726 (by decide) ?_
  refine lv_goto (tgt := 732) hx hb dL_refuses_727 (by decide) ?_
  refine lv_iconst (v := nI 0) hx hb dL_refuses_732 (by decide) ?_
  refine lv_iconst (v := nI 0) hx hb dL_refuses_733 (by decide) ?_
  have hC : cOff st.1 (nI 0) (nI 2) (nI 0) = 2 := rc_oo (by decide) (by decide)
  refine wr_i (vx_run0 (vx_runSX (As := [.ref (a 0), .int (nI 16), .int (nI 0), .int (nI 2), .int (nI 0), .int (nI 0)]) (rest := []) FX (w_act_off l hfl G a ha t9 st (nI 0) (nI 2) (nI 0) (nI 0) hO) (vx_cwSW 6 hts gL_refuses_L_act rfl rfl rfl (by decide +kernel) ⟨Nat.le_of_ble_eq_true rfl, Nat.le_of_ble_eq_true rfl⟩) (preW hK hNW hCW (hLow.at hS (fun q9 _ q => rng_M q9 q)) (hX.at hS (fun q9 _ q => rng_M q9 q)) hNC) rfl rfl hl.1 rfl (lv_room (Nat.le_of_ble_eq_true rfl)) dL_refuses_734 (rmx (m := 1200) (n := 7200) (by omega) (by omega)))) hS (fun q h => h) (fun r _ H locs hp hCW hk hS => ?_)
  refine lv_as (y := -7000002) (hp.2.2.1 hC) ?_
  have hCW : CW G a st H := hCW
  refine lv_ldc (v := -7000002) hx hb hown (hts (.constant RL 78 (-7000002)) (List.mem_of_getElem? (i := 6) (by decide +kernel))) dL_refuses_737 ?_
  refine lv_icmp_ne (tgt := 935) hx hb dL_refuses_739 (by decide) (fun c => absurd c (by decide)) (fun _ => ?_)
  refine lv_aload_n hx hb dL_refuses_742 rfl (lv_at hl 6 rfl) ?_
  refine lv_bipush (v := nI 16) hx hb dL_refuses_743 (by decide) ?_
  refine lv_iconst (v := nI 0) hx hb dL_refuses_745 (by decide) ?_
  refine lv_iconst (v := nI 0) hx hb dL_refuses_746 (by decide) ?_
  refine lv_iload_n hx hb dL_refuses_747 rfl (lv_at hl 9 rfl) ?_
  refine lv_iconst (v := nI 1) hx hb dL_refuses_748 (by decide) ?_
  refine lv_icmp_ne (tgt := 756) hx hb dL_refuses_749 (by decide) (fun c => absurd c (by decide)) (fun _ => ?_)
  refine lv_iconst (v := nI 4) hx hb dL_refuses_752 (by decide) ?_
  refine lv_goto (tgt := 758) hx hb dL_refuses_753 (by decide) ?_
  refine lv_iconst (v := nI 0) hx hb dL_refuses_758 (by decide) ?_
  have hC : cOff st.1 (nI 0) (nI 0) (nI 4) = 2 := rc_ow (by decide) (by decide)
  refine wr_i (vx_run0 (vx_runSX (As := [.ref (a 0), .int (nI 16), .int (nI 0), .int (nI 0), .int (nI 4), .int (nI 0)]) (rest := []) FX (w_act_off l hfl G a ha t9 st (nI 0) (nI 0) (nI 4) (nI 0) hO) (vx_cwSW 6 hts gL_refuses_L_act rfl rfl rfl (by decide +kernel) ⟨Nat.le_of_ble_eq_true rfl, Nat.le_of_ble_eq_true rfl⟩) (preW hK hNW hCW (hLow.at hS (fun q9 _ q => rng_M q9 q)) (hX.at hS (fun q9 _ q => rng_M q9 q)) hNC) rfl rfl hl.1 rfl (lv_room (Nat.le_of_ble_eq_true rfl)) dL_refuses_759 (rmx (m := 1200) (n := 7200) (by omega) (by omega)))) hS (fun q h => h) (fun r _ H locs hp hCW hk hS => ?_)
  refine lv_as (y := -7000002) (hp.2.2.1 hC) ?_
  have hCW : CW G a st H := hCW
  refine lv_ldc (v := -7000002) hx hb hown (hts (.constant RL 78 (-7000002)) (List.mem_of_getElem? (i := 6) (by decide +kernel))) dL_refuses_762 ?_
  refine lv_icmp_ne (tgt := 935) hx hb dL_refuses_764 (by decide) (fun c => absurd c (by decide)) (fun _ => ?_)
  refine lv_aload_n hx hb dL_refuses_767 rfl (lv_at hl 6 rfl) ?_
  refine lv_bipush (v := nI 17) hx hb dL_refuses_768 (by decide) ?_
  refine lv_iload hx hb dL_refuses_770 (lv_at hl 4 rfl) ?_
  refine lv_iconst (v := nI 0) hx hb dL_refuses_772 (by decide) ?_
  refine lv_iconst (v := nI 0) hx hb dL_refuses_773 (by decide) ?_
  refine lv_iconst (v := nI 0) hx hb dL_refuses_774 (by decide) ?_
  have hC : cUns st.1 (nI 4) (nI 0) (nI 0) = 1 := rc_un (by decide)
  refine wr_i (vx_run0 (vx_runSX (As := [.ref (a 0), .int (nI 17), .int (nI 4), .int (nI 0), .int (nI 0), .int (nI 0)]) (rest := []) FX (w_act_unseen l hfl G a ha t9 st (nI 4) (nI 0) (nI 0) (nI 0) hO) (vx_cwSW 6 hts gL_refuses_L_act rfl rfl rfl (by decide +kernel) ⟨Nat.le_of_ble_eq_true rfl, Nat.le_of_ble_eq_true rfl⟩) (preW hK hNW hCW (hLow.at hS (fun q9 _ q => rng_M q9 q)) (hX.at hS (fun q9 _ q => rng_M q9 q)) hNC) rfl rfl hl.1 rfl (lv_room (Nat.le_of_ble_eq_true rfl)) dL_refuses_775 (rmx (m := 1200) (n := 7200) (by omega) (by omega)))) hS (fun q h => h) (fun r _ H locs hp hCW hk hS => ?_)
  refine lv_as (y := -7000001) (hp.2.1 hC) ?_
  have hCW : CW G a st H := hCW
  refine lv_ldc (v := -7000001) hx hb hown (hts (.constant RL 75 (-7000001)) (List.mem_of_getElem? (i := 5) (by decide +kernel))) dL_refuses_778 ?_
  refine lv_icmp_ne (tgt := 935) hx hb dL_refuses_780 (by decide) (fun c => absurd c (by decide)) (fun _ => ?_)
  refine lv_aload_n hx hb dL_refuses_783 rfl (lv_at hl 6 rfl) ?_
  refine lv_bipush (v := nI 17) hx hb dL_refuses_784 (by decide) ?_
  refine lv_iconst (v := nI 0) hx hb dL_refuses_786 (by decide) ?_
  refine lv_iload_n hx hb dL_refuses_787 rfl (lv_at hl 9 rfl) ?_
  refine lv_iconst (v := nI 1) hx hb dL_refuses_788 (by decide) ?_
  refine lv_icmp_ne (tgt := 796) hx hb dL_refuses_789 (by decide) (fun c => absurd c (by decide)) (fun _ => ?_)
  refine lv_iconst (v := nI 2) hx hb dL_refuses_792 (by decide) ?_
  refine lv_goto (tgt := 798) hx hb dL_refuses_793 (by decide) ?_
  refine lv_iconst (v := nI 5) hx hb dL_refuses_798 (by decide) ?_
  refine lv_iconst (v := nI 0) hx hb dL_refuses_799 (by decide) ?_
  have hC : cUns st.1 (nI 0) (nI 2) (nI 5) = 2 := rc_uo (by decide) (by decide)
  refine wr_i (vx_run0 (vx_runSX (As := [.ref (a 0), .int (nI 17), .int (nI 0), .int (nI 2), .int (nI 5), .int (nI 0)]) (rest := []) FX (w_act_unseen l hfl G a ha t9 st (nI 0) (nI 2) (nI 5) (nI 0) hO) (vx_cwSW 6 hts gL_refuses_L_act rfl rfl rfl (by decide +kernel) ⟨Nat.le_of_ble_eq_true rfl, Nat.le_of_ble_eq_true rfl⟩) (preW hK hNW hCW (hLow.at hS (fun q9 _ q => rng_M q9 q)) (hX.at hS (fun q9 _ q => rng_M q9 q)) hNC) rfl rfl hl.1 rfl (lv_room (Nat.le_of_ble_eq_true rfl)) dL_refuses_800 (rmx (m := 1200) (n := 7200) (by omega) (by omega)))) hS (fun q h => h) (fun r _ H locs hp hCW hk hS => ?_)
  refine lv_as (y := -7000002) (hp.2.2.1 hC) ?_
  have hCW : CW G a st H := hCW
  refine lv_ldc (v := -7000002) hx hb hown (hts (.constant RL 78 (-7000002)) (List.mem_of_getElem? (i := 6) (by decide +kernel))) dL_refuses_803 ?_
  refine lv_icmp_ne (tgt := 935) hx hb dL_refuses_805 (by decide) (fun c => absurd c (by decide)) (fun _ => ?_)
  refine lv_aload_n hx hb dL_refuses_808 rfl (lv_at hl 6 rfl) ?_
  refine lv_bipush (v := nI 17) hx hb dL_refuses_809 (by decide) ?_
  refine lv_iconst (v := nI 0) hx hb dL_refuses_811 (by decide) ?_
  refine lv_iconst (v := nI 0) hx hb dL_refuses_812 (by decide) ?_
  refine lv_iload_n hx hb dL_refuses_813 rfl (lv_at hl 9 rfl) ?_
  refine lv_if_ne (tgt := 821) hx hb dL_refuses_814 (by decide) (fun _ => ?_) (fun c => absurd c (by decide))
  refine lv_iload_n hx hb dL_refuses_821 rfl (lv_at hl 9 rfl) ?_
  refine lv_iconst (v := nI 1) hx hb dL_refuses_822 (by decide) ?_
  refine lv_icmp_ne (tgt := 831) hx hb dL_refuses_823 (by decide) (fun c => absurd c (by decide)) (fun _ => ?_)
  refine lv_bipush (v := nI 100) hx hb dL_refuses_826 (by decide) ?_
  refine lv_goto (tgt := 833) hx hb dL_refuses_828 (by decide) ?_
  refine lv_iconst (v := nI 0) hx hb dL_refuses_833 (by decide) ?_
  have hC : cUns st.1 (nI 0) (nI 0) (nI 100) = 2 := rc_uw (by decide) (by decide)
  refine wr_i (vx_run0 (vx_runSX (As := [.ref (a 0), .int (nI 17), .int (nI 0), .int (nI 0), .int (nI 100), .int (nI 0)]) (rest := []) FX (w_act_unseen l hfl G a ha t9 st (nI 0) (nI 0) (nI 100) (nI 0) hO) (vx_cwSW 6 hts gL_refuses_L_act rfl rfl rfl (by decide +kernel) ⟨Nat.le_of_ble_eq_true rfl, Nat.le_of_ble_eq_true rfl⟩) (preW hK hNW hCW (hLow.at hS (fun q9 _ q => rng_M q9 q)) (hX.at hS (fun q9 _ q => rng_M q9 q)) hNC) rfl rfl hl.1 rfl (lv_room (Nat.le_of_ble_eq_true rfl)) dL_refuses_834 (rmx (m := 1200) (n := 7200) (by omega) (by omega)))) hS (fun q h => h) (fun r _ H locs hp hCW hk hS => ?_)
  refine lv_as (y := -7000002) (hp.2.2.1 hC) ?_
  have hCW : CW G a st H := hCW
  refine lv_ldc (v := -7000002) hx hb hown (hts (.constant RL 78 (-7000002)) (List.mem_of_getElem? (i := 6) (by decide +kernel))) dL_refuses_837 ?_
  refine lv_icmp_ne (tgt := 935) hx hb dL_refuses_839 (by decide) (fun c => absurd c (by decide)) (fun _ => ?_)
  refine lv_aload_n hx hb dL_refuses_842 rfl (lv_at hl 6 rfl) ?_
  refine lv_bipush (v := nI 18) hx hb dL_refuses_843 (by decide) ?_
  refine lv_iload hx hb dL_refuses_845 (lv_at hl 4 rfl) ?_
  refine lv_iconst (v := nI 0) hx hb dL_refuses_847 (by decide) ?_
  refine lv_iconst (v := nI 0) hx hb dL_refuses_848 (by decide) ?_
  refine lv_iconst (v := nI 0) hx hb dL_refuses_849 (by decide) ?_
  have hC : cUn st.1 (nI 4) (nI 0) = 1 := rc_ul (by decide)
  refine wr_i (vx_run0 (vx_runSX (As := [.ref (a 0), .int (nI 18), .int (nI 4), .int (nI 0), .int (nI 0), .int (nI 0)]) (rest := []) FX (w_act_unlike l hfl G a ha t9 st (nI 4) (nI 0) (nI 0) (nI 0) hO) (vx_cwSW 6 hts gL_refuses_L_act rfl rfl rfl (by decide +kernel) ⟨Nat.le_of_ble_eq_true rfl, Nat.le_of_ble_eq_true rfl⟩) (preW hK hNW hCW (hLow.at hS (fun q9 _ q => rng_M q9 q)) (hX.at hS (fun q9 _ q => rng_M q9 q)) hNC) rfl rfl hl.1 rfl (lv_room (Nat.le_of_ble_eq_true rfl)) dL_refuses_850 (rmx (m := 1200) (n := 7200) (by omega) (by omega)))) hS (fun q h => h) (fun r _ H locs hp hCW hk hS => ?_)
  refine lv_as (y := -7000001) (hp.2.1 hC) ?_
  have hCW : CW G a st H := hCW
  refine lv_ldc (v := -7000001) hx hb hown (hts (.constant RL 75 (-7000001)) (List.mem_of_getElem? (i := 5) (by decide +kernel))) dL_refuses_853 ?_
  refine lv_icmp_ne (tgt := 935) hx hb dL_refuses_855 (by decide) (fun c => absurd c (by decide)) (fun _ => ?_)
  refine lv_aload_n hx hb dL_refuses_858 rfl (lv_at hl 6 rfl) ?_
  refine lv_bipush (v := nI 18) hx hb dL_refuses_859 (by decide) ?_
  refine lv_iconst (v := nI 0) hx hb dL_refuses_861 (by decide) ?_
  refine lv_iload hx hb dL_refuses_862 (lv_at hl 4 rfl) ?_
  refine lv_iconst (v := nI 0) hx hb dL_refuses_864 (by decide) ?_
  refine lv_iconst (v := nI 0) hx hb dL_refuses_865 (by decide) ?_
  have hC : cUn st.1 (nI 0) (nI 4) = 1 := rc_uv (by decide)
  refine wr_i (vx_run0 (vx_runSX (As := [.ref (a 0), .int (nI 18), .int (nI 0), .int (nI 4), .int (nI 0), .int (nI 0)]) (rest := []) FX (w_act_unlike l hfl G a ha t9 st (nI 0) (nI 4) (nI 0) (nI 0) hO) (vx_cwSW 6 hts gL_refuses_L_act rfl rfl rfl (by decide +kernel) ⟨Nat.le_of_ble_eq_true rfl, Nat.le_of_ble_eq_true rfl⟩) (preW hK hNW hCW (hLow.at hS (fun q9 _ q => rng_M q9 q)) (hX.at hS (fun q9 _ q => rng_M q9 q)) hNC) rfl rfl hl.1 rfl (lv_room (Nat.le_of_ble_eq_true rfl)) dL_refuses_866 (rmx (m := 1200) (n := 7200) (by omega) (by omega)))) hS (fun q h => h) (fun r _ H locs hp hCW hk hS => ?_)
  refine lv_as (y := -7000001) (hp.2.1 hC) ?_
  have hCW : CW G a st H := hCW
  refine lv_ldc (v := -7000001) hx hb hown (hts (.constant RL 75 (-7000001)) (List.mem_of_getElem? (i := 5) (by decide +kernel))) dL_refuses_869 ?_
  refine lv_icmp_ne (tgt := 935) hx hb dL_refuses_871 (by decide) (fun c => absurd c (by decide)) (fun _ => ?_)
  refine lv_aload_n hx hb dL_refuses_874 rfl (lv_at hl 6 rfl) ?_
  refine lv_bipush (v := nI 19) hx hb dL_refuses_875 (by decide) ?_
  refine lv_iconst (v := nI 0) hx hb dL_refuses_877 (by decide) ?_
  refine lv_iload_n hx hb dL_refuses_878 rfl (lv_at hl 9 rfl) ?_
  refine lv_iconst (v := nI 1) hx hb dL_refuses_879 (by decide) ?_
  refine lv_icmp_ne (tgt := 888) hx hb dL_refuses_880 (by decide) (fun c => absurd c (by decide)) (fun _ => ?_)
  refine lv_bipush (v := nI 16) hx hb dL_refuses_883 (by decide) ?_
  refine lv_goto (tgt := 890) hx hb dL_refuses_885 (by decide) ?_
  refine lv_iconst (v := nI 0) hx hb dL_refuses_890 (by decide) ?_
  refine lv_iconst (v := nI 0) hx hb dL_refuses_891 (by decide) ?_
  have hC : cDi (nI 0) (nI 16) = 1 := by decide
  refine wr_i (vx_run0 (vx_runSX (As := [.ref (a 0), .int (nI 19), .int (nI 0), .int (nI 16), .int (nI 0), .int (nI 0)]) (rest := []) FX (w_act_digit l hfl G a ha t9 st (nI 0) (nI 16) (nI 0) (nI 0) hO) (vx_cwSW 6 hts gL_refuses_L_act rfl rfl rfl (by decide +kernel) ⟨Nat.le_of_ble_eq_true rfl, Nat.le_of_ble_eq_true rfl⟩) (preW hK hNW hCW (hLow.at hS (fun q9 _ q => rng_M q9 q)) (hX.at hS (fun q9 _ q => rng_M q9 q)) hNC) rfl rfl hl.1 rfl (lv_room (Nat.le_of_ble_eq_true rfl)) dL_refuses_892 (rmx (m := 1200) (n := 7200) (by omega) (by omega)))) hS (fun q h => h) (fun r _ H locs hp hCW hk hS => ?_)
  refine lv_as (y := -7000001) (hp.2.1 hC) ?_
  have hCW : CW G a st H := hCW
  refine lv_ldc (v := -7000001) hx hb hown (hts (.constant RL 75 (-7000001)) (List.mem_of_getElem? (i := 5) (by decide +kernel))) dL_refuses_895 ?_
  refine lv_icmp_ne (tgt := 935) hx hb dL_refuses_897 (by decide) (fun c => absurd c (by decide)) (fun _ => ?_)
  refine lv_aload_n hx hb dL_refuses_900 rfl (lv_at hl 6 rfl) ?_
  refine lv_bipush (v := nI 19) hx hb dL_refuses_901 (by decide) ?_
  refine lv_iload hx hb dL_refuses_903 (lv_at hl 2 rfl) ?_
  refine lv_iconst (v := nI 0) hx hb dL_refuses_905 (by decide) ?_
  refine lv_iconst (v := nI 0) hx hb dL_refuses_906 (by decide) ?_
  refine lv_iconst (v := nI 0) hx hb dL_refuses_907 (by decide) ?_
  have hC : cDi (-2) (nI 0) = 2 := by decide
  refine wr_i (vx_run0 (vx_runSX (As := [.ref (a 0), .int (nI 19), .int (-2), .int (nI 0), .int (nI 0), .int (nI 0)]) (rest := []) FX (w_act_digit l hfl G a ha t9 st (-2) (nI 0) (nI 0) (nI 0) hO) (vx_cwSW 6 hts gL_refuses_L_act rfl rfl rfl (by decide +kernel) ⟨Nat.le_of_ble_eq_true rfl, Nat.le_of_ble_eq_true rfl⟩) (preW hK hNW hCW (hLow.at hS (fun q9 _ q => rng_M q9 q)) (hX.at hS (fun q9 _ q => rng_M q9 q)) hNC) rfl rfl hl.1 rfl (lv_room (Nat.le_of_ble_eq_true rfl)) dL_refuses_908 (rmx (m := 1200) (n := 7200) (by omega) (by omega)))) hS (fun q h => h) (fun r _ H locs hp hCW hk hS => ?_)
  refine lv_as (y := -7000002) (hp.2.2.1 hC) ?_
  have hCW : CW G a st H := hCW
  refine lv_ldc (v := -7000002) hx hb hown (hts (.constant RL 78 (-7000002)) (List.mem_of_getElem? (i := 6) (by decide +kernel))) dL_refuses_911 ?_
  refine lv_icmp_ne (tgt := 935) hx hb dL_refuses_913 (by decide) (fun c => absurd c (by decide)) (fun _ => ?_)
  refine lv_aload_n hx hb dL_refuses_916 rfl (lv_at hl 6 rfl) ?_
  refine lv_bipush (v := nI 19) hx hb dL_refuses_917 (by decide) ?_
  refine lv_iconst (v := -1) hx hb dL_refuses_919 (by decide) ?_
  refine lv_iconst (v := -1) hx hb dL_refuses_920 (by decide) ?_
  refine lv_iconst (v := nI 0) hx hb dL_refuses_921 (by decide) ?_
  refine lv_iconst (v := nI 0) hx hb dL_refuses_922 (by decide) ?_
  have hC : cDi (-1) (-1) = 1 := by decide
  refine wr_i (vx_run0 (vx_runSX (As := [.ref (a 0), .int (nI 19), .int (-1), .int (-1), .int (nI 0), .int (nI 0)]) (rest := []) FX (w_act_digit l hfl G a ha t9 st (-1) (-1) (nI 0) (nI 0) hO) (vx_cwSW 6 hts gL_refuses_L_act rfl rfl rfl (by decide +kernel) ⟨Nat.le_of_ble_eq_true rfl, Nat.le_of_ble_eq_true rfl⟩) (preW hK hNW hCW (hLow.at hS (fun q9 _ q => rng_M q9 q)) (hX.at hS (fun q9 _ q => rng_M q9 q)) hNC) rfl rfl hl.1 rfl (lv_room (Nat.le_of_ble_eq_true rfl)) dL_refuses_923 (rmx (m := 1200) (n := 7200) (by omega) (by omega)))) hS (fun q h => h) (fun r _ H locs hp hCW hk hS => ?_)
  refine lv_as (y := -7000001) (hp.2.1 hC) ?_
  have hCW : CW G a st H := hCW
  refine lv_ldc (v := -7000001) hx hb hown (hts (.constant RL 75 (-7000001)) (List.mem_of_getElem? (i := 5) (by decide +kernel))) dL_refuses_926 ?_
  refine lv_icmp_ne (tgt := 935) hx hb dL_refuses_928 (by decide) (fun c => absurd c (by decide)) (fun _ => ?_)
  refine lv_iconst (v := nI 1) hx hb dL_refuses_931 (by decide) ?_
  refine lv_goto (tgt := 936) hx hb dL_refuses_932 (by decide) ?_
  refine lv_istore (lv' := [(8, .int (nI 1)), (9, .int (nI 16)), (7, .int (-2)), (6, .int (nI 1073741824)), (5, .int (nI 4)), (4, .int (-2147483648)), (0, .ref (a 0)), (1, .int (nI 2147483647)), (2, .int bf), (3, .int (nI 1))]) hx hb dL_refuses_936 hl (by decide) rfl (fun ls hl => ?_)
  refine lv_iconst (v := nI 0) hx hb dL_refuses_938 (by decide) ?_
  refine lv_istore (lv' := [(9, .int (nI 0)), (8, .int (nI 1)), (7, .int (-2)), (6, .int (nI 1073741824)), (5, .int (nI 4)), (4, .int (-2147483648)), (0, .ref (a 0)), (1, .int (nI 2147483647)), (2, .int bf), (3, .int (nI 1))]) hx hb dL_refuses_939 hl (by decide) rfl (fun ls hl => ?_)
  exact wid (by omega) (by omega) (K _ _ _ hS hCW hl)
set_option maxHeartbeats 4000000 in
set_option maxRecDepth 100000 in
theorem rf_B2 {p : Program} {l : Launch} {e : Env} {s : State} {m : MethodId} {args : Array Value} {below : List Frame} {meth : Method} {c : Code} {Q : State → Prop} {G : GG} {a : Nat → Nat} {t9 : Nat} (J : LJ p l s m meth c args cL_refuses (some .boolean) 12 wsL_refuses G a t9) {st : ST} (hO : OKS st) {bf : Int32}  (c0 s0 : Nat) (hc : c0 + 65 ≤ 1200) (hs : s0 + 390 ≤ 7200) {H : Heap} {locs : List Loc} {ls : Array Slot} (hS : va_S (rng a 0 93) s.heap H locs) (hCW : CW G a st H) (hl : lv_has ls 12 [(8, .int (nI 1)), (7, .int (-1)), (6, .int (nI 2147483647)), (5, .int (nI 2147483647)), (4, .int (nI 2147483647)), (0, .ref (a 0)), (1, .int (nI 2147483647)), (2, .int bf), (3, .int (nI 2))]) (K : ∀ (H : Heap) (locs : List Loc) (ls : Array Slot), va_S (rng a 0 93) s.heap H locs → CW G a st H → lv_has ls 12 [(9, .int (nI 0)), (8, .int (nI 1)), (7, .int (-1)), (6, .int (nI 2147483647)), (5, .int (nI 2147483647)), (4, .int (nI 2147483647)), (0, .ref (a 0)), (1, .int (nI 2147483647)), (2, .int bf), (3, .int (nI 2))] → W p l e ({ frames := 10, cells := 1200, slots := 7200, locals := 194 } : Room) s m args below meth c H locs (c0 + 65) (s0 + 390) Q (F0 m 941 ls [])) : W p l e ({ frames := 10, cells := 1200, slots := 7200, locals := 194 } : Room) s m args below meth c H locs c0 s0 Q (F0 m 592 ls []) := by
  obtain ⟨hfl, hx, hb, hr, hml, hown, hts, hlocks, ha, hK, hNW, hLow, hX, hNC⟩ := J
  have FX : CallFix p m c cL_refuses 12 s args wsL_refuses RL := ⟨hx, hb, hml, hown, hts⟩
  refine lv_bipush (v := nI 14) hx hb dL_refuses_592 (by decide) ?_
  refine lv_istore (lv' := [(9, .int (nI 14)), (8, .int (nI 1)), (7, .int (-1)), (6, .int (nI 2147483647)), (5, .int (nI 2147483647)), (4, .int (nI 2147483647)), (0, .ref (a 0)), (1, .int (nI 2147483647)), (2, .int bf), (3, .int (nI 2))]) hx hb dL_refuses_594 hl (by decide) rfl (fun ls hl => ?_)
  refine lv_iload hx hb dL_refuses_596 (lv_at hl 0 rfl) ?_
  refine lv_bipush (v := nI 16) hx hb dL_refuses_598 (by decide) ?_
  refine lv_icmp_ge (tgt := 694) hx hb dL_refuses_600 (by decide) (fun c => absurd c (by decide)) (fun _ => ?_)
  refine lv_iload hx hb dL_refuses_603 (lv_at hl 1 rfl) ?_
  refine lv_if_eq (tgt := 694) hx hb dL_refuses_605 (by decide) (fun c => absurd c (by decide)) (fun _ => ?_)
  refine lv_aload_n hx hb dL_refuses_608 rfl (lv_at hl 6 rfl) ?_
  refine lv_iload hx hb dL_refuses_609 (lv_at hl 0 rfl) ?_
  refine lv_iload hx hb dL_refuses_611 (lv_at hl 4 rfl) ?_
  refine lv_iconst (v := -1) hx hb dL_refuses_613 (by decide) ?_
  refine lv_iconst (v := nI 0) hx hb dL_refuses_614 (by decide) ?_
  refine lv_iconst (v := nI 0) hx hb dL_refuses_615 (by decide) ?_
  have hC : cCh (nI 2147483647) (-1) (nI 0) (nI 0) = 1 := by decide
  refine wr_i (vx_run0 (vx_runSX (As := [.ref (a 0), .int (nI 14), .int (nI 2147483647), .int (-1), .int (nI 0), .int (nI 0)]) (rest := []) FX (w_act_changes l hfl G a ha t9 st (nI 2147483647) (-1) (nI 0) (nI 0) hO) (vx_cwSW 6 hts gL_refuses_L_act rfl rfl rfl (by decide +kernel) ⟨Nat.le_of_ble_eq_true rfl, Nat.le_of_ble_eq_true rfl⟩) (preW hK hNW hCW (hLow.at hS (fun q9 _ q => rng_M q9 q)) (hX.at hS (fun q9 _ q => rng_M q9 q)) hNC) rfl rfl hl.1 rfl (lv_room (Nat.le_of_ble_eq_true rfl)) dL_refuses_616 (rmx (m := 1200) (n := 7200) (by omega) (by omega)))) hS (fun q h => h) (fun r _ H locs hp hCW hk hS => ?_)
  refine lv_as (y := -7000001) (hp.2.1 hC) ?_
  have hCW : CW G a st H := hCW
  refine lv_ldc (v := -7000001) hx hb hown (hts (.constant RL 75 (-7000001)) (List.mem_of_getElem? (i := 5) (by decide +kernel))) dL_refuses_619 ?_
  refine lv_icmp_ne (tgt := 685) hx hb dL_refuses_621 (by decide) (fun c => absurd c (by decide)) (fun _ => ?_)
  refine lv_aload_n hx hb dL_refuses_624 rfl (lv_at hl 6 rfl) ?_
  refine lv_iload hx hb dL_refuses_625 (lv_at hl 0 rfl) ?_
  refine lv_iconst (v := nI 0) hx hb dL_refuses_627 (by decide) ?_
  refine lv_iload hx hb dL_refuses_628 (lv_at hl 3 rfl) ?_
  refine lv_iconst (v := nI 0) hx hb dL_refuses_630 (by decide) ?_
  refine lv_iconst (v := nI 0) hx hb dL_refuses_631 (by decide) ?_
  have hC : cCh (nI 0) (nI 2147483647) (nI 0) (nI 0) = 2 := by decide
  refine wr_i (vx_run0 (vx_runSX (As := [.ref (a 0), .int (nI 14), .int (nI 0), .int (nI 2147483647), .int (nI 0), .int (nI 0)]) (rest := []) FX (w_act_changes l hfl G a ha t9 st (nI 0) (nI 2147483647) (nI 0) (nI 0) hO) (vx_cwSW 6 hts gL_refuses_L_act rfl rfl rfl (by decide +kernel) ⟨Nat.le_of_ble_eq_true rfl, Nat.le_of_ble_eq_true rfl⟩) (preW hK hNW hCW (hLow.at hS (fun q9 _ q => rng_M q9 q)) (hX.at hS (fun q9 _ q => rng_M q9 q)) hNC) rfl rfl hl.1 rfl (lv_room (Nat.le_of_ble_eq_true rfl)) dL_refuses_632 (rmx (m := 1200) (n := 7200) (by omega) (by omega)))) hS (fun q h => h) (fun r _ H locs hp hCW hk hS => ?_)
  refine lv_as (y := -7000002) (hp.2.2.1 hC) ?_
  have hCW : CW G a st H := hCW
  refine lv_ldc (v := -7000002) hx hb hown (hts (.constant RL 78 (-7000002)) (List.mem_of_getElem? (i := 6) (by decide +kernel))) dL_refuses_635 ?_
  refine lv_icmp_ne (tgt := 685) hx hb dL_refuses_637 (by decide) (fun c => absurd c (by decide)) (fun _ => ?_)
  refine lv_aload_n hx hb dL_refuses_640 rfl (lv_at hl 6 rfl) ?_
  refine lv_iload hx hb dL_refuses_641 (lv_at hl 0 rfl) ?_
  refine lv_iconst (v := nI 0) hx hb dL_refuses_643 (by decide) ?_
  refine lv_iconst (v := nI 0) hx hb dL_refuses_644 (by decide) ?_
  refine lv_iload hx hb dL_refuses_645 (lv_at hl 3 rfl) ?_
  refine lv_iconst (v := nI 0) hx hb dL_refuses_647 (by decide) ?_
  have hC : cCh (nI 0) (nI 0) (nI 2147483647) (nI 0) = 2 := by decide
  refine wr_i (vx_run0 (vx_runSX (As := [.ref (a 0), .int (nI 14), .int (nI 0), .int (nI 0), .int (nI 2147483647), .int (nI 0)]) (rest := []) FX (w_act_changes l hfl G a ha t9 st (nI 0) (nI 0) (nI 2147483647) (nI 0) hO) (vx_cwSW 6 hts gL_refuses_L_act rfl rfl rfl (by decide +kernel) ⟨Nat.le_of_ble_eq_true rfl, Nat.le_of_ble_eq_true rfl⟩) (preW hK hNW hCW (hLow.at hS (fun q9 _ q => rng_M q9 q)) (hX.at hS (fun q9 _ q => rng_M q9 q)) hNC) rfl rfl hl.1 rfl (lv_room (Nat.le_of_ble_eq_true rfl)) dL_refuses_648 (rmx (m := 1200) (n := 7200) (by omega) (by omega)))) hS (fun q h => h) (fun r _ H locs hp hCW hk hS => ?_)
  refine lv_as (y := -7000002) (hp.2.2.1 hC) ?_
  have hCW : CW G a st H := hCW
  refine lv_ldc (v := -7000002) hx hb hown (hts (.constant RL 78 (-7000002)) (List.mem_of_getElem? (i := 6) (by decide +kernel))) dL_refuses_651 ?_
  refine lv_icmp_ne (tgt := 685) hx hb dL_refuses_653 (by decide) (fun c => absurd c (by decide)) (fun _ => ?_)
  refine lv_aload_n hx hb dL_refuses_656 rfl (lv_at hl 6 rfl) ?_
  refine lv_iload hx hb dL_refuses_657 (lv_at hl 0 rfl) ?_
  refine lv_iconst (v := nI 0) hx hb dL_refuses_659 (by decide) ?_
  refine lv_iconst (v := nI 0) hx hb dL_refuses_660 (by decide) ?_
  refine lv_iconst (v := nI 0) hx hb dL_refuses_661 (by decide) ?_
  refine lv_iload_n hx hb dL_refuses_662 rfl (lv_at hl 9 rfl) ?_
  refine lv_iconst (v := nI 1) hx hb dL_refuses_663 (by decide) ?_
  refine lv_icmp_ne (tgt := 671) hx hb dL_refuses_664 (by decide) (fun _ => ?_) (fun c => absurd c (by decide))
  refine lv_iload hx hb dL_refuses_671 (lv_at hl 5 rfl) ?_
  have hC : cCh (nI 0) (nI 0) (nI 0) (nI 2147483647) = 2 := by decide
  refine wr_i (vx_run0 (vx_runSX (As := [.ref (a 0), .int (nI 14), .int (nI 0), .int (nI 0), .int (nI 0), .int (nI 2147483647)]) (rest := []) FX (w_act_changes l hfl G a ha t9 st (nI 0) (nI 0) (nI 0) (nI 2147483647) hO) (vx_cwSW 6 hts gL_refuses_L_act rfl rfl rfl (by decide +kernel) ⟨Nat.le_of_ble_eq_true rfl, Nat.le_of_ble_eq_true rfl⟩) (preW hK hNW hCW (hLow.at hS (fun q9 _ q => rng_M q9 q)) (hX.at hS (fun q9 _ q => rng_M q9 q)) hNC) rfl rfl hl.1 rfl (lv_room (Nat.le_of_ble_eq_true rfl)) dL_refuses_673 (rmx (m := 1200) (n := 7200) (by omega) (by omega)))) hS (fun q h => h) (fun r _ H locs hp hCW hk hS => ?_)
  refine lv_as (y := -7000002) (hp.2.2.1 hC) ?_
  have hCW : CW G a st H := hCW
  refine lv_ldc (v := -7000002) hx hb hown (hts (.constant RL 78 (-7000002)) (List.mem_of_getElem? (i := 6) (by decide +kernel))) dL_refuses_676 ?_
  refine lv_icmp_ne (tgt := 685) hx hb dL_refuses_678 (by decide) (fun c => absurd c (by decide)) (fun _ => ?_)
  refine lv_iconst (v := nI 1) hx hb dL_refuses_681 (by decide) ?_
  refine lv_goto (tgt := 686) hx hb dL_refuses_682 (by decide) ?_
  refine lv_istore (lv' := [(8, .int (nI 1)), (9, .int (nI 14)), (7, .int (-1)), (6, .int (nI 2147483647)), (5, .int (nI 2147483647)), (4, .int (nI 2147483647)), (0, .ref (a 0)), (1, .int (nI 2147483647)), (2, .int bf), (3, .int (nI 2))]) hx hb dL_refuses_686 hl (by decide) rfl (fun ls hl => ?_)
  refine lv_iinc (v := nI 15) (lv' := [(9, .int (nI 15)), (8, .int (nI 1)), (7, .int (-1)), (6, .int (nI 2147483647)), (5, .int (nI 2147483647)), (4, .int (nI 2147483647)), (0, .ref (a 0)), (1, .int (nI 2147483647)), (2, .int bf), (3, .int (nI 2))]) hx hb dL_refuses_688 hl (k := 1) rfl (by decide) (by decide) rfl (fun ls hl => ?_)
  refine lv_goto (tgt := 596) hx hb dL_refuses_691 (by decide) ?_
  refine lv_iload hx hb dL_refuses_596 (lv_at hl 0 rfl) ?_
  refine lv_bipush (v := nI 16) hx hb dL_refuses_598 (by decide) ?_
  refine lv_icmp_ge (tgt := 694) hx hb dL_refuses_600 (by decide) (fun c => absurd c (by decide)) (fun _ => ?_)
  refine lv_iload hx hb dL_refuses_603 (lv_at hl 1 rfl) ?_
  refine lv_if_eq (tgt := 694) hx hb dL_refuses_605 (by decide) (fun c => absurd c (by decide)) (fun _ => ?_)
  refine lv_aload_n hx hb dL_refuses_608 rfl (lv_at hl 6 rfl) ?_
  refine lv_iload hx hb dL_refuses_609 (lv_at hl 0 rfl) ?_
  refine lv_iload hx hb dL_refuses_611 (lv_at hl 4 rfl) ?_
  refine lv_iconst (v := -1) hx hb dL_refuses_613 (by decide) ?_
  refine lv_iconst (v := nI 0) hx hb dL_refuses_614 (by decide) ?_
  refine lv_iconst (v := nI 0) hx hb dL_refuses_615 (by decide) ?_
  have hC : cCh (nI 2147483647) (-1) (nI 0) (nI 0) = 1 := by decide
  refine wr_i (vx_run0 (vx_runSX (As := [.ref (a 0), .int (nI 15), .int (nI 2147483647), .int (-1), .int (nI 0), .int (nI 0)]) (rest := []) FX (w_act_changesAnew l hfl G a ha t9 st (nI 2147483647) (-1) (nI 0) (nI 0) hO) (vx_cwSW 6 hts gL_refuses_L_act rfl rfl rfl (by decide +kernel) ⟨Nat.le_of_ble_eq_true rfl, Nat.le_of_ble_eq_true rfl⟩) (preW hK hNW hCW (hLow.at hS (fun q9 _ q => rng_M q9 q)) (hX.at hS (fun q9 _ q => rng_M q9 q)) hNC) rfl rfl hl.1 rfl (lv_room (Nat.le_of_ble_eq_true rfl)) dL_refuses_616 (rmx (m := 1200) (n := 7200) (by omega) (by omega)))) hS (fun q h => h) (fun r _ H locs hp hCW hk hS => ?_)
  refine lv_as (y := -7000001) (hp.2.1 hC) ?_
  have hCW : CW G a st H := hCW
  refine lv_ldc (v := -7000001) hx hb hown (hts (.constant RL 75 (-7000001)) (List.mem_of_getElem? (i := 5) (by decide +kernel))) dL_refuses_619 ?_
  refine lv_icmp_ne (tgt := 685) hx hb dL_refuses_621 (by decide) (fun c => absurd c (by decide)) (fun _ => ?_)
  refine lv_aload_n hx hb dL_refuses_624 rfl (lv_at hl 6 rfl) ?_
  refine lv_iload hx hb dL_refuses_625 (lv_at hl 0 rfl) ?_
  refine lv_iconst (v := nI 0) hx hb dL_refuses_627 (by decide) ?_
  refine lv_iload hx hb dL_refuses_628 (lv_at hl 3 rfl) ?_
  refine lv_iconst (v := nI 0) hx hb dL_refuses_630 (by decide) ?_
  refine lv_iconst (v := nI 0) hx hb dL_refuses_631 (by decide) ?_
  have hC : cCh (nI 0) (nI 2147483647) (nI 0) (nI 0) = 2 := by decide
  refine wr_i (vx_run0 (vx_runSX (As := [.ref (a 0), .int (nI 15), .int (nI 0), .int (nI 2147483647), .int (nI 0), .int (nI 0)]) (rest := []) FX (w_act_changesAnew l hfl G a ha t9 st (nI 0) (nI 2147483647) (nI 0) (nI 0) hO) (vx_cwSW 6 hts gL_refuses_L_act rfl rfl rfl (by decide +kernel) ⟨Nat.le_of_ble_eq_true rfl, Nat.le_of_ble_eq_true rfl⟩) (preW hK hNW hCW (hLow.at hS (fun q9 _ q => rng_M q9 q)) (hX.at hS (fun q9 _ q => rng_M q9 q)) hNC) rfl rfl hl.1 rfl (lv_room (Nat.le_of_ble_eq_true rfl)) dL_refuses_632 (rmx (m := 1200) (n := 7200) (by omega) (by omega)))) hS (fun q h => h) (fun r _ H locs hp hCW hk hS => ?_)
  refine lv_as (y := -7000002) (hp.2.2.1 hC) ?_
  have hCW : CW G a st H := hCW
  refine lv_ldc (v := -7000002) hx hb hown (hts (.constant RL 78 (-7000002)) (List.mem_of_getElem? (i := 6) (by decide +kernel))) dL_refuses_635 ?_
  refine lv_icmp_ne (tgt := 685) hx hb dL_refuses_637 (by decide) (fun c => absurd c (by decide)) (fun _ => ?_)
  refine lv_aload_n hx hb dL_refuses_640 rfl (lv_at hl 6 rfl) ?_
  refine lv_iload hx hb dL_refuses_641 (lv_at hl 0 rfl) ?_
  refine lv_iconst (v := nI 0) hx hb dL_refuses_643 (by decide) ?_
  refine lv_iconst (v := nI 0) hx hb dL_refuses_644 (by decide) ?_
  refine lv_iload hx hb dL_refuses_645 (lv_at hl 3 rfl) ?_
  refine lv_iconst (v := nI 0) hx hb dL_refuses_647 (by decide) ?_
  have hC : cCh (nI 0) (nI 0) (nI 2147483647) (nI 0) = 2 := by decide
  refine wr_i (vx_run0 (vx_runSX (As := [.ref (a 0), .int (nI 15), .int (nI 0), .int (nI 0), .int (nI 2147483647), .int (nI 0)]) (rest := []) FX (w_act_changesAnew l hfl G a ha t9 st (nI 0) (nI 0) (nI 2147483647) (nI 0) hO) (vx_cwSW 6 hts gL_refuses_L_act rfl rfl rfl (by decide +kernel) ⟨Nat.le_of_ble_eq_true rfl, Nat.le_of_ble_eq_true rfl⟩) (preW hK hNW hCW (hLow.at hS (fun q9 _ q => rng_M q9 q)) (hX.at hS (fun q9 _ q => rng_M q9 q)) hNC) rfl rfl hl.1 rfl (lv_room (Nat.le_of_ble_eq_true rfl)) dL_refuses_648 (rmx (m := 1200) (n := 7200) (by omega) (by omega)))) hS (fun q h => h) (fun r _ H locs hp hCW hk hS => ?_)
  refine lv_as (y := -7000002) (hp.2.2.1 hC) ?_
  have hCW : CW G a st H := hCW
  refine lv_ldc (v := -7000002) hx hb hown (hts (.constant RL 78 (-7000002)) (List.mem_of_getElem? (i := 6) (by decide +kernel))) dL_refuses_651 ?_
  refine lv_icmp_ne (tgt := 685) hx hb dL_refuses_653 (by decide) (fun c => absurd c (by decide)) (fun _ => ?_)
  refine lv_aload_n hx hb dL_refuses_656 rfl (lv_at hl 6 rfl) ?_
  refine lv_iload hx hb dL_refuses_657 (lv_at hl 0 rfl) ?_
  refine lv_iconst (v := nI 0) hx hb dL_refuses_659 (by decide) ?_
  refine lv_iconst (v := nI 0) hx hb dL_refuses_660 (by decide) ?_
  refine lv_iconst (v := nI 0) hx hb dL_refuses_661 (by decide) ?_
  refine lv_iload_n hx hb dL_refuses_662 rfl (lv_at hl 9 rfl) ?_
  refine lv_iconst (v := nI 1) hx hb dL_refuses_663 (by decide) ?_
  refine lv_icmp_ne (tgt := 671) hx hb dL_refuses_664 (by decide) (fun _ => ?_) (fun c => absurd c (by decide))
  refine lv_iload hx hb dL_refuses_671 (lv_at hl 5 rfl) ?_
  have hC : cCh (nI 0) (nI 0) (nI 0) (nI 2147483647) = 2 := by decide
  refine wr_i (vx_run0 (vx_runSX (As := [.ref (a 0), .int (nI 15), .int (nI 0), .int (nI 0), .int (nI 0), .int (nI 2147483647)]) (rest := []) FX (w_act_changesAnew l hfl G a ha t9 st (nI 0) (nI 0) (nI 0) (nI 2147483647) hO) (vx_cwSW 6 hts gL_refuses_L_act rfl rfl rfl (by decide +kernel) ⟨Nat.le_of_ble_eq_true rfl, Nat.le_of_ble_eq_true rfl⟩) (preW hK hNW hCW (hLow.at hS (fun q9 _ q => rng_M q9 q)) (hX.at hS (fun q9 _ q => rng_M q9 q)) hNC) rfl rfl hl.1 rfl (lv_room (Nat.le_of_ble_eq_true rfl)) dL_refuses_673 (rmx (m := 1200) (n := 7200) (by omega) (by omega)))) hS (fun q h => h) (fun r _ H locs hp hCW hk hS => ?_)
  refine lv_as (y := -7000002) (hp.2.2.1 hC) ?_
  have hCW : CW G a st H := hCW
  refine lv_ldc (v := -7000002) hx hb hown (hts (.constant RL 78 (-7000002)) (List.mem_of_getElem? (i := 6) (by decide +kernel))) dL_refuses_676 ?_
  refine lv_icmp_ne (tgt := 685) hx hb dL_refuses_678 (by decide) (fun c => absurd c (by decide)) (fun _ => ?_)
  refine lv_iconst (v := nI 1) hx hb dL_refuses_681 (by decide) ?_
  refine lv_goto (tgt := 686) hx hb dL_refuses_682 (by decide) ?_
  refine lv_istore (lv' := [(8, .int (nI 1)), (9, .int (nI 15)), (7, .int (-1)), (6, .int (nI 2147483647)), (5, .int (nI 2147483647)), (4, .int (nI 2147483647)), (0, .ref (a 0)), (1, .int (nI 2147483647)), (2, .int bf), (3, .int (nI 2))]) hx hb dL_refuses_686 hl (by decide) rfl (fun ls hl => ?_)
  refine lv_iinc (v := nI 16) (lv' := [(9, .int (nI 16)), (8, .int (nI 1)), (7, .int (-1)), (6, .int (nI 2147483647)), (5, .int (nI 2147483647)), (4, .int (nI 2147483647)), (0, .ref (a 0)), (1, .int (nI 2147483647)), (2, .int bf), (3, .int (nI 2))]) hx hb dL_refuses_688 hl (k := 1) rfl (by decide) (by decide) rfl (fun ls hl => ?_)
  refine lv_goto (tgt := 596) hx hb dL_refuses_691 (by decide) ?_
  refine lv_iload hx hb dL_refuses_596 (lv_at hl 0 rfl) ?_
  refine lv_bipush (v := nI 16) hx hb dL_refuses_598 (by decide) ?_
  refine lv_icmp_ge (tgt := 694) hx hb dL_refuses_600 (by decide) (fun _ => ?_) (fun c => absurd c (by decide))
  refine lv_iload hx hb dL_refuses_694 (lv_at hl 1 rfl) ?_
  refine lv_if_eq (tgt := 935) hx hb dL_refuses_696 (by decide) (fun c => absurd c (by decide)) (fun _ => ?_)
  refine lv_aload_n hx hb dL_refuses_699 rfl (lv_at hl 6 rfl) ?_
  refine lv_bipush (v := nI 16) hx hb dL_refuses_700 (by decide) ?_
  refine lv_iload hx hb dL_refuses_702 (lv_at hl 4 rfl) ?_
  refine lv_bipush (v := nI 9) hx hb dL_refuses_704 (by decide) ?_
  refine lv_bipush (v := nI 9) hx hb dL_refuses_706 (by decide) ?_
  refine lv_iconst (v := nI 0) hx hb dL_refuses_708 (by decide) ?_
  have hC : cOff st.1 (nI 2147483647) (nI 9) (nI 9) = 1 := rc_of (by decide)
  refine wr_i (vx_run0 (vx_runSX (As := [.ref (a 0), .int (nI 16), .int (nI 2147483647), .int (nI 9), .int (nI 9), .int (nI 0)]) (rest := []) FX (w_act_off l hfl G a ha t9 st (nI 2147483647) (nI 9) (nI 9) (nI 0) hO) (vx_cwSW 6 hts gL_refuses_L_act rfl rfl rfl (by decide +kernel) ⟨Nat.le_of_ble_eq_true rfl, Nat.le_of_ble_eq_true rfl⟩) (preW hK hNW hCW (hLow.at hS (fun q9 _ q => rng_M q9 q)) (hX.at hS (fun q9 _ q => rng_M q9 q)) hNC) rfl rfl hl.1 rfl (lv_room (Nat.le_of_ble_eq_true rfl)) dL_refuses_709 (rmx (m := 1200) (n := 7200) (by omega) (by omega)))) hS (fun q h => h) (fun r _ H locs hp hCW hk hS => ?_)
  refine lv_as (y := -7000001) (hp.2.1 hC) ?_
  have hCW : CW G a st H := hCW
  refine lv_ldc (v := -7000001) hx hb hown (hts (.constant RL 75 (-7000001)) (List.mem_of_getElem? (i := 5) (by decide +kernel))) dL_refuses_712 ?_
  refine lv_icmp_ne (tgt := 935) hx hb dL_refuses_714 (by decide) (fun c => absurd c (by decide)) (fun _ => ?_)
  refine lv_aload_n hx hb dL_refuses_717 rfl (lv_at hl 6 rfl) ?_
  refine lv_bipush (v := nI 16) hx hb dL_refuses_718 (by decide) ?_
  refine lv_iconst (v := nI 0) hx hb dL_refuses_720 (by decide) ?_
  refine lv_iload_n hx hb dL_refuses_721 rfl (lv_at hl 9 rfl) ?_
  refine lv_iconst (v := nI 1) hx hb dL_refuses_722 (by decide) ?_
  refine lv_icmp_ne (tgt := 730) hx hb dL_refuses_723 (by decide) (fun _ => ?_) (fun c => absurd c (by decide))
  refine lv_iload hx hb dL_refuses_730 (lv_at hl 5 rfl) ?_
  refine lv_iconst (v := nI 0) hx hb dL_refuses_732 (by decide) ?_
  refine lv_iconst (v := nI 0) hx hb dL_refuses_733 (by decide) ?_
  have hC : cOff st.1 (nI 0) (nI 2147483647) (nI 0) = 2 := rc_oo (by decide) (by decide)
  refine wr_i (vx_run0 (vx_runSX (As := [.ref (a 0), .int (nI 16), .int (nI 0), .int (nI 2147483647), .int (nI 0), .int (nI 0)]) (rest := []) FX (w_act_off l hfl G a ha t9 st (nI 0) (nI 2147483647) (nI 0) (nI 0) hO) (vx_cwSW 6 hts gL_refuses_L_act rfl rfl rfl (by decide +kernel) ⟨Nat.le_of_ble_eq_true rfl, Nat.le_of_ble_eq_true rfl⟩) (preW hK hNW hCW (hLow.at hS (fun q9 _ q => rng_M q9 q)) (hX.at hS (fun q9 _ q => rng_M q9 q)) hNC) rfl rfl hl.1 rfl (lv_room (Nat.le_of_ble_eq_true rfl)) dL_refuses_734 (rmx (m := 1200) (n := 7200) (by omega) (by omega)))) hS (fun q h => h) (fun r _ H locs hp hCW hk hS => ?_)
  refine lv_as (y := -7000002) (hp.2.2.1 hC) ?_
  have hCW : CW G a st H := hCW
  refine lv_ldc (v := -7000002) hx hb hown (hts (.constant RL 78 (-7000002)) (List.mem_of_getElem? (i := 6) (by decide +kernel))) dL_refuses_737 ?_
  refine lv_icmp_ne (tgt := 935) hx hb dL_refuses_739 (by decide) (fun c => absurd c (by decide)) (fun _ => ?_)
  refine lv_aload_n hx hb dL_refuses_742 rfl (lv_at hl 6 rfl) ?_
  refine lv_bipush (v := nI 16) hx hb dL_refuses_743 (by decide) ?_
  refine lv_iconst (v := nI 0) hx hb dL_refuses_745 (by decide) ?_
  refine lv_iconst (v := nI 0) hx hb dL_refuses_746 (by decide) ?_
  refine lv_iload_n hx hb dL_refuses_747 rfl (lv_at hl 9 rfl) ?_
  refine lv_iconst (v := nI 1) hx hb dL_refuses_748 (by decide) ?_
  refine lv_icmp_ne (tgt := 756) hx hb dL_refuses_749 (by decide) (fun _ => ?_) (fun c => absurd c (by decide))
  refine lv_iload hx hb dL_refuses_756 (lv_at hl 5 rfl) ?_
  refine lv_iconst (v := nI 0) hx hb dL_refuses_758 (by decide) ?_
  have hC : cOff st.1 (nI 0) (nI 0) (nI 2147483647) = 2 := rc_ow (by decide) (by decide)
  refine wr_i (vx_run0 (vx_runSX (As := [.ref (a 0), .int (nI 16), .int (nI 0), .int (nI 0), .int (nI 2147483647), .int (nI 0)]) (rest := []) FX (w_act_off l hfl G a ha t9 st (nI 0) (nI 0) (nI 2147483647) (nI 0) hO) (vx_cwSW 6 hts gL_refuses_L_act rfl rfl rfl (by decide +kernel) ⟨Nat.le_of_ble_eq_true rfl, Nat.le_of_ble_eq_true rfl⟩) (preW hK hNW hCW (hLow.at hS (fun q9 _ q => rng_M q9 q)) (hX.at hS (fun q9 _ q => rng_M q9 q)) hNC) rfl rfl hl.1 rfl (lv_room (Nat.le_of_ble_eq_true rfl)) dL_refuses_759 (rmx (m := 1200) (n := 7200) (by omega) (by omega)))) hS (fun q h => h) (fun r _ H locs hp hCW hk hS => ?_)
  refine lv_as (y := -7000002) (hp.2.2.1 hC) ?_
  have hCW : CW G a st H := hCW
  refine lv_ldc (v := -7000002) hx hb hown (hts (.constant RL 78 (-7000002)) (List.mem_of_getElem? (i := 6) (by decide +kernel))) dL_refuses_762 ?_
  refine lv_icmp_ne (tgt := 935) hx hb dL_refuses_764 (by decide) (fun c => absurd c (by decide)) (fun _ => ?_)
  refine lv_aload_n hx hb dL_refuses_767 rfl (lv_at hl 6 rfl) ?_
  refine lv_bipush (v := nI 17) hx hb dL_refuses_768 (by decide) ?_
  refine lv_iload hx hb dL_refuses_770 (lv_at hl 4 rfl) ?_
  refine lv_iconst (v := nI 0) hx hb dL_refuses_772 (by decide) ?_
  refine lv_iconst (v := nI 0) hx hb dL_refuses_773 (by decide) ?_
  refine lv_iconst (v := nI 0) hx hb dL_refuses_774 (by decide) ?_
  have hC : cUns st.1 (nI 2147483647) (nI 0) (nI 0) = 1 := rc_un (by decide)
  refine wr_i (vx_run0 (vx_runSX (As := [.ref (a 0), .int (nI 17), .int (nI 2147483647), .int (nI 0), .int (nI 0), .int (nI 0)]) (rest := []) FX (w_act_unseen l hfl G a ha t9 st (nI 2147483647) (nI 0) (nI 0) (nI 0) hO) (vx_cwSW 6 hts gL_refuses_L_act rfl rfl rfl (by decide +kernel) ⟨Nat.le_of_ble_eq_true rfl, Nat.le_of_ble_eq_true rfl⟩) (preW hK hNW hCW (hLow.at hS (fun q9 _ q => rng_M q9 q)) (hX.at hS (fun q9 _ q => rng_M q9 q)) hNC) rfl rfl hl.1 rfl (lv_room (Nat.le_of_ble_eq_true rfl)) dL_refuses_775 (rmx (m := 1200) (n := 7200) (by omega) (by omega)))) hS (fun q h => h) (fun r _ H locs hp hCW hk hS => ?_)
  refine lv_as (y := -7000001) (hp.2.1 hC) ?_
  have hCW : CW G a st H := hCW
  refine lv_ldc (v := -7000001) hx hb hown (hts (.constant RL 75 (-7000001)) (List.mem_of_getElem? (i := 5) (by decide +kernel))) dL_refuses_778 ?_
  refine lv_icmp_ne (tgt := 935) hx hb dL_refuses_780 (by decide) (fun c => absurd c (by decide)) (fun _ => ?_)
  refine lv_aload_n hx hb dL_refuses_783 rfl (lv_at hl 6 rfl) ?_
  refine lv_bipush (v := nI 17) hx hb dL_refuses_784 (by decide) ?_
  refine lv_iconst (v := nI 0) hx hb dL_refuses_786 (by decide) ?_
  refine lv_iload_n hx hb dL_refuses_787 rfl (lv_at hl 9 rfl) ?_
  refine lv_iconst (v := nI 1) hx hb dL_refuses_788 (by decide) ?_
  refine lv_icmp_ne (tgt := 796) hx hb dL_refuses_789 (by decide) (fun _ => ?_) (fun c => absurd c (by decide))
  refine lv_iload hx hb dL_refuses_796 (lv_at hl 5 rfl) ?_
  refine lv_iconst (v := nI 5) hx hb dL_refuses_798 (by decide) ?_
  refine lv_iconst (v := nI 0) hx hb dL_refuses_799 (by decide) ?_
  have hC : cUns st.1 (nI 0) (nI 2147483647) (nI 5) = 2 := rc_uo (by decide) (by decide)
  refine wr_i (vx_run0 (vx_runSX (As := [.ref (a 0), .int (nI 17), .int (nI 0), .int (nI 2147483647), .int (nI 5), .int (nI 0)]) (rest := []) FX (w_act_unseen l hfl G a ha t9 st (nI 0) (nI 2147483647) (nI 5) (nI 0) hO) (vx_cwSW 6 hts gL_refuses_L_act rfl rfl rfl (by decide +kernel) ⟨Nat.le_of_ble_eq_true rfl, Nat.le_of_ble_eq_true rfl⟩) (preW hK hNW hCW (hLow.at hS (fun q9 _ q => rng_M q9 q)) (hX.at hS (fun q9 _ q => rng_M q9 q)) hNC) rfl rfl hl.1 rfl (lv_room (Nat.le_of_ble_eq_true rfl)) dL_refuses_800 (rmx (m := 1200) (n := 7200) (by omega) (by omega)))) hS (fun q h => h) (fun r _ H locs hp hCW hk hS => ?_)
  refine lv_as (y := -7000002) (hp.2.2.1 hC) ?_
  have hCW : CW G a st H := hCW
  refine lv_ldc (v := -7000002) hx hb hown (hts (.constant RL 78 (-7000002)) (List.mem_of_getElem? (i := 6) (by decide +kernel))) dL_refuses_803 ?_
  refine lv_icmp_ne (tgt := 935) hx hb dL_refuses_805 (by decide) (fun c => absurd c (by decide)) (fun _ => ?_)
  refine lv_aload_n hx hb dL_refuses_808 rfl (lv_at hl 6 rfl) ?_
  refine lv_bipush (v := nI 17) hx hb dL_refuses_809 (by decide) ?_
  refine lv_iconst (v := nI 0) hx hb dL_refuses_811 (by decide) ?_
  refine lv_iconst (v := nI 0) hx hb dL_refuses_812 (by decide) ?_
  refine lv_iload_n hx hb dL_refuses_813 rfl (lv_at hl 9 rfl) ?_
  refine lv_if_ne (tgt := 821) hx hb dL_refuses_814 (by decide) (fun _ => ?_) (fun c => absurd c (by decide))
  refine lv_iload_n hx hb dL_refuses_821 rfl (lv_at hl 9 rfl) ?_
  refine lv_iconst (v := nI 1) hx hb dL_refuses_822 (by decide) ?_
  refine lv_icmp_ne (tgt := 831) hx hb dL_refuses_823 (by decide) (fun _ => ?_) (fun c => absurd c (by decide))
  refine lv_iload hx hb dL_refuses_831 (lv_at hl 5 rfl) ?_
  refine lv_iconst (v := nI 0) hx hb dL_refuses_833 (by decide) ?_
  have hC : cUns st.1 (nI 0) (nI 0) (nI 2147483647) = 2 := rc_uw (by decide) (by decide)
  refine wr_i (vx_run0 (vx_runSX (As := [.ref (a 0), .int (nI 17), .int (nI 0), .int (nI 0), .int (nI 2147483647), .int (nI 0)]) (rest := []) FX (w_act_unseen l hfl G a ha t9 st (nI 0) (nI 0) (nI 2147483647) (nI 0) hO) (vx_cwSW 6 hts gL_refuses_L_act rfl rfl rfl (by decide +kernel) ⟨Nat.le_of_ble_eq_true rfl, Nat.le_of_ble_eq_true rfl⟩) (preW hK hNW hCW (hLow.at hS (fun q9 _ q => rng_M q9 q)) (hX.at hS (fun q9 _ q => rng_M q9 q)) hNC) rfl rfl hl.1 rfl (lv_room (Nat.le_of_ble_eq_true rfl)) dL_refuses_834 (rmx (m := 1200) (n := 7200) (by omega) (by omega)))) hS (fun q h => h) (fun r _ H locs hp hCW hk hS => ?_)
  refine lv_as (y := -7000002) (hp.2.2.1 hC) ?_
  have hCW : CW G a st H := hCW
  refine lv_ldc (v := -7000002) hx hb hown (hts (.constant RL 78 (-7000002)) (List.mem_of_getElem? (i := 6) (by decide +kernel))) dL_refuses_837 ?_
  refine lv_icmp_ne (tgt := 935) hx hb dL_refuses_839 (by decide) (fun c => absurd c (by decide)) (fun _ => ?_)
  refine lv_aload_n hx hb dL_refuses_842 rfl (lv_at hl 6 rfl) ?_
  refine lv_bipush (v := nI 18) hx hb dL_refuses_843 (by decide) ?_
  refine lv_iload hx hb dL_refuses_845 (lv_at hl 4 rfl) ?_
  refine lv_iconst (v := nI 0) hx hb dL_refuses_847 (by decide) ?_
  refine lv_iconst (v := nI 0) hx hb dL_refuses_848 (by decide) ?_
  refine lv_iconst (v := nI 0) hx hb dL_refuses_849 (by decide) ?_
  have hC : cUn st.1 (nI 2147483647) (nI 0) = 1 := rc_ul (by decide)
  refine wr_i (vx_run0 (vx_runSX (As := [.ref (a 0), .int (nI 18), .int (nI 2147483647), .int (nI 0), .int (nI 0), .int (nI 0)]) (rest := []) FX (w_act_unlike l hfl G a ha t9 st (nI 2147483647) (nI 0) (nI 0) (nI 0) hO) (vx_cwSW 6 hts gL_refuses_L_act rfl rfl rfl (by decide +kernel) ⟨Nat.le_of_ble_eq_true rfl, Nat.le_of_ble_eq_true rfl⟩) (preW hK hNW hCW (hLow.at hS (fun q9 _ q => rng_M q9 q)) (hX.at hS (fun q9 _ q => rng_M q9 q)) hNC) rfl rfl hl.1 rfl (lv_room (Nat.le_of_ble_eq_true rfl)) dL_refuses_850 (rmx (m := 1200) (n := 7200) (by omega) (by omega)))) hS (fun q h => h) (fun r _ H locs hp hCW hk hS => ?_)
  refine lv_as (y := -7000001) (hp.2.1 hC) ?_
  have hCW : CW G a st H := hCW
  refine lv_ldc (v := -7000001) hx hb hown (hts (.constant RL 75 (-7000001)) (List.mem_of_getElem? (i := 5) (by decide +kernel))) dL_refuses_853 ?_
  refine lv_icmp_ne (tgt := 935) hx hb dL_refuses_855 (by decide) (fun c => absurd c (by decide)) (fun _ => ?_)
  refine lv_aload_n hx hb dL_refuses_858 rfl (lv_at hl 6 rfl) ?_
  refine lv_bipush (v := nI 18) hx hb dL_refuses_859 (by decide) ?_
  refine lv_iconst (v := nI 0) hx hb dL_refuses_861 (by decide) ?_
  refine lv_iload hx hb dL_refuses_862 (lv_at hl 4 rfl) ?_
  refine lv_iconst (v := nI 0) hx hb dL_refuses_864 (by decide) ?_
  refine lv_iconst (v := nI 0) hx hb dL_refuses_865 (by decide) ?_
  have hC : cUn st.1 (nI 0) (nI 2147483647) = 1 := rc_uv (by decide)
  refine wr_i (vx_run0 (vx_runSX (As := [.ref (a 0), .int (nI 18), .int (nI 0), .int (nI 2147483647), .int (nI 0), .int (nI 0)]) (rest := []) FX (w_act_unlike l hfl G a ha t9 st (nI 0) (nI 2147483647) (nI 0) (nI 0) hO) (vx_cwSW 6 hts gL_refuses_L_act rfl rfl rfl (by decide +kernel) ⟨Nat.le_of_ble_eq_true rfl, Nat.le_of_ble_eq_true rfl⟩) (preW hK hNW hCW (hLow.at hS (fun q9 _ q => rng_M q9 q)) (hX.at hS (fun q9 _ q => rng_M q9 q)) hNC) rfl rfl hl.1 rfl (lv_room (Nat.le_of_ble_eq_true rfl)) dL_refuses_866 (rmx (m := 1200) (n := 7200) (by omega) (by omega)))) hS (fun q h => h) (fun r _ H locs hp hCW hk hS => ?_)
  refine lv_as (y := -7000001) (hp.2.1 hC) ?_
  have hCW : CW G a st H := hCW
  refine lv_ldc (v := -7000001) hx hb hown (hts (.constant RL 75 (-7000001)) (List.mem_of_getElem? (i := 5) (by decide +kernel))) dL_refuses_869 ?_
  refine lv_icmp_ne (tgt := 935) hx hb dL_refuses_871 (by decide) (fun c => absurd c (by decide)) (fun _ => ?_)
  refine lv_aload_n hx hb dL_refuses_874 rfl (lv_at hl 6 rfl) ?_
  refine lv_bipush (v := nI 19) hx hb dL_refuses_875 (by decide) ?_
  refine lv_iconst (v := nI 0) hx hb dL_refuses_877 (by decide) ?_
  refine lv_iload_n hx hb dL_refuses_878 rfl (lv_at hl 9 rfl) ?_
  refine lv_iconst (v := nI 1) hx hb dL_refuses_879 (by decide) ?_
  refine lv_icmp_ne (tgt := 888) hx hb dL_refuses_880 (by decide) (fun _ => ?_) (fun c => absurd c (by decide))
  refine lv_iload hx hb dL_refuses_888 (lv_at hl 5 rfl) ?_
  refine lv_iconst (v := nI 0) hx hb dL_refuses_890 (by decide) ?_
  refine lv_iconst (v := nI 0) hx hb dL_refuses_891 (by decide) ?_
  have hC : cDi (nI 0) (nI 2147483647) = 1 := by decide
  refine wr_i (vx_run0 (vx_runSX (As := [.ref (a 0), .int (nI 19), .int (nI 0), .int (nI 2147483647), .int (nI 0), .int (nI 0)]) (rest := []) FX (w_act_digit l hfl G a ha t9 st (nI 0) (nI 2147483647) (nI 0) (nI 0) hO) (vx_cwSW 6 hts gL_refuses_L_act rfl rfl rfl (by decide +kernel) ⟨Nat.le_of_ble_eq_true rfl, Nat.le_of_ble_eq_true rfl⟩) (preW hK hNW hCW (hLow.at hS (fun q9 _ q => rng_M q9 q)) (hX.at hS (fun q9 _ q => rng_M q9 q)) hNC) rfl rfl hl.1 rfl (lv_room (Nat.le_of_ble_eq_true rfl)) dL_refuses_892 (rmx (m := 1200) (n := 7200) (by omega) (by omega)))) hS (fun q h => h) (fun r _ H locs hp hCW hk hS => ?_)
  refine lv_as (y := -7000001) (hp.2.1 hC) ?_
  have hCW : CW G a st H := hCW
  refine lv_ldc (v := -7000001) hx hb hown (hts (.constant RL 75 (-7000001)) (List.mem_of_getElem? (i := 5) (by decide +kernel))) dL_refuses_895 ?_
  refine lv_icmp_ne (tgt := 935) hx hb dL_refuses_897 (by decide) (fun c => absurd c (by decide)) (fun _ => ?_)
  refine lv_aload_n hx hb dL_refuses_900 rfl (lv_at hl 6 rfl) ?_
  refine lv_bipush (v := nI 19) hx hb dL_refuses_901 (by decide) ?_
  refine lv_iload hx hb dL_refuses_903 (lv_at hl 2 rfl) ?_
  refine lv_iconst (v := nI 0) hx hb dL_refuses_905 (by decide) ?_
  refine lv_iconst (v := nI 0) hx hb dL_refuses_906 (by decide) ?_
  refine lv_iconst (v := nI 0) hx hb dL_refuses_907 (by decide) ?_
  have hC : cDi (-1) (nI 0) = 2 := by decide
  refine wr_i (vx_run0 (vx_runSX (As := [.ref (a 0), .int (nI 19), .int (-1), .int (nI 0), .int (nI 0), .int (nI 0)]) (rest := []) FX (w_act_digit l hfl G a ha t9 st (-1) (nI 0) (nI 0) (nI 0) hO) (vx_cwSW 6 hts gL_refuses_L_act rfl rfl rfl (by decide +kernel) ⟨Nat.le_of_ble_eq_true rfl, Nat.le_of_ble_eq_true rfl⟩) (preW hK hNW hCW (hLow.at hS (fun q9 _ q => rng_M q9 q)) (hX.at hS (fun q9 _ q => rng_M q9 q)) hNC) rfl rfl hl.1 rfl (lv_room (Nat.le_of_ble_eq_true rfl)) dL_refuses_908 (rmx (m := 1200) (n := 7200) (by omega) (by omega)))) hS (fun q h => h) (fun r _ H locs hp hCW hk hS => ?_)
  refine lv_as (y := -7000002) (hp.2.2.1 hC) ?_
  have hCW : CW G a st H := hCW
  refine lv_ldc (v := -7000002) hx hb hown (hts (.constant RL 78 (-7000002)) (List.mem_of_getElem? (i := 6) (by decide +kernel))) dL_refuses_911 ?_
  refine lv_icmp_ne (tgt := 935) hx hb dL_refuses_913 (by decide) (fun c => absurd c (by decide)) (fun _ => ?_)
  refine lv_aload_n hx hb dL_refuses_916 rfl (lv_at hl 6 rfl) ?_
  refine lv_bipush (v := nI 19) hx hb dL_refuses_917 (by decide) ?_
  refine lv_iconst (v := -1) hx hb dL_refuses_919 (by decide) ?_
  refine lv_iconst (v := -1) hx hb dL_refuses_920 (by decide) ?_
  refine lv_iconst (v := nI 0) hx hb dL_refuses_921 (by decide) ?_
  refine lv_iconst (v := nI 0) hx hb dL_refuses_922 (by decide) ?_
  have hC : cDi (-1) (-1) = 1 := by decide
  refine wr_i (vx_run0 (vx_runSX (As := [.ref (a 0), .int (nI 19), .int (-1), .int (-1), .int (nI 0), .int (nI 0)]) (rest := []) FX (w_act_digit l hfl G a ha t9 st (-1) (-1) (nI 0) (nI 0) hO) (vx_cwSW 6 hts gL_refuses_L_act rfl rfl rfl (by decide +kernel) ⟨Nat.le_of_ble_eq_true rfl, Nat.le_of_ble_eq_true rfl⟩) (preW hK hNW hCW (hLow.at hS (fun q9 _ q => rng_M q9 q)) (hX.at hS (fun q9 _ q => rng_M q9 q)) hNC) rfl rfl hl.1 rfl (lv_room (Nat.le_of_ble_eq_true rfl)) dL_refuses_923 (rmx (m := 1200) (n := 7200) (by omega) (by omega)))) hS (fun q h => h) (fun r _ H locs hp hCW hk hS => ?_)
  refine lv_as (y := -7000001) (hp.2.1 hC) ?_
  have hCW : CW G a st H := hCW
  refine lv_ldc (v := -7000001) hx hb hown (hts (.constant RL 75 (-7000001)) (List.mem_of_getElem? (i := 5) (by decide +kernel))) dL_refuses_926 ?_
  refine lv_icmp_ne (tgt := 935) hx hb dL_refuses_928 (by decide) (fun c => absurd c (by decide)) (fun _ => ?_)
  refine lv_iconst (v := nI 1) hx hb dL_refuses_931 (by decide) ?_
  refine lv_goto (tgt := 936) hx hb dL_refuses_932 (by decide) ?_
  refine lv_istore (lv' := [(8, .int (nI 1)), (9, .int (nI 16)), (7, .int (-1)), (6, .int (nI 2147483647)), (5, .int (nI 2147483647)), (4, .int (nI 2147483647)), (0, .ref (a 0)), (1, .int (nI 2147483647)), (2, .int bf), (3, .int (nI 2))]) hx hb dL_refuses_936 hl (by decide) rfl (fun ls hl => ?_)
  refine lv_iconst (v := nI 0) hx hb dL_refuses_938 (by decide) ?_
  refine lv_istore (lv' := [(9, .int (nI 0)), (8, .int (nI 1)), (7, .int (-1)), (6, .int (nI 2147483647)), (5, .int (nI 2147483647)), (4, .int (nI 2147483647)), (0, .ref (a 0)), (1, .int (nI 2147483647)), (2, .int bf), (3, .int (nI 2))]) hx hb dL_refuses_939 hl (by decide) rfl (fun ls hl => ?_)
  exact wid (by omega) (by omega) (K _ _ _ hS hCW hl)
set_option maxHeartbeats 4000000 in
set_option maxRecDepth 100000 in
theorem rf_B3 {p : Program} {l : Launch} {e : Env} {s : State} {m : MethodId} {args : Array Value} {below : List Frame} {meth : Method} {c : Code} {Q : State → Prop} {G : GG} {a : Nat → Nat} {t9 : Nat} (J : LJ p l s m meth c args cL_refuses (some .boolean) 12 wsL_refuses G a t9) {st : ST} (hO : OKS st) {bf : Int32}  (c0 s0 : Nat) (hc : c0 + 65 ≤ 1200) (hs : s0 + 390 ≤ 7200) {H : Heap} {locs : List Loc} {ls : Array Slot} (hS : va_S (rng a 0 93) s.heap H locs) (hCW : CW G a st H) (hl : lv_has ls 12 [(8, .int (nI 1)), (7, .int (-2147483648)), (6, .int (-2147483648)), (5, .int (-2147483648)), (4, .int (-2147483648)), (0, .ref (a 0)), (1, .int (nI 2147483647)), (2, .int bf), (3, .int (nI 3))]) (K : ∀ (H : Heap) (locs : List Loc) (ls : Array Slot), va_S (rng a 0 93) s.heap H locs → CW G a st H → lv_has ls 12 [(9, .int (nI 0)), (8, .int (nI 1)), (7, .int (-2147483648)), (6, .int (-2147483648)), (5, .int (-2147483648)), (4, .int (-2147483648)), (0, .ref (a 0)), (1, .int (nI 2147483647)), (2, .int bf), (3, .int (nI 3))] → W p l e ({ frames := 10, cells := 1200, slots := 7200, locals := 194 } : Room) s m args below meth c H locs (c0 + 65) (s0 + 390) Q (F0 m 941 ls [])) : W p l e ({ frames := 10, cells := 1200, slots := 7200, locals := 194 } : Room) s m args below meth c H locs c0 s0 Q (F0 m 592 ls []) := by
  obtain ⟨hfl, hx, hb, hr, hml, hown, hts, hlocks, ha, hK, hNW, hLow, hX, hNC⟩ := J
  have FX : CallFix p m c cL_refuses 12 s args wsL_refuses RL := ⟨hx, hb, hml, hown, hts⟩
  refine lv_bipush (v := nI 14) hx hb dL_refuses_592 (by decide) ?_
  refine lv_istore (lv' := [(9, .int (nI 14)), (8, .int (nI 1)), (7, .int (-2147483648)), (6, .int (-2147483648)), (5, .int (-2147483648)), (4, .int (-2147483648)), (0, .ref (a 0)), (1, .int (nI 2147483647)), (2, .int bf), (3, .int (nI 3))]) hx hb dL_refuses_594 hl (by decide) rfl (fun ls hl => ?_)
  refine lv_iload hx hb dL_refuses_596 (lv_at hl 0 rfl) ?_
  refine lv_bipush (v := nI 16) hx hb dL_refuses_598 (by decide) ?_
  refine lv_icmp_ge (tgt := 694) hx hb dL_refuses_600 (by decide) (fun c => absurd c (by decide)) (fun _ => ?_)
  refine lv_iload hx hb dL_refuses_603 (lv_at hl 1 rfl) ?_
  refine lv_if_eq (tgt := 694) hx hb dL_refuses_605 (by decide) (fun c => absurd c (by decide)) (fun _ => ?_)
  refine lv_aload_n hx hb dL_refuses_608 rfl (lv_at hl 6 rfl) ?_
  refine lv_iload hx hb dL_refuses_609 (lv_at hl 0 rfl) ?_
  refine lv_iload hx hb dL_refuses_611 (lv_at hl 4 rfl) ?_
  refine lv_iconst (v := -1) hx hb dL_refuses_613 (by decide) ?_
  refine lv_iconst (v := nI 0) hx hb dL_refuses_614 (by decide) ?_
  refine lv_iconst (v := nI 0) hx hb dL_refuses_615 (by decide) ?_
  have hC : cCh (-2147483648) (-1) (nI 0) (nI 0) = 1 := by decide
  refine wr_i (vx_run0 (vx_runSX (As := [.ref (a 0), .int (nI 14), .int (-2147483648), .int (-1), .int (nI 0), .int (nI 0)]) (rest := []) FX (w_act_changes l hfl G a ha t9 st (-2147483648) (-1) (nI 0) (nI 0) hO) (vx_cwSW 6 hts gL_refuses_L_act rfl rfl rfl (by decide +kernel) ⟨Nat.le_of_ble_eq_true rfl, Nat.le_of_ble_eq_true rfl⟩) (preW hK hNW hCW (hLow.at hS (fun q9 _ q => rng_M q9 q)) (hX.at hS (fun q9 _ q => rng_M q9 q)) hNC) rfl rfl hl.1 rfl (lv_room (Nat.le_of_ble_eq_true rfl)) dL_refuses_616 (rmx (m := 1200) (n := 7200) (by omega) (by omega)))) hS (fun q h => h) (fun r _ H locs hp hCW hk hS => ?_)
  refine lv_as (y := -7000001) (hp.2.1 hC) ?_
  have hCW : CW G a st H := hCW
  refine lv_ldc (v := -7000001) hx hb hown (hts (.constant RL 75 (-7000001)) (List.mem_of_getElem? (i := 5) (by decide +kernel))) dL_refuses_619 ?_
  refine lv_icmp_ne (tgt := 685) hx hb dL_refuses_621 (by decide) (fun c => absurd c (by decide)) (fun _ => ?_)
  refine lv_aload_n hx hb dL_refuses_624 rfl (lv_at hl 6 rfl) ?_
  refine lv_iload hx hb dL_refuses_625 (lv_at hl 0 rfl) ?_
  refine lv_iconst (v := nI 0) hx hb dL_refuses_627 (by decide) ?_
  refine lv_iload hx hb dL_refuses_628 (lv_at hl 3 rfl) ?_
  refine lv_iconst (v := nI 0) hx hb dL_refuses_630 (by decide) ?_
  refine lv_iconst (v := nI 0) hx hb dL_refuses_631 (by decide) ?_
  have hC : cCh (nI 0) (-2147483648) (nI 0) (nI 0) = 2 := by decide
  refine wr_i (vx_run0 (vx_runSX (As := [.ref (a 0), .int (nI 14), .int (nI 0), .int (-2147483648), .int (nI 0), .int (nI 0)]) (rest := []) FX (w_act_changes l hfl G a ha t9 st (nI 0) (-2147483648) (nI 0) (nI 0) hO) (vx_cwSW 6 hts gL_refuses_L_act rfl rfl rfl (by decide +kernel) ⟨Nat.le_of_ble_eq_true rfl, Nat.le_of_ble_eq_true rfl⟩) (preW hK hNW hCW (hLow.at hS (fun q9 _ q => rng_M q9 q)) (hX.at hS (fun q9 _ q => rng_M q9 q)) hNC) rfl rfl hl.1 rfl (lv_room (Nat.le_of_ble_eq_true rfl)) dL_refuses_632 (rmx (m := 1200) (n := 7200) (by omega) (by omega)))) hS (fun q h => h) (fun r _ H locs hp hCW hk hS => ?_)
  refine lv_as (y := -7000002) (hp.2.2.1 hC) ?_
  have hCW : CW G a st H := hCW
  refine lv_ldc (v := -7000002) hx hb hown (hts (.constant RL 78 (-7000002)) (List.mem_of_getElem? (i := 6) (by decide +kernel))) dL_refuses_635 ?_
  refine lv_icmp_ne (tgt := 685) hx hb dL_refuses_637 (by decide) (fun c => absurd c (by decide)) (fun _ => ?_)
  refine lv_aload_n hx hb dL_refuses_640 rfl (lv_at hl 6 rfl) ?_
  refine lv_iload hx hb dL_refuses_641 (lv_at hl 0 rfl) ?_
  refine lv_iconst (v := nI 0) hx hb dL_refuses_643 (by decide) ?_
  refine lv_iconst (v := nI 0) hx hb dL_refuses_644 (by decide) ?_
  refine lv_iload hx hb dL_refuses_645 (lv_at hl 3 rfl) ?_
  refine lv_iconst (v := nI 0) hx hb dL_refuses_647 (by decide) ?_
  have hC : cCh (nI 0) (nI 0) (-2147483648) (nI 0) = 2 := by decide
  refine wr_i (vx_run0 (vx_runSX (As := [.ref (a 0), .int (nI 14), .int (nI 0), .int (nI 0), .int (-2147483648), .int (nI 0)]) (rest := []) FX (w_act_changes l hfl G a ha t9 st (nI 0) (nI 0) (-2147483648) (nI 0) hO) (vx_cwSW 6 hts gL_refuses_L_act rfl rfl rfl (by decide +kernel) ⟨Nat.le_of_ble_eq_true rfl, Nat.le_of_ble_eq_true rfl⟩) (preW hK hNW hCW (hLow.at hS (fun q9 _ q => rng_M q9 q)) (hX.at hS (fun q9 _ q => rng_M q9 q)) hNC) rfl rfl hl.1 rfl (lv_room (Nat.le_of_ble_eq_true rfl)) dL_refuses_648 (rmx (m := 1200) (n := 7200) (by omega) (by omega)))) hS (fun q h => h) (fun r _ H locs hp hCW hk hS => ?_)
  refine lv_as (y := -7000002) (hp.2.2.1 hC) ?_
  have hCW : CW G a st H := hCW
  refine lv_ldc (v := -7000002) hx hb hown (hts (.constant RL 78 (-7000002)) (List.mem_of_getElem? (i := 6) (by decide +kernel))) dL_refuses_651 ?_
  refine lv_icmp_ne (tgt := 685) hx hb dL_refuses_653 (by decide) (fun c => absurd c (by decide)) (fun _ => ?_)
  refine lv_aload_n hx hb dL_refuses_656 rfl (lv_at hl 6 rfl) ?_
  refine lv_iload hx hb dL_refuses_657 (lv_at hl 0 rfl) ?_
  refine lv_iconst (v := nI 0) hx hb dL_refuses_659 (by decide) ?_
  refine lv_iconst (v := nI 0) hx hb dL_refuses_660 (by decide) ?_
  refine lv_iconst (v := nI 0) hx hb dL_refuses_661 (by decide) ?_
  refine lv_iload_n hx hb dL_refuses_662 rfl (lv_at hl 9 rfl) ?_
  refine lv_iconst (v := nI 1) hx hb dL_refuses_663 (by decide) ?_
  refine lv_icmp_ne (tgt := 671) hx hb dL_refuses_664 (by decide) (fun _ => ?_) (fun c => absurd c (by decide))
  refine lv_iload hx hb dL_refuses_671 (lv_at hl 5 rfl) ?_
  have hC : cCh (nI 0) (nI 0) (nI 0) (-2147483648) = 2 := by decide
  refine wr_i (vx_run0 (vx_runSX (As := [.ref (a 0), .int (nI 14), .int (nI 0), .int (nI 0), .int (nI 0), .int (-2147483648)]) (rest := []) FX (w_act_changes l hfl G a ha t9 st (nI 0) (nI 0) (nI 0) (-2147483648) hO) (vx_cwSW 6 hts gL_refuses_L_act rfl rfl rfl (by decide +kernel) ⟨Nat.le_of_ble_eq_true rfl, Nat.le_of_ble_eq_true rfl⟩) (preW hK hNW hCW (hLow.at hS (fun q9 _ q => rng_M q9 q)) (hX.at hS (fun q9 _ q => rng_M q9 q)) hNC) rfl rfl hl.1 rfl (lv_room (Nat.le_of_ble_eq_true rfl)) dL_refuses_673 (rmx (m := 1200) (n := 7200) (by omega) (by omega)))) hS (fun q h => h) (fun r _ H locs hp hCW hk hS => ?_)
  refine lv_as (y := -7000002) (hp.2.2.1 hC) ?_
  have hCW : CW G a st H := hCW
  refine lv_ldc (v := -7000002) hx hb hown (hts (.constant RL 78 (-7000002)) (List.mem_of_getElem? (i := 6) (by decide +kernel))) dL_refuses_676 ?_
  refine lv_icmp_ne (tgt := 685) hx hb dL_refuses_678 (by decide) (fun c => absurd c (by decide)) (fun _ => ?_)
  refine lv_iconst (v := nI 1) hx hb dL_refuses_681 (by decide) ?_
  refine lv_goto (tgt := 686) hx hb dL_refuses_682 (by decide) ?_
  refine lv_istore (lv' := [(8, .int (nI 1)), (9, .int (nI 14)), (7, .int (-2147483648)), (6, .int (-2147483648)), (5, .int (-2147483648)), (4, .int (-2147483648)), (0, .ref (a 0)), (1, .int (nI 2147483647)), (2, .int bf), (3, .int (nI 3))]) hx hb dL_refuses_686 hl (by decide) rfl (fun ls hl => ?_)
  refine lv_iinc (v := nI 15) (lv' := [(9, .int (nI 15)), (8, .int (nI 1)), (7, .int (-2147483648)), (6, .int (-2147483648)), (5, .int (-2147483648)), (4, .int (-2147483648)), (0, .ref (a 0)), (1, .int (nI 2147483647)), (2, .int bf), (3, .int (nI 3))]) hx hb dL_refuses_688 hl (k := 1) rfl (by decide) (by decide) rfl (fun ls hl => ?_)
  refine lv_goto (tgt := 596) hx hb dL_refuses_691 (by decide) ?_
  refine lv_iload hx hb dL_refuses_596 (lv_at hl 0 rfl) ?_
  refine lv_bipush (v := nI 16) hx hb dL_refuses_598 (by decide) ?_
  refine lv_icmp_ge (tgt := 694) hx hb dL_refuses_600 (by decide) (fun c => absurd c (by decide)) (fun _ => ?_)
  refine lv_iload hx hb dL_refuses_603 (lv_at hl 1 rfl) ?_
  refine lv_if_eq (tgt := 694) hx hb dL_refuses_605 (by decide) (fun c => absurd c (by decide)) (fun _ => ?_)
  refine lv_aload_n hx hb dL_refuses_608 rfl (lv_at hl 6 rfl) ?_
  refine lv_iload hx hb dL_refuses_609 (lv_at hl 0 rfl) ?_
  refine lv_iload hx hb dL_refuses_611 (lv_at hl 4 rfl) ?_
  refine lv_iconst (v := -1) hx hb dL_refuses_613 (by decide) ?_
  refine lv_iconst (v := nI 0) hx hb dL_refuses_614 (by decide) ?_
  refine lv_iconst (v := nI 0) hx hb dL_refuses_615 (by decide) ?_
  have hC : cCh (-2147483648) (-1) (nI 0) (nI 0) = 1 := by decide
  refine wr_i (vx_run0 (vx_runSX (As := [.ref (a 0), .int (nI 15), .int (-2147483648), .int (-1), .int (nI 0), .int (nI 0)]) (rest := []) FX (w_act_changesAnew l hfl G a ha t9 st (-2147483648) (-1) (nI 0) (nI 0) hO) (vx_cwSW 6 hts gL_refuses_L_act rfl rfl rfl (by decide +kernel) ⟨Nat.le_of_ble_eq_true rfl, Nat.le_of_ble_eq_true rfl⟩) (preW hK hNW hCW (hLow.at hS (fun q9 _ q => rng_M q9 q)) (hX.at hS (fun q9 _ q => rng_M q9 q)) hNC) rfl rfl hl.1 rfl (lv_room (Nat.le_of_ble_eq_true rfl)) dL_refuses_616 (rmx (m := 1200) (n := 7200) (by omega) (by omega)))) hS (fun q h => h) (fun r _ H locs hp hCW hk hS => ?_)
  refine lv_as (y := -7000001) (hp.2.1 hC) ?_
  have hCW : CW G a st H := hCW
  refine lv_ldc (v := -7000001) hx hb hown (hts (.constant RL 75 (-7000001)) (List.mem_of_getElem? (i := 5) (by decide +kernel))) dL_refuses_619 ?_
  refine lv_icmp_ne (tgt := 685) hx hb dL_refuses_621 (by decide) (fun c => absurd c (by decide)) (fun _ => ?_)
  refine lv_aload_n hx hb dL_refuses_624 rfl (lv_at hl 6 rfl) ?_
  refine lv_iload hx hb dL_refuses_625 (lv_at hl 0 rfl) ?_
  refine lv_iconst (v := nI 0) hx hb dL_refuses_627 (by decide) ?_
  refine lv_iload hx hb dL_refuses_628 (lv_at hl 3 rfl) ?_
  refine lv_iconst (v := nI 0) hx hb dL_refuses_630 (by decide) ?_
  refine lv_iconst (v := nI 0) hx hb dL_refuses_631 (by decide) ?_
  have hC : cCh (nI 0) (-2147483648) (nI 0) (nI 0) = 2 := by decide
  refine wr_i (vx_run0 (vx_runSX (As := [.ref (a 0), .int (nI 15), .int (nI 0), .int (-2147483648), .int (nI 0), .int (nI 0)]) (rest := []) FX (w_act_changesAnew l hfl G a ha t9 st (nI 0) (-2147483648) (nI 0) (nI 0) hO) (vx_cwSW 6 hts gL_refuses_L_act rfl rfl rfl (by decide +kernel) ⟨Nat.le_of_ble_eq_true rfl, Nat.le_of_ble_eq_true rfl⟩) (preW hK hNW hCW (hLow.at hS (fun q9 _ q => rng_M q9 q)) (hX.at hS (fun q9 _ q => rng_M q9 q)) hNC) rfl rfl hl.1 rfl (lv_room (Nat.le_of_ble_eq_true rfl)) dL_refuses_632 (rmx (m := 1200) (n := 7200) (by omega) (by omega)))) hS (fun q h => h) (fun r _ H locs hp hCW hk hS => ?_)
  refine lv_as (y := -7000002) (hp.2.2.1 hC) ?_
  have hCW : CW G a st H := hCW
  refine lv_ldc (v := -7000002) hx hb hown (hts (.constant RL 78 (-7000002)) (List.mem_of_getElem? (i := 6) (by decide +kernel))) dL_refuses_635 ?_
  refine lv_icmp_ne (tgt := 685) hx hb dL_refuses_637 (by decide) (fun c => absurd c (by decide)) (fun _ => ?_)
  refine lv_aload_n hx hb dL_refuses_640 rfl (lv_at hl 6 rfl) ?_
  refine lv_iload hx hb dL_refuses_641 (lv_at hl 0 rfl) ?_
  refine lv_iconst (v := nI 0) hx hb dL_refuses_643 (by decide) ?_
  refine lv_iconst (v := nI 0) hx hb dL_refuses_644 (by decide) ?_
  refine lv_iload hx hb dL_refuses_645 (lv_at hl 3 rfl) ?_
  refine lv_iconst (v := nI 0) hx hb dL_refuses_647 (by decide) ?_
  have hC : cCh (nI 0) (nI 0) (-2147483648) (nI 0) = 2 := by decide
  refine wr_i (vx_run0 (vx_runSX (As := [.ref (a 0), .int (nI 15), .int (nI 0), .int (nI 0), .int (-2147483648), .int (nI 0)]) (rest := []) FX (w_act_changesAnew l hfl G a ha t9 st (nI 0) (nI 0) (-2147483648) (nI 0) hO) (vx_cwSW 6 hts gL_refuses_L_act rfl rfl rfl (by decide +kernel) ⟨Nat.le_of_ble_eq_true rfl, Nat.le_of_ble_eq_true rfl⟩) (preW hK hNW hCW (hLow.at hS (fun q9 _ q => rng_M q9 q)) (hX.at hS (fun q9 _ q => rng_M q9 q)) hNC) rfl rfl hl.1 rfl (lv_room (Nat.le_of_ble_eq_true rfl)) dL_refuses_648 (rmx (m := 1200) (n := 7200) (by omega) (by omega)))) hS (fun q h => h) (fun r _ H locs hp hCW hk hS => ?_)
  refine lv_as (y := -7000002) (hp.2.2.1 hC) ?_
  have hCW : CW G a st H := hCW
  refine lv_ldc (v := -7000002) hx hb hown (hts (.constant RL 78 (-7000002)) (List.mem_of_getElem? (i := 6) (by decide +kernel))) dL_refuses_651 ?_
  refine lv_icmp_ne (tgt := 685) hx hb dL_refuses_653 (by decide) (fun c => absurd c (by decide)) (fun _ => ?_)
  refine lv_aload_n hx hb dL_refuses_656 rfl (lv_at hl 6 rfl) ?_
  refine lv_iload hx hb dL_refuses_657 (lv_at hl 0 rfl) ?_
  refine lv_iconst (v := nI 0) hx hb dL_refuses_659 (by decide) ?_
  refine lv_iconst (v := nI 0) hx hb dL_refuses_660 (by decide) ?_
  refine lv_iconst (v := nI 0) hx hb dL_refuses_661 (by decide) ?_
  refine lv_iload_n hx hb dL_refuses_662 rfl (lv_at hl 9 rfl) ?_
  refine lv_iconst (v := nI 1) hx hb dL_refuses_663 (by decide) ?_
  refine lv_icmp_ne (tgt := 671) hx hb dL_refuses_664 (by decide) (fun _ => ?_) (fun c => absurd c (by decide))
  refine lv_iload hx hb dL_refuses_671 (lv_at hl 5 rfl) ?_
  have hC : cCh (nI 0) (nI 0) (nI 0) (-2147483648) = 2 := by decide
  refine wr_i (vx_run0 (vx_runSX (As := [.ref (a 0), .int (nI 15), .int (nI 0), .int (nI 0), .int (nI 0), .int (-2147483648)]) (rest := []) FX (w_act_changesAnew l hfl G a ha t9 st (nI 0) (nI 0) (nI 0) (-2147483648) hO) (vx_cwSW 6 hts gL_refuses_L_act rfl rfl rfl (by decide +kernel) ⟨Nat.le_of_ble_eq_true rfl, Nat.le_of_ble_eq_true rfl⟩) (preW hK hNW hCW (hLow.at hS (fun q9 _ q => rng_M q9 q)) (hX.at hS (fun q9 _ q => rng_M q9 q)) hNC) rfl rfl hl.1 rfl (lv_room (Nat.le_of_ble_eq_true rfl)) dL_refuses_673 (rmx (m := 1200) (n := 7200) (by omega) (by omega)))) hS (fun q h => h) (fun r _ H locs hp hCW hk hS => ?_)
  refine lv_as (y := -7000002) (hp.2.2.1 hC) ?_
  have hCW : CW G a st H := hCW
  refine lv_ldc (v := -7000002) hx hb hown (hts (.constant RL 78 (-7000002)) (List.mem_of_getElem? (i := 6) (by decide +kernel))) dL_refuses_676 ?_
  refine lv_icmp_ne (tgt := 685) hx hb dL_refuses_678 (by decide) (fun c => absurd c (by decide)) (fun _ => ?_)
  refine lv_iconst (v := nI 1) hx hb dL_refuses_681 (by decide) ?_
  refine lv_goto (tgt := 686) hx hb dL_refuses_682 (by decide) ?_
  refine lv_istore (lv' := [(8, .int (nI 1)), (9, .int (nI 15)), (7, .int (-2147483648)), (6, .int (-2147483648)), (5, .int (-2147483648)), (4, .int (-2147483648)), (0, .ref (a 0)), (1, .int (nI 2147483647)), (2, .int bf), (3, .int (nI 3))]) hx hb dL_refuses_686 hl (by decide) rfl (fun ls hl => ?_)
  refine lv_iinc (v := nI 16) (lv' := [(9, .int (nI 16)), (8, .int (nI 1)), (7, .int (-2147483648)), (6, .int (-2147483648)), (5, .int (-2147483648)), (4, .int (-2147483648)), (0, .ref (a 0)), (1, .int (nI 2147483647)), (2, .int bf), (3, .int (nI 3))]) hx hb dL_refuses_688 hl (k := 1) rfl (by decide) (by decide) rfl (fun ls hl => ?_)
  refine lv_goto (tgt := 596) hx hb dL_refuses_691 (by decide) ?_
  refine lv_iload hx hb dL_refuses_596 (lv_at hl 0 rfl) ?_
  refine lv_bipush (v := nI 16) hx hb dL_refuses_598 (by decide) ?_
  refine lv_icmp_ge (tgt := 694) hx hb dL_refuses_600 (by decide) (fun _ => ?_) (fun c => absurd c (by decide))
  refine lv_iload hx hb dL_refuses_694 (lv_at hl 1 rfl) ?_
  refine lv_if_eq (tgt := 935) hx hb dL_refuses_696 (by decide) (fun c => absurd c (by decide)) (fun _ => ?_)
  refine lv_aload_n hx hb dL_refuses_699 rfl (lv_at hl 6 rfl) ?_
  refine lv_bipush (v := nI 16) hx hb dL_refuses_700 (by decide) ?_
  refine lv_iload hx hb dL_refuses_702 (lv_at hl 4 rfl) ?_
  refine lv_bipush (v := nI 9) hx hb dL_refuses_704 (by decide) ?_
  refine lv_bipush (v := nI 9) hx hb dL_refuses_706 (by decide) ?_
  refine lv_iconst (v := nI 0) hx hb dL_refuses_708 (by decide) ?_
  have hC : cOff st.1 (-2147483648) (nI 9) (nI 9) = 1 := rc_of (by decide)
  refine wr_i (vx_run0 (vx_runSX (As := [.ref (a 0), .int (nI 16), .int (-2147483648), .int (nI 9), .int (nI 9), .int (nI 0)]) (rest := []) FX (w_act_off l hfl G a ha t9 st (-2147483648) (nI 9) (nI 9) (nI 0) hO) (vx_cwSW 6 hts gL_refuses_L_act rfl rfl rfl (by decide +kernel) ⟨Nat.le_of_ble_eq_true rfl, Nat.le_of_ble_eq_true rfl⟩) (preW hK hNW hCW (hLow.at hS (fun q9 _ q => rng_M q9 q)) (hX.at hS (fun q9 _ q => rng_M q9 q)) hNC) rfl rfl hl.1 rfl (lv_room (Nat.le_of_ble_eq_true rfl)) dL_refuses_709 (rmx (m := 1200) (n := 7200) (by omega) (by omega)))) hS (fun q h => h) (fun r _ H locs hp hCW hk hS => ?_)
  refine lv_as (y := -7000001) (hp.2.1 hC) ?_
  have hCW : CW G a st H := hCW
  refine lv_ldc (v := -7000001) hx hb hown (hts (.constant RL 75 (-7000001)) (List.mem_of_getElem? (i := 5) (by decide +kernel))) dL_refuses_712 ?_
  refine lv_icmp_ne (tgt := 935) hx hb dL_refuses_714 (by decide) (fun c => absurd c (by decide)) (fun _ => ?_)
  refine lv_aload_n hx hb dL_refuses_717 rfl (lv_at hl 6 rfl) ?_
  refine lv_bipush (v := nI 16) hx hb dL_refuses_718 (by decide) ?_
  refine lv_iconst (v := nI 0) hx hb dL_refuses_720 (by decide) ?_
  refine lv_iload_n hx hb dL_refuses_721 rfl (lv_at hl 9 rfl) ?_
  refine lv_iconst (v := nI 1) hx hb dL_refuses_722 (by decide) ?_
  refine lv_icmp_ne (tgt := 730) hx hb dL_refuses_723 (by decide) (fun _ => ?_) (fun c => absurd c (by decide))
  refine lv_iload hx hb dL_refuses_730 (lv_at hl 5 rfl) ?_
  refine lv_iconst (v := nI 0) hx hb dL_refuses_732 (by decide) ?_
  refine lv_iconst (v := nI 0) hx hb dL_refuses_733 (by decide) ?_
  have hC : cOff st.1 (nI 0) (-2147483648) (nI 0) = 2 := rc_oo (by decide) (by decide)
  refine wr_i (vx_run0 (vx_runSX (As := [.ref (a 0), .int (nI 16), .int (nI 0), .int (-2147483648), .int (nI 0), .int (nI 0)]) (rest := []) FX (w_act_off l hfl G a ha t9 st (nI 0) (-2147483648) (nI 0) (nI 0) hO) (vx_cwSW 6 hts gL_refuses_L_act rfl rfl rfl (by decide +kernel) ⟨Nat.le_of_ble_eq_true rfl, Nat.le_of_ble_eq_true rfl⟩) (preW hK hNW hCW (hLow.at hS (fun q9 _ q => rng_M q9 q)) (hX.at hS (fun q9 _ q => rng_M q9 q)) hNC) rfl rfl hl.1 rfl (lv_room (Nat.le_of_ble_eq_true rfl)) dL_refuses_734 (rmx (m := 1200) (n := 7200) (by omega) (by omega)))) hS (fun q h => h) (fun r _ H locs hp hCW hk hS => ?_)
  refine lv_as (y := -7000002) (hp.2.2.1 hC) ?_
  have hCW : CW G a st H := hCW
  refine lv_ldc (v := -7000002) hx hb hown (hts (.constant RL 78 (-7000002)) (List.mem_of_getElem? (i := 6) (by decide +kernel))) dL_refuses_737 ?_
  refine lv_icmp_ne (tgt := 935) hx hb dL_refuses_739 (by decide) (fun c => absurd c (by decide)) (fun _ => ?_)
  refine lv_aload_n hx hb dL_refuses_742 rfl (lv_at hl 6 rfl) ?_
  refine lv_bipush (v := nI 16) hx hb dL_refuses_743 (by decide) ?_
  refine lv_iconst (v := nI 0) hx hb dL_refuses_745 (by decide) ?_
  refine lv_iconst (v := nI 0) hx hb dL_refuses_746 (by decide) ?_
  refine lv_iload_n hx hb dL_refuses_747 rfl (lv_at hl 9 rfl) ?_
  refine lv_iconst (v := nI 1) hx hb dL_refuses_748 (by decide) ?_
  refine lv_icmp_ne (tgt := 756) hx hb dL_refuses_749 (by decide) (fun _ => ?_) (fun c => absurd c (by decide))
  refine lv_iload hx hb dL_refuses_756 (lv_at hl 5 rfl) ?_
  refine lv_iconst (v := nI 0) hx hb dL_refuses_758 (by decide) ?_
  have hC : cOff st.1 (nI 0) (nI 0) (-2147483648) = 2 := rc_ow (by decide) (by decide)
  refine wr_i (vx_run0 (vx_runSX (As := [.ref (a 0), .int (nI 16), .int (nI 0), .int (nI 0), .int (-2147483648), .int (nI 0)]) (rest := []) FX (w_act_off l hfl G a ha t9 st (nI 0) (nI 0) (-2147483648) (nI 0) hO) (vx_cwSW 6 hts gL_refuses_L_act rfl rfl rfl (by decide +kernel) ⟨Nat.le_of_ble_eq_true rfl, Nat.le_of_ble_eq_true rfl⟩) (preW hK hNW hCW (hLow.at hS (fun q9 _ q => rng_M q9 q)) (hX.at hS (fun q9 _ q => rng_M q9 q)) hNC) rfl rfl hl.1 rfl (lv_room (Nat.le_of_ble_eq_true rfl)) dL_refuses_759 (rmx (m := 1200) (n := 7200) (by omega) (by omega)))) hS (fun q h => h) (fun r _ H locs hp hCW hk hS => ?_)
  refine lv_as (y := -7000002) (hp.2.2.1 hC) ?_
  have hCW : CW G a st H := hCW
  refine lv_ldc (v := -7000002) hx hb hown (hts (.constant RL 78 (-7000002)) (List.mem_of_getElem? (i := 6) (by decide +kernel))) dL_refuses_762 ?_
  refine lv_icmp_ne (tgt := 935) hx hb dL_refuses_764 (by decide) (fun c => absurd c (by decide)) (fun _ => ?_)
  refine lv_aload_n hx hb dL_refuses_767 rfl (lv_at hl 6 rfl) ?_
  refine lv_bipush (v := nI 17) hx hb dL_refuses_768 (by decide) ?_
  refine lv_iload hx hb dL_refuses_770 (lv_at hl 4 rfl) ?_
  refine lv_iconst (v := nI 0) hx hb dL_refuses_772 (by decide) ?_
  refine lv_iconst (v := nI 0) hx hb dL_refuses_773 (by decide) ?_
  refine lv_iconst (v := nI 0) hx hb dL_refuses_774 (by decide) ?_
  have hC : cUns st.1 (-2147483648) (nI 0) (nI 0) = 1 := rc_un (by decide)
  refine wr_i (vx_run0 (vx_runSX (As := [.ref (a 0), .int (nI 17), .int (-2147483648), .int (nI 0), .int (nI 0), .int (nI 0)]) (rest := []) FX (w_act_unseen l hfl G a ha t9 st (-2147483648) (nI 0) (nI 0) (nI 0) hO) (vx_cwSW 6 hts gL_refuses_L_act rfl rfl rfl (by decide +kernel) ⟨Nat.le_of_ble_eq_true rfl, Nat.le_of_ble_eq_true rfl⟩) (preW hK hNW hCW (hLow.at hS (fun q9 _ q => rng_M q9 q)) (hX.at hS (fun q9 _ q => rng_M q9 q)) hNC) rfl rfl hl.1 rfl (lv_room (Nat.le_of_ble_eq_true rfl)) dL_refuses_775 (rmx (m := 1200) (n := 7200) (by omega) (by omega)))) hS (fun q h => h) (fun r _ H locs hp hCW hk hS => ?_)
  refine lv_as (y := -7000001) (hp.2.1 hC) ?_
  have hCW : CW G a st H := hCW
  refine lv_ldc (v := -7000001) hx hb hown (hts (.constant RL 75 (-7000001)) (List.mem_of_getElem? (i := 5) (by decide +kernel))) dL_refuses_778 ?_
  refine lv_icmp_ne (tgt := 935) hx hb dL_refuses_780 (by decide) (fun c => absurd c (by decide)) (fun _ => ?_)
  refine lv_aload_n hx hb dL_refuses_783 rfl (lv_at hl 6 rfl) ?_
  refine lv_bipush (v := nI 17) hx hb dL_refuses_784 (by decide) ?_
  refine lv_iconst (v := nI 0) hx hb dL_refuses_786 (by decide) ?_
  refine lv_iload_n hx hb dL_refuses_787 rfl (lv_at hl 9 rfl) ?_
  refine lv_iconst (v := nI 1) hx hb dL_refuses_788 (by decide) ?_
  refine lv_icmp_ne (tgt := 796) hx hb dL_refuses_789 (by decide) (fun _ => ?_) (fun c => absurd c (by decide))
  refine lv_iload hx hb dL_refuses_796 (lv_at hl 5 rfl) ?_
  refine lv_iconst (v := nI 5) hx hb dL_refuses_798 (by decide) ?_
  refine lv_iconst (v := nI 0) hx hb dL_refuses_799 (by decide) ?_
  have hC : cUns st.1 (nI 0) (-2147483648) (nI 5) = 2 := rc_uo (by decide) (by decide)
  refine wr_i (vx_run0 (vx_runSX (As := [.ref (a 0), .int (nI 17), .int (nI 0), .int (-2147483648), .int (nI 5), .int (nI 0)]) (rest := []) FX (w_act_unseen l hfl G a ha t9 st (nI 0) (-2147483648) (nI 5) (nI 0) hO) (vx_cwSW 6 hts gL_refuses_L_act rfl rfl rfl (by decide +kernel) ⟨Nat.le_of_ble_eq_true rfl, Nat.le_of_ble_eq_true rfl⟩) (preW hK hNW hCW (hLow.at hS (fun q9 _ q => rng_M q9 q)) (hX.at hS (fun q9 _ q => rng_M q9 q)) hNC) rfl rfl hl.1 rfl (lv_room (Nat.le_of_ble_eq_true rfl)) dL_refuses_800 (rmx (m := 1200) (n := 7200) (by omega) (by omega)))) hS (fun q h => h) (fun r _ H locs hp hCW hk hS => ?_)
  refine lv_as (y := -7000002) (hp.2.2.1 hC) ?_
  have hCW : CW G a st H := hCW
  refine lv_ldc (v := -7000002) hx hb hown (hts (.constant RL 78 (-7000002)) (List.mem_of_getElem? (i := 6) (by decide +kernel))) dL_refuses_803 ?_
  refine lv_icmp_ne (tgt := 935) hx hb dL_refuses_805 (by decide) (fun c => absurd c (by decide)) (fun _ => ?_)
  refine lv_aload_n hx hb dL_refuses_808 rfl (lv_at hl 6 rfl) ?_
  refine lv_bipush (v := nI 17) hx hb dL_refuses_809 (by decide) ?_
  refine lv_iconst (v := nI 0) hx hb dL_refuses_811 (by decide) ?_
  refine lv_iconst (v := nI 0) hx hb dL_refuses_812 (by decide) ?_
  refine lv_iload_n hx hb dL_refuses_813 rfl (lv_at hl 9 rfl) ?_
  refine lv_if_ne (tgt := 821) hx hb dL_refuses_814 (by decide) (fun _ => ?_) (fun c => absurd c (by decide))
  refine lv_iload_n hx hb dL_refuses_821 rfl (lv_at hl 9 rfl) ?_
  refine lv_iconst (v := nI 1) hx hb dL_refuses_822 (by decide) ?_
  refine lv_icmp_ne (tgt := 831) hx hb dL_refuses_823 (by decide) (fun _ => ?_) (fun c => absurd c (by decide))
  refine lv_iload hx hb dL_refuses_831 (lv_at hl 5 rfl) ?_
  refine lv_iconst (v := nI 0) hx hb dL_refuses_833 (by decide) ?_
  have hC : cUns st.1 (nI 0) (nI 0) (-2147483648) = 2 := rc_uw (by decide) (by decide)
  refine wr_i (vx_run0 (vx_runSX (As := [.ref (a 0), .int (nI 17), .int (nI 0), .int (nI 0), .int (-2147483648), .int (nI 0)]) (rest := []) FX (w_act_unseen l hfl G a ha t9 st (nI 0) (nI 0) (-2147483648) (nI 0) hO) (vx_cwSW 6 hts gL_refuses_L_act rfl rfl rfl (by decide +kernel) ⟨Nat.le_of_ble_eq_true rfl, Nat.le_of_ble_eq_true rfl⟩) (preW hK hNW hCW (hLow.at hS (fun q9 _ q => rng_M q9 q)) (hX.at hS (fun q9 _ q => rng_M q9 q)) hNC) rfl rfl hl.1 rfl (lv_room (Nat.le_of_ble_eq_true rfl)) dL_refuses_834 (rmx (m := 1200) (n := 7200) (by omega) (by omega)))) hS (fun q h => h) (fun r _ H locs hp hCW hk hS => ?_)
  refine lv_as (y := -7000002) (hp.2.2.1 hC) ?_
  have hCW : CW G a st H := hCW
  refine lv_ldc (v := -7000002) hx hb hown (hts (.constant RL 78 (-7000002)) (List.mem_of_getElem? (i := 6) (by decide +kernel))) dL_refuses_837 ?_
  refine lv_icmp_ne (tgt := 935) hx hb dL_refuses_839 (by decide) (fun c => absurd c (by decide)) (fun _ => ?_)
  refine lv_aload_n hx hb dL_refuses_842 rfl (lv_at hl 6 rfl) ?_
  refine lv_bipush (v := nI 18) hx hb dL_refuses_843 (by decide) ?_
  refine lv_iload hx hb dL_refuses_845 (lv_at hl 4 rfl) ?_
  refine lv_iconst (v := nI 0) hx hb dL_refuses_847 (by decide) ?_
  refine lv_iconst (v := nI 0) hx hb dL_refuses_848 (by decide) ?_
  refine lv_iconst (v := nI 0) hx hb dL_refuses_849 (by decide) ?_
  have hC : cUn st.1 (-2147483648) (nI 0) = 1 := rc_ul (by decide)
  refine wr_i (vx_run0 (vx_runSX (As := [.ref (a 0), .int (nI 18), .int (-2147483648), .int (nI 0), .int (nI 0), .int (nI 0)]) (rest := []) FX (w_act_unlike l hfl G a ha t9 st (-2147483648) (nI 0) (nI 0) (nI 0) hO) (vx_cwSW 6 hts gL_refuses_L_act rfl rfl rfl (by decide +kernel) ⟨Nat.le_of_ble_eq_true rfl, Nat.le_of_ble_eq_true rfl⟩) (preW hK hNW hCW (hLow.at hS (fun q9 _ q => rng_M q9 q)) (hX.at hS (fun q9 _ q => rng_M q9 q)) hNC) rfl rfl hl.1 rfl (lv_room (Nat.le_of_ble_eq_true rfl)) dL_refuses_850 (rmx (m := 1200) (n := 7200) (by omega) (by omega)))) hS (fun q h => h) (fun r _ H locs hp hCW hk hS => ?_)
  refine lv_as (y := -7000001) (hp.2.1 hC) ?_
  have hCW : CW G a st H := hCW
  refine lv_ldc (v := -7000001) hx hb hown (hts (.constant RL 75 (-7000001)) (List.mem_of_getElem? (i := 5) (by decide +kernel))) dL_refuses_853 ?_
  refine lv_icmp_ne (tgt := 935) hx hb dL_refuses_855 (by decide) (fun c => absurd c (by decide)) (fun _ => ?_)
  refine lv_aload_n hx hb dL_refuses_858 rfl (lv_at hl 6 rfl) ?_
  refine lv_bipush (v := nI 18) hx hb dL_refuses_859 (by decide) ?_
  refine lv_iconst (v := nI 0) hx hb dL_refuses_861 (by decide) ?_
  refine lv_iload hx hb dL_refuses_862 (lv_at hl 4 rfl) ?_
  refine lv_iconst (v := nI 0) hx hb dL_refuses_864 (by decide) ?_
  refine lv_iconst (v := nI 0) hx hb dL_refuses_865 (by decide) ?_
  have hC : cUn st.1 (nI 0) (-2147483648) = 1 := rc_uv (by decide)
  refine wr_i (vx_run0 (vx_runSX (As := [.ref (a 0), .int (nI 18), .int (nI 0), .int (-2147483648), .int (nI 0), .int (nI 0)]) (rest := []) FX (w_act_unlike l hfl G a ha t9 st (nI 0) (-2147483648) (nI 0) (nI 0) hO) (vx_cwSW 6 hts gL_refuses_L_act rfl rfl rfl (by decide +kernel) ⟨Nat.le_of_ble_eq_true rfl, Nat.le_of_ble_eq_true rfl⟩) (preW hK hNW hCW (hLow.at hS (fun q9 _ q => rng_M q9 q)) (hX.at hS (fun q9 _ q => rng_M q9 q)) hNC) rfl rfl hl.1 rfl (lv_room (Nat.le_of_ble_eq_true rfl)) dL_refuses_866 (rmx (m := 1200) (n := 7200) (by omega) (by omega)))) hS (fun q h => h) (fun r _ H locs hp hCW hk hS => ?_)
  refine lv_as (y := -7000001) (hp.2.1 hC) ?_
  have hCW : CW G a st H := hCW
  refine lv_ldc (v := -7000001) hx hb hown (hts (.constant RL 75 (-7000001)) (List.mem_of_getElem? (i := 5) (by decide +kernel))) dL_refuses_869 ?_
  refine lv_icmp_ne (tgt := 935) hx hb dL_refuses_871 (by decide) (fun c => absurd c (by decide)) (fun _ => ?_)
  refine lv_aload_n hx hb dL_refuses_874 rfl (lv_at hl 6 rfl) ?_
  refine lv_bipush (v := nI 19) hx hb dL_refuses_875 (by decide) ?_
  refine lv_iconst (v := nI 0) hx hb dL_refuses_877 (by decide) ?_
  refine lv_iload_n hx hb dL_refuses_878 rfl (lv_at hl 9 rfl) ?_
  refine lv_iconst (v := nI 1) hx hb dL_refuses_879 (by decide) ?_
  refine lv_icmp_ne (tgt := 888) hx hb dL_refuses_880 (by decide) (fun _ => ?_) (fun c => absurd c (by decide))
  refine lv_iload hx hb dL_refuses_888 (lv_at hl 5 rfl) ?_
  refine lv_iconst (v := nI 0) hx hb dL_refuses_890 (by decide) ?_
  refine lv_iconst (v := nI 0) hx hb dL_refuses_891 (by decide) ?_
  have hC : cDi (nI 0) (-2147483648) = 1 := by decide
  refine wr_i (vx_run0 (vx_runSX (As := [.ref (a 0), .int (nI 19), .int (nI 0), .int (-2147483648), .int (nI 0), .int (nI 0)]) (rest := []) FX (w_act_digit l hfl G a ha t9 st (nI 0) (-2147483648) (nI 0) (nI 0) hO) (vx_cwSW 6 hts gL_refuses_L_act rfl rfl rfl (by decide +kernel) ⟨Nat.le_of_ble_eq_true rfl, Nat.le_of_ble_eq_true rfl⟩) (preW hK hNW hCW (hLow.at hS (fun q9 _ q => rng_M q9 q)) (hX.at hS (fun q9 _ q => rng_M q9 q)) hNC) rfl rfl hl.1 rfl (lv_room (Nat.le_of_ble_eq_true rfl)) dL_refuses_892 (rmx (m := 1200) (n := 7200) (by omega) (by omega)))) hS (fun q h => h) (fun r _ H locs hp hCW hk hS => ?_)
  refine lv_as (y := -7000001) (hp.2.1 hC) ?_
  have hCW : CW G a st H := hCW
  refine lv_ldc (v := -7000001) hx hb hown (hts (.constant RL 75 (-7000001)) (List.mem_of_getElem? (i := 5) (by decide +kernel))) dL_refuses_895 ?_
  refine lv_icmp_ne (tgt := 935) hx hb dL_refuses_897 (by decide) (fun c => absurd c (by decide)) (fun _ => ?_)
  refine lv_aload_n hx hb dL_refuses_900 rfl (lv_at hl 6 rfl) ?_
  refine lv_bipush (v := nI 19) hx hb dL_refuses_901 (by decide) ?_
  refine lv_iload hx hb dL_refuses_903 (lv_at hl 2 rfl) ?_
  refine lv_iconst (v := nI 0) hx hb dL_refuses_905 (by decide) ?_
  refine lv_iconst (v := nI 0) hx hb dL_refuses_906 (by decide) ?_
  refine lv_iconst (v := nI 0) hx hb dL_refuses_907 (by decide) ?_
  have hC : cDi (-2147483648) (nI 0) = 2 := by decide
  refine wr_i (vx_run0 (vx_runSX (As := [.ref (a 0), .int (nI 19), .int (-2147483648), .int (nI 0), .int (nI 0), .int (nI 0)]) (rest := []) FX (w_act_digit l hfl G a ha t9 st (-2147483648) (nI 0) (nI 0) (nI 0) hO) (vx_cwSW 6 hts gL_refuses_L_act rfl rfl rfl (by decide +kernel) ⟨Nat.le_of_ble_eq_true rfl, Nat.le_of_ble_eq_true rfl⟩) (preW hK hNW hCW (hLow.at hS (fun q9 _ q => rng_M q9 q)) (hX.at hS (fun q9 _ q => rng_M q9 q)) hNC) rfl rfl hl.1 rfl (lv_room (Nat.le_of_ble_eq_true rfl)) dL_refuses_908 (rmx (m := 1200) (n := 7200) (by omega) (by omega)))) hS (fun q h => h) (fun r _ H locs hp hCW hk hS => ?_)
  refine lv_as (y := -7000002) (hp.2.2.1 hC) ?_
  have hCW : CW G a st H := hCW
  refine lv_ldc (v := -7000002) hx hb hown (hts (.constant RL 78 (-7000002)) (List.mem_of_getElem? (i := 6) (by decide +kernel))) dL_refuses_911 ?_
  refine lv_icmp_ne (tgt := 935) hx hb dL_refuses_913 (by decide) (fun c => absurd c (by decide)) (fun _ => ?_)
  refine lv_aload_n hx hb dL_refuses_916 rfl (lv_at hl 6 rfl) ?_
  refine lv_bipush (v := nI 19) hx hb dL_refuses_917 (by decide) ?_
  refine lv_iconst (v := -1) hx hb dL_refuses_919 (by decide) ?_
  refine lv_iconst (v := -1) hx hb dL_refuses_920 (by decide) ?_
  refine lv_iconst (v := nI 0) hx hb dL_refuses_921 (by decide) ?_
  refine lv_iconst (v := nI 0) hx hb dL_refuses_922 (by decide) ?_
  have hC : cDi (-1) (-1) = 1 := by decide
  refine wr_i (vx_run0 (vx_runSX (As := [.ref (a 0), .int (nI 19), .int (-1), .int (-1), .int (nI 0), .int (nI 0)]) (rest := []) FX (w_act_digit l hfl G a ha t9 st (-1) (-1) (nI 0) (nI 0) hO) (vx_cwSW 6 hts gL_refuses_L_act rfl rfl rfl (by decide +kernel) ⟨Nat.le_of_ble_eq_true rfl, Nat.le_of_ble_eq_true rfl⟩) (preW hK hNW hCW (hLow.at hS (fun q9 _ q => rng_M q9 q)) (hX.at hS (fun q9 _ q => rng_M q9 q)) hNC) rfl rfl hl.1 rfl (lv_room (Nat.le_of_ble_eq_true rfl)) dL_refuses_923 (rmx (m := 1200) (n := 7200) (by omega) (by omega)))) hS (fun q h => h) (fun r _ H locs hp hCW hk hS => ?_)
  refine lv_as (y := -7000001) (hp.2.1 hC) ?_
  have hCW : CW G a st H := hCW
  refine lv_ldc (v := -7000001) hx hb hown (hts (.constant RL 75 (-7000001)) (List.mem_of_getElem? (i := 5) (by decide +kernel))) dL_refuses_926 ?_
  refine lv_icmp_ne (tgt := 935) hx hb dL_refuses_928 (by decide) (fun c => absurd c (by decide)) (fun _ => ?_)
  refine lv_iconst (v := nI 1) hx hb dL_refuses_931 (by decide) ?_
  refine lv_goto (tgt := 936) hx hb dL_refuses_932 (by decide) ?_
  refine lv_istore (lv' := [(8, .int (nI 1)), (9, .int (nI 16)), (7, .int (-2147483648)), (6, .int (-2147483648)), (5, .int (-2147483648)), (4, .int (-2147483648)), (0, .ref (a 0)), (1, .int (nI 2147483647)), (2, .int bf), (3, .int (nI 3))]) hx hb dL_refuses_936 hl (by decide) rfl (fun ls hl => ?_)
  refine lv_iconst (v := nI 0) hx hb dL_refuses_938 (by decide) ?_
  refine lv_istore (lv' := [(9, .int (nI 0)), (8, .int (nI 1)), (7, .int (-2147483648)), (6, .int (-2147483648)), (5, .int (-2147483648)), (4, .int (-2147483648)), (0, .ref (a 0)), (1, .int (nI 2147483647)), (2, .int bf), (3, .int (nI 3))]) hx hb dL_refuses_939 hl (by decide) rfl (fun ls hl => ?_)
  exact wid (by omega) (by omega) (K _ _ _ hS hCW hl)
