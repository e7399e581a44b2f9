/-! adders -/
set_option maxHeartbeats 4000000 in
set_option maxRecDepth 100000 in
theorem t_adders_1 {p : Program} {l : Launch} {e : Env} {s : State} {m : MethodId} {args : Array Value} {below : List Frame} {meth : Method} {c : Code} {Q : State → Prop} {G : GG} {a : Nat → Nat} {t9 : Nat} (J : LJ p l s m meth c args cL_adders (some .boolean) 1 wsL_adders G a t9) (hA : ∀ k, s.heap.size ≤ a k) (hNI : NI s) (hAO : va_AO RX3 s) (hI : ∀ q, s.heap.size ≤ q → inM a q) {H : Heap} {locs : List Loc} {ls : Array Slot} (hS : va_S (fun q : Nat => s.heap.size ≤ q) s.heap H locs) (hCW : CW G a z0 H) (hl : lv_has ls 1 [(0, .ref (a 0))]) (K : ∀ (H : Heap) (locs : List Loc) (ls : Array Slot), va_S (fun q : Nat => s.heap.size ≤ q) s.heap H locs → CW G a z1 H → lv_has ls 1 [(0, .ref (a 0))] → W p l e ({ frames := 12, cells := 5444, slots := 45292, locals := 246 } : Room) s m args below meth c H locs 1380 14594 Q (F0 m 162 ls [])) : W p l e ({ frames := 12, cells := 5444, slots := 45292, locals := 246 } : Room) s m args below meth c H locs 93 6872 Q (F0 m 8 ls []) := by
  obtain ⟨hfl, hx, hb, hr, hml, hown, hts, hlocks, ha, hK, hNW, hLow, hX, hNC⟩ := J
  have FX : CallFix p m c cL_adders 1 s args wsL_adders RL := ⟨hx, hb, hml, hown, hts⟩
  refine lv_aload_n hx hb dL_adders_8 rfl (lv_at hl 0 rfl) ?_
  refine wr_i (va_runS (As := [.ref (a 0)]) (rest := []) FX (w_refuses l hfl G a ha t9 z0 oz0) (va_cwS 1 hts gL_adders_L_refuses rfl rfl rfl (by decide +kernel) ⟨Nat.le_of_ble_eq_true rfl, Nat.le_of_ble_eq_true rfl⟩) (preW hK hNW hCW (hLow.at hS (fun q9 h8 h9 => absurd h8 (Nat.not_lt.mpr h9))) (hX.at hS (fun q9 h8 h9 => absurd h8 (Nat.not_lt.mpr h9))) hNC) rfl rfl hl.1 rfl (lv_room (Nat.le_of_ble_eq_true rfl)) dL_adders_9 ⟨Nat.le_of_ble_eq_true rfl, Nat.le_of_ble_eq_true rfl⟩) hS (rng_ge hA) (fun r _ H locs hp hCW hk hS => ?_)
  refine lv_as (y := nI 1) hp ?_
  refine lv_if_eq (tgt := 380) hx hb dL_adders_12 (by decide) (fun c => absurd c (by decide)) (fun _ => ?_)
  refine lv_aload_n hx hb dL_adders_15 rfl (lv_at hl 0 rfl) ?_
  refine lv_iconst (v := nI 2) hx hb dL_adders_16 (by decide) ?_
  refine lv_iconst (v := nI 0) hx hb dL_adders_17 (by decide) ?_
  refine lv_iconst (v := nI 0) hx hb dL_adders_18 (by decide) ?_
  refine lv_iconst (v := nI 0) hx hb dL_adders_19 (by decide) ?_
  refine lv_iconst (v := nI 0) hx hb dL_adders_20 (by decide) ?_
  refine lv_iconst (v := nI 0) hx hb dL_adders_21 (by decide) ?_
  refine lv_iconst (v := nI 0) hx hb dL_adders_22 (by decide) ?_
  refine wr_i (va_runS (As := [.ref (a 0), .int (nI 2), .int (nI 0), .int (nI 0), .int (nI 0), .int (nI 0), .int (nI 0), .int (nI 0)]) (rest := []) FX (w_net l hfl G a ha t9 z0 oz0 2 (by decide) (nI 0) (nI 0) (nI 0) (nI 0) (nI 0) (nI 0) of_z0_2_0 of_z0_2_1 of_z0_2_2 of_z0_2_3 of_z0_2_4 of_z0_2_6) (va_cwS 8 hts gL_adders_L_net rfl rfl rfl (by decide +kernel) ⟨Nat.le_of_ble_eq_true rfl, Nat.le_of_ble_eq_true rfl⟩) (preW hK hNW hCW (hLow.at hS (fun q9 h8 h9 => absurd h8 (Nat.not_lt.mpr h9))) (hX.at hS (fun q9 h8 h9 => absurd h8 (Nat.not_lt.mpr h9))) hNC) rfl rfl hl.1 rfl (lv_room (Nat.le_of_ble_eq_true rfl)) dL_adders_23 ⟨Nat.le_of_ble_eq_true rfl, Nat.le_of_ble_eq_true rfl⟩) hS (rng_ge hA) (fun r _ H locs hp hCW hk hS => ?_)
  refine lv_as (y := nI 1) hp ?_
  refine lv_if_eq (tgt := 380) hx hb dL_adders_26 (by decide) (fun c => absurd c (by decide)) (fun _ => ?_)
  refine lv_aload_n hx hb dL_adders_29 rfl (lv_at hl 0 rfl) ?_
  refine lv_iconst (v := nI 2) hx hb dL_adders_30 (by decide) ?_
  refine lv_iconst (v := nI 5) hx hb dL_adders_31 (by decide) ?_
  refine wr_i (va_runV (As := [.int (nI 2), .int (nI 5)]) (rest := []) FX (n_ofNet l hfl G a ha t9 z0 2 5 oz0 (by decide) (by decide)) (cwV 2 hts gL_adders_X11_ofNet rfl rfl rfl (by decide +kernel) ⟨Nat.le_of_ble_eq_true rfl, Nat.le_of_ble_eq_true rfl⟩) (preVX hK hNW hCW (hLow.at hS (fun q9 h8 h9 => absurd h8 (Nat.not_lt.mpr h9))) (hX.at hS (fun q9 h8 h9 => absurd h8 (Nat.not_lt.mpr h9))) (cw_recv hK hCW)) rfl rfl hl.1 rfl (lv_room (Nat.le_of_ble_eq_true rfl)) dL_adders_32 ⟨Nat.le_of_ble_eq_true rfl, Nat.le_of_ble_eq_true rfl⟩) hS (rng_ge hA) (fun r _ H locs hp hCW hk hS => ?_)
  refine lv_as (y := nI 0) (hp.trans of_z0_2_5) ?_
  refine lv_if_ne (tgt := 380) hx hb dL_adders_35 (by decide) (fun c => absurd c (by decide)) (fun _ => ?_)
  refine lv_aload_n hx hb dL_adders_38 rfl (lv_at hl 0 rfl) ?_
  refine lv_iconst (v := nI 2) hx hb dL_adders_39 (by decide) ?_
  refine lv_ldc (v := nI 1073741823) hx hb hown (hts (.constant RL 101 (1073741823)) (List.mem_of_getElem? (i := 4) (by decide +kernel))) dL_adders_40 ?_
  refine lv_iconst (v := nI 0) hx hb dL_adders_42 (by decide) ?_
  refine wr_i (va_runS (As := [.ref (a 0), .int (nI 2), .int (nI 1073741823), .int (nI 0)]) (rest := []) FX (w_value l hfl G a ha t9 z0 oz0 2 1073741823 (by decide) (by decide) (nI 0) vl_z0_2_1073741823) (va_cwS 4 hts gL_adders_L_value rfl rfl rfl (by decide +kernel) ⟨Nat.le_of_ble_eq_true rfl, Nat.le_of_ble_eq_true rfl⟩) (preW hK hNW hCW (hLow.at hS (fun q9 h8 h9 => absurd h8 (Nat.not_lt.mpr h9))) (hX.at hS (fun q9 h8 h9 => absurd h8 (Nat.not_lt.mpr h9))) hNC) rfl rfl hl.1 rfl (lv_room (Nat.le_of_ble_eq_true rfl)) dL_adders_43 ⟨Nat.le_of_ble_eq_true rfl, Nat.le_of_ble_eq_true rfl⟩) hS (rng_ge hA) (fun r _ H locs hp hCW hk hS => ?_)
  refine lv_as (y := nI 1) hp ?_
  refine lv_if_eq (tgt := 380) hx hb dL_adders_46 (by decide) (fun c => absurd c (by decide)) (fun _ => ?_)
  refine lv_aload_n hx hb dL_adders_49 rfl (lv_at hl 0 rfl) ?_
  refine lv_iconst (v := nI 2) hx hb dL_adders_50 (by decide) ?_
  refine lv_iconst (v := -1) hx hb dL_adders_51 (by decide) ?_
  refine lv_iconst (v := -1) hx hb dL_adders_52 (by decide) ?_
  refine lv_iconst (v := -1) hx hb dL_adders_53 (by decide) ?_
  refine lv_iconst (v := -1) hx hb dL_adders_54 (by decide) ?_
  refine lv_iconst (v := -1) hx hb dL_adders_55 (by decide) ?_
  refine wr_i (va_runS (As := [.ref (a 0), .int (nI 2), .int (-1), .int (-1), .int (-1), .int (-1), .int (-1)]) (rest := []) FX (w_path l hfl G a ha t9 z0 oz0 2 (by decide) (-1) (-1) (-1) (-1) (-1) pa_z0_2_0 pa_z0_2_1 pa_z0_2_2 pa_z0_2_3 pa_z0_2_4) (va_cwS 7 hts gL_adders_L_path rfl rfl rfl (by decide +kernel) ⟨Nat.le_of_ble_eq_true rfl, Nat.le_of_ble_eq_true rfl⟩) (preW hK hNW hCW (hLow.at hS (fun q9 h8 h9 => absurd h8 (Nat.not_lt.mpr h9))) (hX.at hS (fun q9 h8 h9 => absurd h8 (Nat.not_lt.mpr h9))) hNC) rfl rfl hl.1 rfl (lv_room (Nat.le_of_ble_eq_true rfl)) dL_adders_56 ⟨Nat.le_of_ble_eq_true rfl, Nat.le_of_ble_eq_true rfl⟩) hS (rng_ge hA) (fun r _ H locs hp hCW hk hS => ?_)
  refine lv_as (y := nI 1) hp ?_
  refine lv_if_eq (tgt := 380) hx hb dL_adders_59 (by decide) (fun c => absurd c (by decide)) (fun _ => ?_)
  refine lv_aload_n hx hb dL_adders_62 rfl (lv_at hl 0 rfl) ?_
  refine lv_iconst (v := nI 2) hx hb dL_adders_63 (by decide) ?_
  refine lv_iconst (v := nI 0) hx hb dL_adders_64 (by decide) ?_
  refine lv_bipush (v := nI 9) hx hb dL_adders_65 (by decide) ?_
  refine lv_iconst (v := nI 0) hx hb dL_adders_67 (by decide) ?_
  refine lv_iconst (v := nI 0) hx hb dL_adders_68 (by decide) ?_
  refine lv_iconst (v := nI 0) hx hb dL_adders_69 (by decide) ?_
  refine wr_i (va_runS (As := [.ref (a 0), .int (nI 2), .int (nI 0), .int (nI 9), .int (nI 0), .int (nI 0), .int (nI 0)]) (rest := []) FX (w_changes l hfl G a ha t9 z0 oz0 2 0 9 (by decide) (by decide) (by decide) (nI 0) (nI 0) (nI 0) (congrArg nI ch_z0_2_0_9.1) (congrArg nI ch_z0_2_0_9.2.1) (congrArg nI ch_z0_2_0_9.2.2)) (va_cwS 7 hts gL_adders_L_changes rfl rfl rfl (by decide +kernel) ⟨Nat.le_of_ble_eq_true rfl, Nat.le_of_ble_eq_true rfl⟩) (preW hK hNW hCW (hLow.at hS (fun q9 h8 h9 => absurd h8 (Nat.not_lt.mpr h9))) (hX.at hS (fun q9 h8 h9 => absurd h8 (Nat.not_lt.mpr h9))) hNC) rfl rfl hl.1 rfl (lv_room (Nat.le_of_ble_eq_true rfl)) dL_adders_70 ⟨Nat.le_of_ble_eq_true rfl, Nat.le_of_ble_eq_true rfl⟩) hS (rng_ge hA) (fun r _ H locs hp hCW hk hS => ?_)
  refine lv_as (y := nI 1) hp ?_
  refine lv_if_eq (tgt := 380) hx hb dL_adders_73 (by decide) (fun c => absurd c (by decide)) (fun _ => ?_)
  refine lv_aload_n hx hb dL_adders_76 rfl (lv_at hl 0 rfl) ?_
  refine lv_iconst (v := nI 1) hx hb dL_adders_77 (by decide) ?_
  refine lv_iconst (v := nI 2) hx hb dL_adders_78 (by decide) ?_
  refine wr_i (va_runV (As := [.int (nI 1), .int (nI 2)]) (rest := []) FX (n_unlike l hfl G a ha t9 z0 1 2 oz0 (by decide) (by decide) (by decide +kernel)) (cwV 2 hts gL_adders_X11_unlike rfl rfl rfl (by decide +kernel) ⟨Nat.le_of_ble_eq_true rfl, Nat.le_of_ble_eq_true rfl⟩) (preVX hK hNW hCW (hLow.at hS (fun q9 h8 h9 => absurd h8 (Nat.not_lt.mpr h9))) (hX.at hS (fun q9 h8 h9 => absurd h8 (Nat.not_lt.mpr h9))) (cw_recv hK hCW)) rfl rfl hl.1 rfl (lv_room (Nat.le_of_ble_eq_true rfl)) dL_adders_79 ⟨Nat.le_of_ble_eq_true rfl, Nat.le_of_ble_eq_true rfl⟩) hS (rng_ge hA) (fun r _ H locs hp hCW hk hS => ?_)
  refine lv_as (y := -1) (ul_z0_1_2 hp) ?_
  refine lv_iconst (v := -1) hx hb dL_adders_82 (by decide) ?_
  refine lv_icmp_ne (tgt := 380) hx hb dL_adders_83 (by decide) (fun c => absurd c (by decide)) (fun _ => ?_)
  refine lv_aload_n hx hb dL_adders_86 rfl (lv_at hl 0 rfl) ?_
  refine lv_bipush (v := nI 16) hx hb dL_adders_87 (by decide) ?_
  refine lv_iconst (v := nI 1) hx hb dL_adders_89 (by decide) ?_
  refine lv_iconst (v := nI 0) hx hb dL_adders_90 (by decide) ?_
  refine lv_iconst (v := nI 0) hx hb dL_adders_91 (by decide) ?_
  refine lv_iconst (v := nI 0) hx hb dL_adders_92 (by decide) ?_
  refine wr_i (vx_run0 (vx_runSX (As := [.ref (a 0), .int (nI 16), .int (nI 1), .int (nI 0), .int (nI 0), .int (nI 0)]) (rest := []) FX (w_act_off l hfl G a ha t9 z0 (nI 1) (nI 0) (nI 0) (nI 0) oz0) (vx_cwSW 6 hts gL_adders_L_act rfl rfl rfl (by decide +kernel) ⟨Nat.le_of_ble_eq_true rfl, Nat.le_of_ble_eq_true rfl⟩) (preW hK hNW hCW (hLow.at hS (fun q9 h8 h9 => absurd h8 (Nat.not_lt.mpr h9))) (hX.at hS (fun q9 h8 h9 => absurd h8 (Nat.not_lt.mpr h9))) hNC) rfl rfl hl.1 rfl (lv_room (Nat.le_of_ble_eq_true rfl)) dL_adders_93 ⟨Nat.le_of_ble_eq_true rfl, Nat.le_of_ble_eq_true rfl⟩)) hS (rng_ge hA) (fun r _ H locs hp hCW hk hS => ?_)
  refine lv_as (y := -7000003) (hp.2.2.2 (by decide +kernel)) ?_
  refine lv_ldc (v := -7000003) hx hb hown (hts (.constant RL 81 (-7000003)) (List.mem_of_getElem? (i := 5) (by decide +kernel))) dL_adders_96 ?_
  refine lv_icmp_ne (tgt := 380) hx hb dL_adders_98 (by decide) (fun c => absurd c (by decide)) (fun _ => ?_)
  refine lv_aload_n hx hb dL_adders_101 rfl (lv_at hl 0 rfl) ?_
  refine lv_iconst (v := nI 0) hx hb dL_adders_102 (by decide) ?_
  refine lv_iconst (v := nI 0) hx hb dL_adders_103 (by decide) ?_
  refine lv_iconst (v := nI 2) hx hb dL_adders_104 (by decide) ?_
  refine wr_i (va_runV (As := [.int (nI 0), .int (nI 0), .int (nI 2)]) (rest := []) FX (n_adder l hfl G a ha t9 z0 0 0 2 oz0 (by decide) (by decide) (by decide) (by decide +kernel)) (cwV 3 hts gL_adders_X11_adder rfl rfl rfl (by decide +kernel) ⟨Nat.le_of_ble_eq_true rfl, Nat.le_of_ble_eq_true rfl⟩) (preVX hK hNW hCW (hLow.at hS (fun q9 h8 h9 => absurd h8 (Nat.not_lt.mpr h9))) (hX.at hS (fun q9 h8 h9 => absurd h8 (Nat.not_lt.mpr h9))) (cw_recv hK hCW)) rfl rfl hl.1 rfl (lv_room (Nat.le_of_ble_eq_true rfl)) dL_adders_105 ⟨Nat.le_of_ble_eq_true rfl, Nat.le_of_ble_eq_true rfl⟩) hS (rng_ge hA) (fun r _ H locs hp hCW hk hS => ?_)
  refine lv_as (y := nI 11) (hp.trans (congrArg nI (show nG ((adS z0 0 0 2).1 0) = 11 from rp_z1_0.1))) ?_
  have hCW : CW G a z1 H := hCW
  refine lv_bipush (v := nI 11) hx hb dL_adders_108 (by decide) ?_
  refine lv_icmp_ne (tgt := 380) hx hb dL_adders_110 (by decide) (fun c => absurd c (by decide)) (fun _ => ?_)
  refine lv_aload_n hx hb dL_adders_113 rfl (lv_at hl 0 rfl) ?_
  refine lv_iconst (v := nI 0) hx hb dL_adders_114 (by decide) ?_
  refine lv_bipush (v := nI 11) hx hb dL_adders_115 (by decide) ?_
  refine lv_iconst (v := nI 4) hx hb dL_adders_117 (by decide) ?_
  refine lv_iconst (v := nI 3) hx hb dL_adders_118 (by decide) ?_
  refine lv_bipush (v := nI 7) hx hb dL_adders_119 (by decide) ?_
  refine lv_iconst (v := nI 3) hx hb dL_adders_121 (by decide) ?_
  refine lv_iconst (v := nI 0) hx hb dL_adders_122 (by decide) ?_
  refine wr_i (va_runS (As := [.ref (a 0), .int (nI 0), .int (nI 11), .int (nI 4), .int (nI 3), .int (nI 7), .int (nI 3), .int (nI 0)]) (rest := []) FX (w_net l hfl G a ha t9 z1 oz1 0 (by decide) (nI 11) (nI 4) (nI 3) (nI 7) (nI 3) (nI 0) of_z1_0_0 of_z1_0_1 of_z1_0_2 of_z1_0_3 of_z1_0_4 of_z1_0_6) (va_cwS 8 hts gL_adders_L_net rfl rfl rfl (by decide +kernel) ⟨Nat.le_of_ble_eq_true rfl, Nat.le_of_ble_eq_true rfl⟩) (preW hK hNW hCW (hLow.at hS (fun q9 h8 h9 => absurd h8 (Nat.not_lt.mpr h9))) (hX.at hS (fun q9 h8 h9 => absurd h8 (Nat.not_lt.mpr h9))) hNC) rfl rfl hl.1 rfl (lv_room (Nat.le_of_ble_eq_true rfl)) dL_adders_123 ⟨Nat.le_of_ble_eq_true rfl, Nat.le_of_ble_eq_true rfl⟩) hS (rng_ge hA) (fun r _ H locs hp hCW hk hS => ?_)
  refine lv_as (y := nI 1) hp ?_
  refine lv_if_eq (tgt := 380) hx hb dL_adders_126 (by decide) (fun c => absurd c (by decide)) (fun _ => ?_)
  refine lv_aload_n hx hb dL_adders_129 rfl (lv_at hl 0 rfl) ?_
  refine lv_iconst (v := nI 0) hx hb dL_adders_130 (by decide) ?_
  refine lv_iconst (v := nI 5) hx hb dL_adders_131 (by decide) ?_
  refine wr_i (va_runV (As := [.int (nI 0), .int (nI 5)]) (rest := []) FX (n_ofNet l hfl G a ha t9 z1 0 5 oz1 (by decide) (by decide)) (cwV 2 hts gL_adders_X11_ofNet rfl rfl rfl (by decide +kernel) ⟨Nat.le_of_ble_eq_true rfl, Nat.le_of_ble_eq_true rfl⟩) (preVX hK hNW hCW (hLow.at hS (fun q9 h8 h9 => absurd h8 (Nat.not_lt.mpr h9))) (hX.at hS (fun q9 h8 h9 => absurd h8 (Nat.not_lt.mpr h9))) (cw_recv hK hCW)) rfl rfl hl.1 rfl (lv_room (Nat.le_of_ble_eq_true rfl)) dL_adders_132 ⟨Nat.le_of_ble_eq_true rfl, Nat.le_of_ble_eq_true rfl⟩) hS (rng_ge hA) (fun r _ H locs hp hCW hk hS => ?_)
  refine lv_as (y := nI 2) (hp.trans of_z1_0_5) ?_
  refine lv_iconst (v := nI 2) hx hb dL_adders_135 (by decide) ?_
  refine lv_icmp_ne (tgt := 380) hx hb dL_adders_136 (by decide) (fun c => absurd c (by decide)) (fun _ => ?_)
  refine lv_aload_n hx hb dL_adders_139 rfl (lv_at hl 0 rfl) ?_
  refine lv_iconst (v := nI 0) hx hb dL_adders_140 (by decide) ?_
  refine lv_bipush (v := nI 7) hx hb dL_adders_141 (by decide) ?_
  refine lv_iconst (v := nI 4) hx hb dL_adders_143 (by decide) ?_
  refine wr_i (va_runS (As := [.ref (a 0), .int (nI 0), .int (nI 7), .int (nI 4)]) (rest := []) FX (w_value l hfl G a ha t9 z1 oz1 0 7 (by decide) (by decide) (nI 4) vl_z1_0_7) (va_cwS 4 hts gL_adders_L_value rfl rfl rfl (by decide +kernel) ⟨Nat.le_of_ble_eq_true rfl, Nat.le_of_ble_eq_true rfl⟩) (preW hK hNW hCW (hLow.at hS (fun q9 h8 h9 => absurd h8 (Nat.not_lt.mpr h9))) (hX.at hS (fun q9 h8 h9 => absurd h8 (Nat.not_lt.mpr h9))) hNC) rfl rfl hl.1 rfl (lv_room (Nat.le_of_ble_eq_true rfl)) dL_adders_144 ⟨Nat.le_of_ble_eq_true rfl, Nat.le_of_ble_eq_true rfl⟩) hS (rng_ge hA) (fun r _ H locs hp hCW hk hS => ?_)
  refine lv_as (y := nI 1) hp ?_
  refine lv_if_eq (tgt := 380) hx hb dL_adders_147 (by decide) (fun c => absurd c (by decide)) (fun _ => ?_)
  refine lv_aload_n hx hb dL_adders_150 rfl (lv_at hl 0 rfl) ?_
  refine lv_iconst (v := nI 0) hx hb dL_adders_151 (by decide) ?_
  refine lv_bipush (v := nI 15) hx hb dL_adders_152 (by decide) ?_
  refine lv_bipush (v := nI 6) hx hb dL_adders_154 (by decide) ?_
  refine wr_i (va_runS (As := [.ref (a 0), .int (nI 0), .int (nI 15), .int (nI 6)]) (rest := []) FX (w_value l hfl G a ha t9 z1 oz1 0 15 (by decide) (by decide) (nI 6) vl_z1_0_15) (va_cwS 4 hts gL_adders_L_value rfl rfl rfl (by decide +kernel) ⟨Nat.le_of_ble_eq_true rfl, Nat.le_of_ble_eq_true rfl⟩) (preW hK hNW hCW (hLow.at hS (fun q9 h8 h9 => absurd h8 (Nat.not_lt.mpr h9))) (hX.at hS (fun q9 h8 h9 => absurd h8 (Nat.not_lt.mpr h9))) hNC) rfl rfl hl.1 rfl (lv_room (Nat.le_of_ble_eq_true rfl)) dL_adders_156 ⟨Nat.le_of_ble_eq_true rfl, Nat.le_of_ble_eq_true rfl⟩) hS (rng_ge hA) (fun r _ H locs hp hCW hk hS => ?_)
  refine lv_as (y := nI 1) hp ?_
  refine lv_if_eq (tgt := 380) hx hb dL_adders_159 (by decide) (fun c => absurd c (by decide)) (fun _ => ?_)
  exact K _ _ _ hS hCW hl
set_option maxHeartbeats 4000000 in
set_option maxRecDepth 100000 in
theorem t_adders_2 {p : Program} {l : Launch} {e : Env} {s : State} {m : MethodId} {args : Array Value} {below : List Frame} {meth : Method} {c : Code} {Q : State → Prop} {G : GG} {a : Nat → Nat} {t9 : Nat} (J : LJ p l s m meth c args cL_adders (some .boolean) 1 wsL_adders G a t9) (hA : ∀ k, s.heap.size ≤ a k) (hNI : NI s) (hAO : va_AO RX3 s) (hI : ∀ q, s.heap.size ≤ q → inM a q) {H : Heap} {locs : List Loc} {ls : Array Slot} (hS : va_S (fun q : Nat => s.heap.size ≤ q) s.heap H locs) (hCW : CW G a z1 H) (hl : lv_has ls 1 [(0, .ref (a 0))]) (K : ∀ (H : Heap) (locs : List Loc) (ls : Array Slot), va_S (fun q : Nat => s.heap.size ≤ q) s.heap H locs → CW G a z1 H → lv_has ls 1 [(0, .ref (a 0))] → W p l e ({ frames := 12, cells := 5444, slots := 45292, locals := 246 } : Room) s m args below meth c H locs 1454 15038 Q (F0 m 315 ls [])) : W p l e ({ frames := 12, cells := 5444, slots := 45292, locals := 246 } : Room) s m args below meth c H locs 1380 14594 Q (F0 m 162 ls []) := by
  obtain ⟨hfl, hx, hb, hr, hml, hown, hts, hlocks, ha, hK, hNW, hLow, hX, hNC⟩ := J
  have FX : CallFix p m c cL_adders 1 s args wsL_adders RL := ⟨hx, hb, hml, hown, hts⟩
  refine lv_aload_n hx hb dL_adders_162 rfl (lv_at hl 0 rfl) ?_
  refine lv_iconst (v := nI 0) hx hb dL_adders_163 (by decide) ?_
  refine lv_ldc (v := nI 1073741808) hx hb hown (hts (.constant RL 110 (1073741808)) (List.mem_of_getElem? (i := 6) (by decide +kernel))) dL_adders_164 ?_
  refine lv_iconst (v := nI 0) hx hb dL_adders_166 (by decide) ?_
  refine wr_i (va_runS (As := [.ref (a 0), .int (nI 0), .int (nI 1073741808), .int (nI 0)]) (rest := []) FX (w_value l hfl G a ha t9 z1 oz1 0 1073741808 (by decide) (by decide) (nI 0) vl_z1_0_1073741808) (va_cwS 4 hts gL_adders_L_value rfl rfl rfl (by decide +kernel) ⟨Nat.le_of_ble_eq_true rfl, Nat.le_of_ble_eq_true rfl⟩) (preW hK hNW hCW (hLow.at hS (fun q9 h8 h9 => absurd h8 (Nat.not_lt.mpr h9))) (hX.at hS (fun q9 h8 h9 => absurd h8 (Nat.not_lt.mpr h9))) hNC) rfl rfl hl.1 rfl (lv_room (Nat.le_of_ble_eq_true rfl)) dL_adders_167 ⟨Nat.le_of_ble_eq_true rfl, Nat.le_of_ble_eq_true rfl⟩) hS (rng_ge hA) (fun r _ H locs hp hCW hk hS => ?_)
  refine lv_as (y := nI 1) hp ?_
  refine lv_if_eq (tgt := 380) hx hb dL_adders_170 (by decide) (fun c => absurd c (by decide)) (fun _ => ?_)
  refine lv_aload_n hx hb dL_adders_173 rfl (lv_at hl 0 rfl) ?_
  refine lv_iconst (v := nI 0) hx hb dL_adders_174 (by decide) ?_
  refine lv_bipush (v := nI 10) hx hb dL_adders_175 (by decide) ?_
  refine wr_i (va_runV (As := [.int (nI 0), .int (nI 10)]) (rest := []) FX (n_time l hfl G a ha t9 z1 0 10 oz1 (by decide) (by decide +kernel)) (cwV 2 hts gL_adders_X11_time rfl rfl rfl (by decide +kernel) ⟨Nat.le_of_ble_eq_true rfl, Nat.le_of_ble_eq_true rfl⟩) (preVX hK hNW hCW (hLow.at hS (fun q9 h8 h9 => absurd h8 (Nat.not_lt.mpr h9))) (hX.at hS (fun q9 h8 h9 => absurd h8 (Nat.not_lt.mpr h9))) (cw_recv hK hCW)) rfl rfl hl.1 rfl (lv_room (Nat.le_of_ble_eq_true rfl)) dL_adders_177 ⟨Nat.le_of_ble_eq_true rfl, Nat.le_of_ble_eq_true rfl⟩) hS (rng_ge hA) (fun r _ H locs hp hCW hk hS => ?_)
  refine lv_as (y := nI 3) (hp.trans ti_z1_0_10) ?_
  refine lv_iconst (v := nI 3) hx hb dL_adders_180 (by decide) ?_
  refine lv_icmp_ne (tgt := 380) hx hb dL_adders_181 (by decide) (fun c => absurd c (by decide)) (fun _ => ?_)
  refine lv_aload_n hx hb dL_adders_184 rfl (lv_at hl 0 rfl) ?_
  refine lv_iconst (v := nI 0) hx hb dL_adders_185 (by decide) ?_
  refine lv_bipush (v := nI 7) hx hb dL_adders_186 (by decide) ?_
  refine wr_i (va_runV (As := [.int (nI 0), .int (nI 7)]) (rest := []) FX (n_time l hfl G a ha t9 z1 0 7 oz1 (by decide) (by decide +kernel)) (cwV 2 hts gL_adders_X11_time rfl rfl rfl (by decide +kernel) ⟨Nat.le_of_ble_eq_true rfl, Nat.le_of_ble_eq_true rfl⟩) (preVX hK hNW hCW (hLow.at hS (fun q9 h8 h9 => absurd h8 (Nat.not_lt.mpr h9))) (hX.at hS (fun q9 h8 h9 => absurd h8 (Nat.not_lt.mpr h9))) (cw_recv hK hCW)) rfl rfl hl.1 rfl (lv_room (Nat.le_of_ble_eq_true rfl)) dL_adders_188 ⟨Nat.le_of_ble_eq_true rfl, Nat.le_of_ble_eq_true rfl⟩) hS (rng_ge hA) (fun r _ H locs hp hCW hk hS => ?_)
  refine lv_as (y := nI 2) (hp.trans ti_z1_0_7) ?_
  refine lv_iconst (v := nI 2) hx hb dL_adders_191 (by decide) ?_
  refine lv_icmp_ne (tgt := 380) hx hb dL_adders_192 (by decide) (fun c => absurd c (by decide)) (fun _ => ?_)
  refine lv_aload_n hx hb dL_adders_195 rfl (lv_at hl 0 rfl) ?_
  refine lv_iconst (v := nI 0) hx hb dL_adders_196 (by decide) ?_
  refine lv_iconst (v := nI 3) hx hb dL_adders_197 (by decide) ?_
  refine wr_i (va_runV (As := [.int (nI 0), .int (nI 3)]) (rest := []) FX (n_time l hfl G a ha t9 z1 0 3 oz1 (by decide) (by decide +kernel)) (cwV 2 hts gL_adders_X11_time rfl rfl rfl (by decide +kernel) ⟨Nat.le_of_ble_eq_true rfl, Nat.le_of_ble_eq_true rfl⟩) (preVX hK hNW hCW (hLow.at hS (fun q9 h8 h9 => absurd h8 (Nat.not_lt.mpr h9))) (hX.at hS (fun q9 h8 h9 => absurd h8 (Nat.not_lt.mpr h9))) (cw_recv hK hCW)) rfl rfl hl.1 rfl (lv_room (Nat.le_of_ble_eq_true rfl)) dL_adders_198 ⟨Nat.le_of_ble_eq_true rfl, Nat.le_of_ble_eq_true rfl⟩) hS (rng_ge hA) (fun r _ H locs hp hCW hk hS => ?_)
  refine lv_as (y := nI 0) (hp.trans ti_z1_0_3) ?_
  refine lv_if_ne (tgt := 380) hx hb dL_adders_201 (by decide) (fun c => absurd c (by decide)) (fun _ => ?_)
  refine lv_aload_n hx hb dL_adders_204 rfl (lv_at hl 0 rfl) ?_
  refine lv_iconst (v := nI 0) hx hb dL_adders_205 (by decide) ?_
  refine lv_bipush (v := nI 10) hx hb dL_adders_206 (by decide) ?_
  refine lv_bipush (v := nI 9) hx hb dL_adders_208 (by decide) ?_
  refine lv_bipush (v := nI 6) hx hb dL_adders_210 (by decide) ?_
  refine lv_iconst (v := nI 1) hx hb dL_adders_212 (by decide) ?_
  refine lv_iconst (v := -1) hx hb dL_adders_213 (by decide) ?_
  refine wr_i (va_runS (As := [.ref (a 0), .int (nI 0), .int (nI 10), .int (nI 9), .int (nI 6), .int (nI 1), .int (-1)]) (rest := []) FX (w_path l hfl G a ha t9 z1 oz1 0 (by decide) (nI 10) (nI 9) (nI 6) (nI 1) (-1) pa_z1_0_0 pa_z1_0_1 pa_z1_0_2 pa_z1_0_3 pa_z1_0_4) (va_cwS 7 hts gL_adders_L_path rfl rfl rfl (by decide +kernel) ⟨Nat.le_of_ble_eq_true rfl, Nat.le_of_ble_eq_true rfl⟩) (preW hK hNW hCW (hLow.at hS (fun q9 h8 h9 => absurd h8 (Nat.not_lt.mpr h9))) (hX.at hS (fun q9 h8 h9 => absurd h8 (Nat.not_lt.mpr h9))) hNC) rfl rfl hl.1 rfl (lv_room (Nat.le_of_ble_eq_true rfl)) dL_adders_214 ⟨Nat.le_of_ble_eq_true rfl, Nat.le_of_ble_eq_true rfl⟩) hS (rng_ge hA) (fun r _ H locs hp hCW hk hS => ?_)
  refine lv_as (y := nI 1) hp ?_
  refine lv_if_eq (tgt := 380) hx hb dL_adders_217 (by decide) (fun c => absurd c (by decide)) (fun _ => ?_)
  refine lv_aload_n hx hb dL_adders_220 rfl (lv_at hl 0 rfl) ?_
  refine lv_iconst (v := nI 0) hx hb dL_adders_221 (by decide) ?_
  refine lv_iconst (v := nI 5) hx hb dL_adders_222 (by decide) ?_
  refine lv_iconst (v := nI 5) hx hb dL_adders_223 (by decide) ?_
  refine wr_i (va_runV (As := [.int (nI 0), .int (nI 5), .int (nI 5)]) (rest := []) FX (n_bit l hfl G a ha t9 z1 0 5 5 oz1 (by decide) (by decide +kernel) (by decide)) (cwV 3 hts gL_adders_X11_bit rfl rfl rfl (by decide +kernel) ⟨Nat.le_of_ble_eq_true rfl, Nat.le_of_ble_eq_true rfl⟩) (preVX hK hNW hCW (hLow.at hS (fun q9 h8 h9 => absurd h8 (Nat.not_lt.mpr h9))) (hX.at hS (fun q9 h8 h9 => absurd h8 (Nat.not_lt.mpr h9))) (cw_recv hK hCW)) rfl rfl hl.1 rfl (lv_room (Nat.le_of_ble_eq_true rfl)) dL_adders_224 ⟨Nat.le_of_ble_eq_true rfl, Nat.le_of_ble_eq_true rfl⟩) hS (rng_ge hA) (fun r _ H locs hp hCW hk hS => ?_)
  refine lv_as (y := nI 1) (hp.trans bt_z1_0_5_5) ?_
  refine lv_iconst (v := nI 1) hx hb dL_adders_227 (by decide) ?_
  refine lv_icmp_ne (tgt := 380) hx hb dL_adders_228 (by decide) (fun c => absurd c (by decide)) (fun _ => ?_)
  refine lv_aload_n hx hb dL_adders_231 rfl (lv_at hl 0 rfl) ?_
  refine lv_iconst (v := nI 0) hx hb dL_adders_232 (by decide) ?_
  refine lv_bipush (v := nI 7) hx hb dL_adders_233 (by decide) ?_
  refine lv_iconst (v := nI 5) hx hb dL_adders_235 (by decide) ?_
  refine wr_i (va_runV (As := [.int (nI 0), .int (nI 7), .int (nI 5)]) (rest := []) FX (n_bit l hfl G a ha t9 z1 0 7 5 oz1 (by decide) (by decide +kernel) (by decide)) (cwV 3 hts gL_adders_X11_bit rfl rfl rfl (by decide +kernel) ⟨Nat.le_of_ble_eq_true rfl, Nat.le_of_ble_eq_true rfl⟩) (preVX hK hNW hCW (hLow.at hS (fun q9 h8 h9 => absurd h8 (Nat.not_lt.mpr h9))) (hX.at hS (fun q9 h8 h9 => absurd h8 (Nat.not_lt.mpr h9))) (cw_recv hK hCW)) rfl rfl hl.1 rfl (lv_room (Nat.le_of_ble_eq_true rfl)) dL_adders_236 ⟨Nat.le_of_ble_eq_true rfl, Nat.le_of_ble_eq_true rfl⟩) hS (rng_ge hA) (fun r _ H locs hp hCW hk hS => ?_)
  refine lv_as (y := nI 1) (hp.trans bt_z1_0_7_5) ?_
  refine lv_iconst (v := nI 1) hx hb dL_adders_239 (by decide) ?_
  refine lv_icmp_ne (tgt := 380) hx hb dL_adders_240 (by decide) (fun c => absurd c (by decide)) (fun _ => ?_)
  refine lv_aload_n hx hb dL_adders_243 rfl (lv_at hl 0 rfl) ?_
  refine lv_iconst (v := nI 0) hx hb dL_adders_244 (by decide) ?_
  refine lv_bipush (v := nI 6) hx hb dL_adders_245 (by decide) ?_
  refine lv_iconst (v := nI 5) hx hb dL_adders_247 (by decide) ?_
  refine wr_i (va_runV (As := [.int (nI 0), .int (nI 6), .int (nI 5)]) (rest := []) FX (n_bit l hfl G a ha t9 z1 0 6 5 oz1 (by decide) (by decide +kernel) (by decide)) (cwV 3 hts gL_adders_X11_bit rfl rfl rfl (by decide +kernel) ⟨Nat.le_of_ble_eq_true rfl, Nat.le_of_ble_eq_true rfl⟩) (preVX hK hNW hCW (hLow.at hS (fun q9 h8 h9 => absurd h8 (Nat.not_lt.mpr h9))) (hX.at hS (fun q9 h8 h9 => absurd h8 (Nat.not_lt.mpr h9))) (cw_recv hK hCW)) rfl rfl hl.1 rfl (lv_room (Nat.le_of_ble_eq_true rfl)) dL_adders_248 ⟨Nat.le_of_ble_eq_true rfl, Nat.le_of_ble_eq_true rfl⟩) hS (rng_ge hA) (fun r _ H locs hp hCW hk hS => ?_)
  refine lv_as (y := nI 0) (hp.trans bt_z1_0_6_5) ?_
  refine lv_if_ne (tgt := 380) hx hb dL_adders_251 (by decide) (fun c => absurd c (by decide)) (fun _ => ?_)
  refine lv_aload_n hx hb dL_adders_254 rfl (lv_at hl 0 rfl) ?_
  refine lv_iconst (v := nI 0) hx hb dL_adders_255 (by decide) ?_
  refine lv_iconst (v := nI 2) hx hb dL_adders_256 (by decide) ?_
  refine lv_iconst (v := nI 4) hx hb dL_adders_257 (by decide) ?_
  refine wr_i (va_runV (As := [.int (nI 0), .int (nI 2), .int (nI 4)]) (rest := []) FX (n_bit l hfl G a ha t9 z1 0 2 4 oz1 (by decide) (by decide +kernel) (by decide)) (cwV 3 hts gL_adders_X11_bit rfl rfl rfl (by decide +kernel) ⟨Nat.le_of_ble_eq_true rfl, Nat.le_of_ble_eq_true rfl⟩) (preVX hK hNW hCW (hLow.at hS (fun q9 h8 h9 => absurd h8 (Nat.not_lt.mpr h9))) (hX.at hS (fun q9 h8 h9 => absurd h8 (Nat.not_lt.mpr h9))) (cw_recv hK hCW)) rfl rfl hl.1 rfl (lv_room (Nat.le_of_ble_eq_true rfl)) dL_adders_258 ⟨Nat.le_of_ble_eq_true rfl, Nat.le_of_ble_eq_true rfl⟩) hS (rng_ge hA) (fun r _ H locs hp hCW hk hS => ?_)
  refine lv_as (y := nI 1) (hp.trans bt_z1_0_2_4) ?_
  refine lv_iconst (v := nI 1) hx hb dL_adders_261 (by decide) ?_
  refine lv_icmp_ne (tgt := 380) hx hb dL_adders_262 (by decide) (fun c => absurd c (by decide)) (fun _ => ?_)
  refine lv_aload_n hx hb dL_adders_265 rfl (lv_at hl 0 rfl) ?_
  refine lv_iconst (v := nI 0) hx hb dL_adders_266 (by decide) ?_
  refine lv_iconst (v := nI 0) hx hb dL_adders_267 (by decide) ?_
  refine lv_iconst (v := nI 0) hx hb dL_adders_268 (by decide) ?_
  refine lv_iconst (v := nI 0) hx hb dL_adders_269 (by decide) ?_
  refine lv_iconst (v := nI 0) hx hb dL_adders_270 (by decide) ?_
  refine lv_iconst (v := -1) hx hb dL_adders_271 (by decide) ?_
  refine wr_i (va_runS (As := [.ref (a 0), .int (nI 0), .int (nI 0), .int (nI 0), .int (nI 0), .int (nI 0), .int (-1)]) (rest := []) FX (w_off l hfl G a ha t9 z1 oz1 0 0 (by decide) (by decide) (by decide +kernel) (nI 0) (nI 0) (nI 0) (-1) off_z1_0_0_0 off_z1_0_0_1 off_z1_0_0_2 off_z1_0_0_3) (va_cwS 7 hts gL_adders_L_off rfl rfl rfl (by decide +kernel) ⟨Nat.le_of_ble_eq_true rfl, Nat.le_of_ble_eq_true rfl⟩) (preW hK hNW hCW (hLow.at hS (fun q9 h8 h9 => absurd h8 (Nat.not_lt.mpr h9))) (hX.at hS (fun q9 h8 h9 => absurd h8 (Nat.not_lt.mpr h9))) hNC) rfl rfl hl.1 rfl (lv_room (Nat.le_of_ble_eq_true rfl)) dL_adders_272 ⟨Nat.le_of_ble_eq_true rfl, Nat.le_of_ble_eq_true rfl⟩) hS (rng_ge hA) (fun r _ H locs hp hCW hk hS => ?_)
  refine lv_as (y := nI 1) hp ?_
  refine lv_if_eq (tgt := 380) hx hb dL_adders_275 (by decide) (fun c => absurd c (by decide)) (fun _ => ?_)
  refine lv_aload_n hx hb dL_adders_278 rfl (lv_at hl 0 rfl) ?_
  refine lv_iconst (v := nI 0) hx hb dL_adders_279 (by decide) ?_
  refine lv_iconst (v := nI 1) hx hb dL_adders_280 (by decide) ?_
  refine lv_bipush (v := nI 14) hx hb dL_adders_281 (by decide) ?_
  refine lv_iconst (v := nI 3) hx hb dL_adders_283 (by decide) ?_
  refine lv_bipush (v := nI 22) hx hb dL_adders_284 (by decide) ?_
  refine lv_iconst (v := nI 1) hx hb dL_adders_286 (by decide) ?_
  refine wr_i (va_runS (As := [.ref (a 0), .int (nI 0), .int (nI 1), .int (nI 14), .int (nI 3), .int (nI 22), .int (nI 1)]) (rest := []) FX (w_off l hfl G a ha t9 z1 oz1 0 1 (by decide) (by decide) (by decide +kernel) (nI 14) (nI 3) (nI 22) (nI 1) off_z1_0_1_0 off_z1_0_1_1 off_z1_0_1_2 off_z1_0_1_3) (va_cwS 7 hts gL_adders_L_off rfl rfl rfl (by decide +kernel) ⟨Nat.le_of_ble_eq_true rfl, Nat.le_of_ble_eq_true rfl⟩) (preW hK hNW hCW (hLow.at hS (fun q9 h8 h9 => absurd h8 (Nat.not_lt.mpr h9))) (hX.at hS (fun q9 h8 h9 => absurd h8 (Nat.not_lt.mpr h9))) hNC) rfl rfl hl.1 rfl (lv_room (Nat.le_of_ble_eq_true rfl)) dL_adders_287 ⟨Nat.le_of_ble_eq_true rfl, Nat.le_of_ble_eq_true rfl⟩) hS (rng_ge hA) (fun r _ H locs hp hCW hk hS => ?_)
  refine lv_as (y := nI 1) hp ?_
  refine lv_if_eq (tgt := 380) hx hb dL_adders_290 (by decide) (fun c => absurd c (by decide)) (fun _ => ?_)
  refine lv_aload_n hx hb dL_adders_293 rfl (lv_at hl 0 rfl) ?_
  refine lv_iconst (v := nI 0) hx hb dL_adders_294 (by decide) ?_
  refine lv_iconst (v := nI 1) hx hb dL_adders_295 (by decide) ?_
  refine lv_iconst (v := nI 2) hx hb dL_adders_296 (by decide) ?_
  refine wr_i (va_runV (As := [.int (nI 0), .int (nI 1), .int (nI 2)]) (rest := []) FX (n_unseen l hfl G a ha t9 z1 0 1 2 oz1 (by decide) (by decide) (by decide) (by decide +kernel)) (cwV 3 hts gL_adders_X11_unseen rfl rfl rfl (by decide +kernel) ⟨Nat.le_of_ble_eq_true rfl, Nat.le_of_ble_eq_true rfl⟩) (preVX hK hNW hCW (hLow.at hS (fun q9 h8 h9 => absurd h8 (Nat.not_lt.mpr h9))) (hX.at hS (fun q9 h8 h9 => absurd h8 (Nat.not_lt.mpr h9))) (cw_recv hK hCW)) rfl rfl hl.1 rfl (lv_room (Nat.le_of_ble_eq_true rfl)) dL_adders_297 ⟨Nat.le_of_ble_eq_true rfl, Nat.le_of_ble_eq_true rfl⟩) hS (rng_ge hA) (fun r _ H locs hp hCW hk hS => ?_)
  refine lv_as (y := nI 2) (hp.trans un_z1_0_1_2) ?_
  refine lv_iconst (v := nI 2) hx hb dL_adders_300 (by decide) ?_
  refine lv_icmp_ne (tgt := 380) hx hb dL_adders_301 (by decide) (fun c => absurd c (by decide)) (fun _ => ?_)
  refine lv_aload_n hx hb dL_adders_304 rfl (lv_at hl 0 rfl) ?_
  refine lv_iconst (v := nI 0) hx hb dL_adders_305 (by decide) ?_
  refine lv_iconst (v := nI 1) hx hb dL_adders_306 (by decide) ?_
  refine lv_iconst (v := nI 3) hx hb dL_adders_307 (by decide) ?_
  refine wr_i (va_runV (As := [.int (nI 0), .int (nI 1), .int (nI 3)]) (rest := []) FX (n_unseen l hfl G a ha t9 z1 0 1 3 oz1 (by decide) (by decide) (by decide) (by decide +kernel)) (cwV 3 hts gL_adders_X11_unseen rfl rfl rfl (by decide +kernel) ⟨Nat.le_of_ble_eq_true rfl, Nat.le_of_ble_eq_true rfl⟩) (preVX hK hNW hCW (hLow.at hS (fun q9 h8 h9 => absurd h8 (Nat.not_lt.mpr h9))) (hX.at hS (fun q9 h8 h9 => absurd h8 (Nat.not_lt.mpr h9))) (cw_recv hK hCW)) rfl rfl hl.1 rfl (lv_room (Nat.le_of_ble_eq_true rfl)) dL_adders_308 ⟨Nat.le_of_ble_eq_true rfl, Nat.le_of_ble_eq_true rfl⟩) hS (rng_ge hA) (fun r _ H locs hp hCW hk hS => ?_)
  refine lv_as (y := nI 3) (hp.trans un_z1_0_1_3) ?_
  refine lv_iconst (v := nI 3) hx hb dL_adders_311 (by decide) ?_
  refine lv_icmp_ne (tgt := 380) hx hb dL_adders_312 (by decide) (fun c => absurd c (by decide)) (fun _ => ?_)
  exact K _ _ _ hS hCW hl
set_option maxHeartbeats 4000000 in
set_option maxRecDepth 100000 in
theorem t_adders_3 {p : Program} {l : Launch} {e : Env} {s : State} {m : MethodId} {args : Array Value} {below : List Frame} {meth : Method} {c : Code} {Q : State → Prop} {G : GG} {a : Nat → Nat} {t9 : Nat} (J : LJ p l s m meth c args cL_adders (some .boolean) 1 wsL_adders G a t9) (hA : ∀ k, s.heap.size ≤ a k) (hNI : NI s) (hAO : va_AO RX3 s) (hI : ∀ q, s.heap.size ≤ q → inM a q) {H : Heap} {locs : List Loc} {ls : Array Slot} (hS : va_S (fun q : Nat => s.heap.size ≤ q) s.heap H locs) (hCW : CW G a z1 H) (hl : lv_has ls 1 [(0, .ref (a 0))]) (K : ∀ (H : Heap) (locs : List Loc) (ls : Array Slot), va_S (fun q : Nat => s.heap.size ≤ q) s.heap H locs → CW G a z2 H → lv_has ls 1 [(0, .ref (a 0))] → W p l e ({ frames := 12, cells := 5444, slots := 45292, locals := 246 } : Room) s m args below meth c H locs 1621 16040 Q (F0 m 467 ls [])) : W p l e ({ frames := 12, cells := 5444, slots := 45292, locals := 246 } : Room) s m args below meth c H locs 1454 15038 Q (F0 m 315 ls []) := by
  obtain ⟨hfl, hx, hb, hr, hml, hown, hts, hlocks, ha, hK, hNW, hLow, hX, hNC⟩ := J
  have FX : CallFix p m c cL_adders 1 s args wsL_adders RL := ⟨hx, hb, hml, hown, hts⟩
  refine lv_aload_n hx hb dL_adders_315 rfl (lv_at hl 0 rfl) ?_
  refine lv_iconst (v := nI 0) hx hb dL_adders_316 (by decide) ?_
  refine lv_iconst (v := nI 0) hx hb dL_adders_317 (by decide) ?_
  refine lv_iconst (v := nI 5) hx hb dL_adders_318 (by decide) ?_
  refine wr_i (va_runV (As := [.int (nI 0), .int (nI 0), .int (nI 5)]) (rest := []) FX (n_unseen l hfl G a ha t9 z1 0 0 5 oz1 (by decide) (by decide) (by decide) (by decide +kernel)) (cwV 3 hts gL_adders_X11_unseen rfl rfl rfl (by decide +kernel) ⟨Nat.le_of_ble_eq_true rfl, Nat.le_of_ble_eq_true rfl⟩) (preVX hK hNW hCW (hLow.at hS (fun q9 h8 h9 => absurd h8 (Nat.not_lt.mpr h9))) (hX.at hS (fun q9 h8 h9 => absurd h8 (Nat.not_lt.mpr h9))) (cw_recv hK hCW)) rfl rfl hl.1 rfl (lv_room (Nat.le_of_ble_eq_true rfl)) dL_adders_319 ⟨Nat.le_of_ble_eq_true rfl, Nat.le_of_ble_eq_true rfl⟩) hS (rng_ge hA) (fun r _ H locs hp hCW hk hS => ?_)
  refine lv_as (y := nI 0) (hp.trans un_z1_0_0_5) ?_
  refine lv_if_ne (tgt := 380) hx hb dL_adders_322 (by decide) (fun c => absurd c (by decide)) (fun _ => ?_)
  refine lv_aload_n hx hb dL_adders_325 rfl (lv_at hl 0 rfl) ?_
  refine lv_iconst (v := nI 0) hx hb dL_adders_326 (by decide) ?_
  refine lv_iconst (v := nI 0) hx hb dL_adders_327 (by decide) ?_
  refine lv_iconst (v := nI 5) hx hb dL_adders_328 (by decide) ?_
  refine lv_iconst (v := nI 2) hx hb dL_adders_329 (by decide) ?_
  refine lv_iconst (v := nI 2) hx hb dL_adders_330 (by decide) ?_
  refine lv_iconst (v := nI 1) hx hb dL_adders_331 (by decide) ?_
  refine wr_i (va_runS (As := [.ref (a 0), .int (nI 0), .int (nI 0), .int (nI 5), .int (nI 2), .int (nI 2), .int (nI 1)]) (rest := []) FX (w_changes l hfl G a ha t9 z1 oz1 0 0 5 (by decide) (by decide) (by decide) (nI 2) (nI 2) (nI 1) (congrArg nI ch_z1_0_0_5.1) (congrArg nI ch_z1_0_0_5.2.1) (congrArg nI ch_z1_0_0_5.2.2)) (va_cwS 7 hts gL_adders_L_changes rfl rfl rfl (by decide +kernel) ⟨Nat.le_of_ble_eq_true rfl, Nat.le_of_ble_eq_true rfl⟩) (preW hK hNW hCW (hLow.at hS (fun q9 h8 h9 => absurd h8 (Nat.not_lt.mpr h9))) (hX.at hS (fun q9 h8 h9 => absurd h8 (Nat.not_lt.mpr h9))) hNC) rfl rfl hl.1 rfl (lv_room (Nat.le_of_ble_eq_true rfl)) dL_adders_332 ⟨Nat.le_of_ble_eq_true rfl, Nat.le_of_ble_eq_true rfl⟩) hS (rng_ge hA) (fun r _ H locs hp hCW hk hS => ?_)
  refine lv_as (y := nI 1) hp ?_
  refine lv_if_eq (tgt := 380) hx hb dL_adders_335 (by decide) (fun c => absurd c (by decide)) (fun _ => ?_)
  refine lv_aload_n hx hb dL_adders_338 rfl (lv_at hl 0 rfl) ?_
  refine lv_iconst (v := nI 0) hx hb dL_adders_339 (by decide) ?_
  refine lv_iconst (v := nI 3) hx hb dL_adders_340 (by decide) ?_
  refine lv_bipush (v := nI 7) hx hb dL_adders_341 (by decide) ?_
  refine lv_iconst (v := nI 5) hx hb dL_adders_343 (by decide) ?_
  refine lv_iconst (v := nI 3) hx hb dL_adders_344 (by decide) ?_
  refine lv_iconst (v := nI 3) hx hb dL_adders_345 (by decide) ?_
  refine wr_i (va_runS (As := [.ref (a 0), .int (nI 0), .int (nI 3), .int (nI 7), .int (nI 5), .int (nI 3), .int (nI 3)]) (rest := []) FX (w_changes l hfl G a ha t9 z1 oz1 0 3 7 (by decide) (by decide) (by decide) (nI 5) (nI 3) (nI 3) (congrArg nI ch_z1_0_3_7.1) (congrArg nI ch_z1_0_3_7.2.1) (congrArg nI ch_z1_0_3_7.2.2)) (va_cwS 7 hts gL_adders_L_changes rfl rfl rfl (by decide +kernel) ⟨Nat.le_of_ble_eq_true rfl, Nat.le_of_ble_eq_true rfl⟩) (preW hK hNW hCW (hLow.at hS (fun q9 h8 h9 => absurd h8 (Nat.not_lt.mpr h9))) (hX.at hS (fun q9 h8 h9 => absurd h8 (Nat.not_lt.mpr h9))) hNC) rfl rfl hl.1 rfl (lv_room (Nat.le_of_ble_eq_true rfl)) dL_adders_346 ⟨Nat.le_of_ble_eq_true rfl, Nat.le_of_ble_eq_true rfl⟩) hS (rng_ge hA) (fun r _ H locs hp hCW hk hS => ?_)
  refine lv_as (y := nI 1) hp ?_
  refine lv_if_eq (tgt := 380) hx hb dL_adders_349 (by decide) (fun c => absurd c (by decide)) (fun _ => ?_)
  refine lv_aload_n hx hb dL_adders_352 rfl (lv_at hl 0 rfl) ?_
  refine lv_iconst (v := nI 0) hx hb dL_adders_353 (by decide) ?_
  refine lv_iconst (v := nI 1) hx hb dL_adders_354 (by decide) ?_
  refine lv_iconst (v := nI 4) hx hb dL_adders_355 (by decide) ?_
  refine lv_iconst (v := nI 0) hx hb dL_adders_356 (by decide) ?_
  refine lv_iconst (v := nI 0) hx hb dL_adders_357 (by decide) ?_
  refine lv_iconst (v := nI 0) hx hb dL_adders_358 (by decide) ?_
  refine wr_i (va_runS (As := [.ref (a 0), .int (nI 0), .int (nI 1), .int (nI 4), .int (nI 0), .int (nI 0), .int (nI 0)]) (rest := []) FX (w_changes l hfl G a ha t9 z1 oz1 0 1 4 (by decide) (by decide) (by decide) (nI 0) (nI 0) (nI 0) (congrArg nI ch_z1_0_1_4.1) (congrArg nI ch_z1_0_1_4.2.1) (congrArg nI ch_z1_0_1_4.2.2)) (va_cwS 7 hts gL_adders_L_changes rfl rfl rfl (by decide +kernel) ⟨Nat.le_of_ble_eq_true rfl, Nat.le_of_ble_eq_true rfl⟩) (preW hK hNW hCW (hLow.at hS (fun q9 h8 h9 => absurd h8 (Nat.not_lt.mpr h9))) (hX.at hS (fun q9 h8 h9 => absurd h8 (Nat.not_lt.mpr h9))) hNC) rfl rfl hl.1 rfl (lv_room (Nat.le_of_ble_eq_true rfl)) dL_adders_359 ⟨Nat.le_of_ble_eq_true rfl, Nat.le_of_ble_eq_true rfl⟩) hS (rng_ge hA) (fun r _ H locs hp hCW hk hS => ?_)
  refine lv_as (y := nI 1) hp ?_
  refine lv_if_eq (tgt := 380) hx hb dL_adders_362 (by decide) (fun c => absurd c (by decide)) (fun _ => ?_)
  refine lv_aload_n hx hb dL_adders_365 rfl (lv_at hl 0 rfl) ?_
  refine lv_iconst (v := nI 0) hx hb dL_adders_366 (by decide) ?_
  refine lv_bipush (v := nI 6) hx hb dL_adders_367 (by decide) ?_
  refine lv_bipush (v := nI 6) hx hb dL_adders_369 (by decide) ?_
  refine lv_iconst (v := nI 0) hx hb dL_adders_371 (by decide) ?_
  refine lv_iconst (v := nI 0) hx hb dL_adders_372 (by decide) ?_
  refine lv_iconst (v := nI 0) hx hb dL_adders_373 (by decide) ?_
  refine wr_i (va_runS (As := [.ref (a 0), .int (nI 0), .int (nI 6), .int (nI 6), .int (nI 0), .int (nI 0), .int (nI 0)]) (rest := []) FX (w_changes l hfl G a ha t9 z1 oz1 0 6 6 (by decide) (by decide) (by decide) (nI 0) (nI 0) (nI 0) (congrArg nI ch_z1_0_6_6.1) (congrArg nI ch_z1_0_6_6.2.1) (congrArg nI ch_z1_0_6_6.2.2)) (va_cwS 7 hts gL_adders_L_changes rfl rfl rfl (by decide +kernel) ⟨Nat.le_of_ble_eq_true rfl, Nat.le_of_ble_eq_true rfl⟩) (preW hK hNW hCW (hLow.at hS (fun q9 h8 h9 => absurd h8 (Nat.not_lt.mpr h9))) (hX.at hS (fun q9 h8 h9 => absurd h8 (Nat.not_lt.mpr h9))) hNC) rfl rfl hl.1 rfl (lv_room (Nat.le_of_ble_eq_true rfl)) dL_adders_374 ⟨Nat.le_of_ble_eq_true rfl, Nat.le_of_ble_eq_true rfl⟩) hS (rng_ge hA) (fun r _ H locs hp hCW hk hS => ?_)
  refine lv_as (y := nI 1) hp ?_
  refine lv_if_ne (tgt := 382) hx hb dL_adders_377 (by decide) (fun _ => ?_) (fun c => absurd c (by decide))
  refine lv_aload_n hx hb dL_adders_382 rfl (lv_at hl 0 rfl) ?_
  refine lv_iconst (v := nI 0) hx hb dL_adders_383 (by decide) ?_
  refine lv_iconst (v := nI 5) hx hb dL_adders_384 (by decide) ?_
  refine lv_iconst (v := nI 0) hx hb dL_adders_385 (by decide) ?_
  refine wr_i (va_runV (As := [.int (nI 0), .int (nI 5), .int (nI 0)]) (rest := []) FX (n_stick l hfl G a ha t9 z1 0 5 (nI 0) oz1 (by decide) (by decide +kernel) (by decide)) (cwV 3 hts gL_adders_X11_stick rfl rfl rfl (by decide +kernel) ⟨Nat.le_of_ble_eq_true rfl, Nat.le_of_ble_eq_true rfl⟩) (preVX hK hNW hCW (hLow.at hS (fun q9 h8 h9 => absurd h8 (Nat.not_lt.mpr h9))) (hX.at hS (fun q9 h8 h9 => absurd h8 (Nat.not_lt.mpr h9))) (cw_recv hK hCW)) rfl rfl hl.1 rfl (lv_room (Nat.le_of_ble_eq_true rfl)) dL_adders_386 ⟨Nat.le_of_ble_eq_true rfl, Nat.le_of_ble_eq_true rfl⟩) hS (rng_ge hA) (fun r _ H locs hp hCW hk hS => ?_)
  refine lv_as (y := -1) (hp.trans (by decide +kernel)) ?_
  have hCW : CW G a z2 H := hCW
  refine lv_iconst (v := -1) hx hb dL_adders_389 (by decide) ?_
  refine lv_icmp_ne (tgt := 803) hx hb dL_adders_390 (by decide) (fun c => absurd c (by decide)) (fun _ => ?_)
  refine lv_aload_n hx hb dL_adders_393 rfl (lv_at hl 0 rfl) ?_
  refine lv_iconst (v := nI 0) hx hb dL_adders_394 (by decide) ?_
  refine lv_iconst (v := nI 5) hx hb dL_adders_395 (by decide) ?_
  refine lv_iconst (v := nI 0) hx hb dL_adders_396 (by decide) ?_
  refine wr_i (va_runS (As := [.ref (a 0), .int (nI 0), .int (nI 5), .int (nI 0)]) (rest := []) FX (w_value l hfl G a ha t9 z2 oz2 0 5 (by decide) (by decide) (nI 0) vl_z2_0_5) (va_cwS 4 hts gL_adders_L_value rfl rfl rfl (by decide +kernel) ⟨Nat.le_of_ble_eq_true rfl, Nat.le_of_ble_eq_true rfl⟩) (preW hK hNW hCW (hLow.at hS (fun q9 h8 h9 => absurd h8 (Nat.not_lt.mpr h9))) (hX.at hS (fun q9 h8 h9 => absurd h8 (Nat.not_lt.mpr h9))) hNC) rfl rfl hl.1 rfl (lv_room (Nat.le_of_ble_eq_true rfl)) dL_adders_397 ⟨Nat.le_of_ble_eq_true rfl, Nat.le_of_ble_eq_true rfl⟩) hS (rng_ge hA) (fun r _ H locs hp hCW hk hS => ?_)
  refine lv_as (y := nI 1) hp ?_
  refine lv_if_eq (tgt := 803) hx hb dL_adders_400 (by decide) (fun c => absurd c (by decide)) (fun _ => ?_)
  refine lv_aload_n hx hb dL_adders_403 rfl (lv_at hl 0 rfl) ?_
  refine lv_iconst (v := nI 0) hx hb dL_adders_404 (by decide) ?_
  refine lv_iconst (v := nI 0) hx hb dL_adders_405 (by decide) ?_
  refine lv_iconst (v := nI 4) hx hb dL_adders_406 (by decide) ?_
  refine lv_iconst (v := nI 2) hx hb dL_adders_407 (by decide) ?_
  refine lv_bipush (v := nI 8) hx hb dL_adders_408 (by decide) ?_
  refine lv_iconst (v := nI 5) hx hb dL_adders_410 (by decide) ?_
  refine wr_i (va_runS (As := [.ref (a 0), .int (nI 0), .int (nI 0), .int (nI 4), .int (nI 2), .int (nI 8), .int (nI 5)]) (rest := []) FX (w_off l hfl G a ha t9 z2 oz2 0 0 (by decide) (by decide) (by decide +kernel) (nI 4) (nI 2) (nI 8) (nI 5) off_z2_0_0_0 off_z2_0_0_1 off_z2_0_0_2 off_z2_0_0_3) (va_cwS 7 hts gL_adders_L_off rfl rfl rfl (by decide +kernel) ⟨Nat.le_of_ble_eq_true rfl, Nat.le_of_ble_eq_true rfl⟩) (preW hK hNW hCW (hLow.at hS (fun q9 h8 h9 => absurd h8 (Nat.not_lt.mpr h9))) (hX.at hS (fun q9 h8 h9 => absurd h8 (Nat.not_lt.mpr h9))) hNC) rfl rfl hl.1 rfl (lv_room (Nat.le_of_ble_eq_true rfl)) dL_adders_411 ⟨Nat.le_of_ble_eq_true rfl, Nat.le_of_ble_eq_true rfl⟩) hS (rng_ge hA) (fun r _ H locs hp hCW hk hS => ?_)
  refine lv_as (y := nI 1) hp ?_
  refine lv_if_eq (tgt := 803) hx hb dL_adders_414 (by decide) (fun c => absurd c (by decide)) (fun _ => ?_)
  refine lv_aload_n hx hb dL_adders_417 rfl (lv_at hl 0 rfl) ?_
  refine lv_iconst (v := nI 0) hx hb dL_adders_418 (by decide) ?_
  refine lv_iconst (v := nI 0) hx hb dL_adders_419 (by decide) ?_
  refine lv_iconst (v := nI 2) hx hb dL_adders_420 (by decide) ?_
  refine wr_i (va_runV (As := [.int (nI 0), .int (nI 0), .int (nI 2)]) (rest := []) FX (n_unseen l hfl G a ha t9 z2 0 0 2 oz2 (by decide) (by decide) (by decide) (by decide +kernel)) (cwV 3 hts gL_adders_X11_unseen rfl rfl rfl (by decide +kernel) ⟨Nat.le_of_ble_eq_true rfl, Nat.le_of_ble_eq_true rfl⟩) (preVX hK hNW hCW (hLow.at hS (fun q9 h8 h9 => absurd h8 (Nat.not_lt.mpr h9))) (hX.at hS (fun q9 h8 h9 => absurd h8 (Nat.not_lt.mpr h9))) (cw_recv hK hCW)) rfl rfl hl.1 rfl (lv_room (Nat.le_of_ble_eq_true rfl)) dL_adders_421 ⟨Nat.le_of_ble_eq_true rfl, Nat.le_of_ble_eq_true rfl⟩) hS (rng_ge hA) (fun r _ H locs hp hCW hk hS => ?_)
  refine lv_as (y := nI 4) (hp.trans un_z2_0_0_2) ?_
  refine lv_iconst (v := nI 4) hx hb dL_adders_424 (by decide) ?_
  refine lv_icmp_ne (tgt := 803) hx hb dL_adders_425 (by decide) (fun c => absurd c (by decide)) (fun _ => ?_)
  refine lv_aload_n hx hb dL_adders_428 rfl (lv_at hl 0 rfl) ?_
  refine lv_iconst (v := nI 0) hx hb dL_adders_429 (by decide) ?_
  refine lv_iconst (v := nI 0) hx hb dL_adders_430 (by decide) ?_
  refine lv_iconst (v := nI 3) hx hb dL_adders_431 (by decide) ?_
  refine wr_i (va_runV (As := [.int (nI 0), .int (nI 0), .int (nI 3)]) (rest := []) FX (n_unseen l hfl G a ha t9 z2 0 0 3 oz2 (by decide) (by decide) (by decide) (by decide +kernel)) (cwV 3 hts gL_adders_X11_unseen rfl rfl rfl (by decide +kernel) ⟨Nat.le_of_ble_eq_true rfl, Nat.le_of_ble_eq_true rfl⟩) (preVX hK hNW hCW (hLow.at hS (fun q9 h8 h9 => absurd h8 (Nat.not_lt.mpr h9))) (hX.at hS (fun q9 h8 h9 => absurd h8 (Nat.not_lt.mpr h9))) (cw_recv hK hCW)) rfl rfl hl.1 rfl (lv_room (Nat.le_of_ble_eq_true rfl)) dL_adders_432 ⟨Nat.le_of_ble_eq_true rfl, Nat.le_of_ble_eq_true rfl⟩) hS (rng_ge hA) (fun r _ H locs hp hCW hk hS => ?_)
  refine lv_as (y := nI 0) (hp.trans un_z2_0_0_3) ?_
  refine lv_if_ne (tgt := 803) hx hb dL_adders_435 (by decide) (fun c => absurd c (by decide)) (fun _ => ?_)
  refine lv_aload_n hx hb dL_adders_438 rfl (lv_at hl 0 rfl) ?_
  refine lv_iconst (v := nI 0) hx hb dL_adders_439 (by decide) ?_
  refine lv_iconst (v := nI 0) hx hb dL_adders_440 (by decide) ?_
  refine lv_iconst (v := nI 5) hx hb dL_adders_441 (by decide) ?_
  refine lv_iconst (v := nI 0) hx hb dL_adders_442 (by decide) ?_
  refine lv_iconst (v := nI 0) hx hb dL_adders_443 (by decide) ?_
  refine lv_iconst (v := nI 0) hx hb dL_adders_444 (by decide) ?_
  refine wr_i (va_runS (As := [.ref (a 0), .int (nI 0), .int (nI 0), .int (nI 5), .int (nI 0), .int (nI 0), .int (nI 0)]) (rest := []) FX (w_changes l hfl G a ha t9 z2 oz2 0 0 5 (by decide) (by decide) (by decide) (nI 0) (nI 0) (nI 0) (congrArg nI ch_z2_0_0_5.1) (congrArg nI ch_z2_0_0_5.2.1) (congrArg nI ch_z2_0_0_5.2.2)) (va_cwS 7 hts gL_adders_L_changes rfl rfl rfl (by decide +kernel) ⟨Nat.le_of_ble_eq_true rfl, Nat.le_of_ble_eq_true rfl⟩) (preW hK hNW hCW (hLow.at hS (fun q9 h8 h9 => absurd h8 (Nat.not_lt.mpr h9))) (hX.at hS (fun q9 h8 h9 => absurd h8 (Nat.not_lt.mpr h9))) hNC) rfl rfl hl.1 rfl (lv_room (Nat.le_of_ble_eq_true rfl)) dL_adders_445 ⟨Nat.le_of_ble_eq_true rfl, Nat.le_of_ble_eq_true rfl⟩) hS (rng_ge hA) (fun r _ H locs hp hCW hk hS => ?_)
  refine lv_as (y := nI 1) hp ?_
  refine lv_if_eq (tgt := 803) hx hb dL_adders_448 (by decide) (fun c => absurd c (by decide)) (fun _ => ?_)
  refine lv_aload_n hx hb dL_adders_451 rfl (lv_at hl 0 rfl) ?_
  refine lv_iconst (v := nI 0) hx hb dL_adders_452 (by decide) ?_
  refine lv_bipush (v := nI 11) hx hb dL_adders_453 (by decide) ?_
  refine lv_iconst (v := nI 4) hx hb dL_adders_455 (by decide) ?_
  refine lv_iconst (v := nI 3) hx hb dL_adders_456 (by decide) ?_
  refine lv_bipush (v := nI 7) hx hb dL_adders_457 (by decide) ?_
  refine lv_iconst (v := nI 3) hx hb dL_adders_459 (by decide) ?_
  refine lv_iconst (v := nI 0) hx hb dL_adders_460 (by decide) ?_
  refine wr_i (va_runS (As := [.ref (a 0), .int (nI 0), .int (nI 11), .int (nI 4), .int (nI 3), .int (nI 7), .int (nI 3), .int (nI 0)]) (rest := []) FX (w_net l hfl G a ha t9 z2 oz2 0 (by decide) (nI 11) (nI 4) (nI 3) (nI 7) (nI 3) (nI 0) of_z2_0_0 of_z2_0_1 of_z2_0_2 of_z2_0_3 of_z2_0_4 of_z2_0_6) (va_cwS 8 hts gL_adders_L_net rfl rfl rfl (by decide +kernel) ⟨Nat.le_of_ble_eq_true rfl, Nat.le_of_ble_eq_true rfl⟩) (preW hK hNW hCW (hLow.at hS (fun q9 h8 h9 => absurd h8 (Nat.not_lt.mpr h9))) (hX.at hS (fun q9 h8 h9 => absurd h8 (Nat.not_lt.mpr h9))) hNC) rfl rfl hl.1 rfl (lv_room (Nat.le_of_ble_eq_true rfl)) dL_adders_461 ⟨Nat.le_of_ble_eq_true rfl, Nat.le_of_ble_eq_true rfl⟩) hS (rng_ge hA) (fun r _ H locs hp hCW hk hS => ?_)
  refine lv_as (y := nI 1) hp ?_
  refine lv_if_eq (tgt := 803) hx hb dL_adders_464 (by decide) (fun c => absurd c (by decide)) (fun _ => ?_)
  exact K _ _ _ hS hCW hl
