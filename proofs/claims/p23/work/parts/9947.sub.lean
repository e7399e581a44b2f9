/-! multipliers, glitch -/
set_option maxHeartbeats 4000000 in
set_option maxRecDepth 100000 in
theorem t_multipliers_1 {p : Program} {l : Launch} {e : Env} {s : State} {m : MethodId} {args : Array Value} {below : List Frame} {meth : Method} {c : Code} {Q : State → Prop} {G : GG} {a : Nat → Nat} {t9 : Nat} (J : LJ p l s m meth c args cL_multipliers (some .boolean) 1 wsL_multipliers G a t9) {H : Heap} {locs : List Loc} {ls : Array Slot} (hS : va_S (rng a 0 93) s.heap H locs) (hCW : CW G a z17 H) (hl : lv_has ls 1 [(0, .ref (a 0))]) (K : ∀ (H : Heap) (locs : List Loc) (ls : Array Slot), va_S (rng a 0 93) s.heap H locs → CW G a z21 H → lv_has ls 1 [(0, .ref (a 0))] → W p l e ({ frames := 9, cells := 162, slots := 972, locals := 173 } : Room) s m args below meth c H locs 91 546 Q (F0 m 168 ls [])) : W p l e ({ frames := 9, cells := 162, slots := 972, locals := 173 } : Room) s m args below meth c H locs 0 0 Q (F0 m 0 ls []) := by
  obtain ⟨hfl, hx, hb, hr, hml, hown, hts, hlocks, ha, hK, hNW, hLow, hX, hNC⟩ := J
  have FX : CallFix p m c cL_multipliers 1 s args wsL_multipliers RL := ⟨hx, hb, hml, hown, hts⟩
  refine lv_aload_n hx hb dL_multipliers_0 rfl (lv_at hl 0 rfl) ?_
  refine lv_iconst (v := nI 3) hx hb dL_multipliers_1 (by decide) ?_
  refine wr_i (va_runV (As := [.int (nI 3)]) (rest := []) FX (n_clear l hfl G a ha t9 z17 3 oz17 (by decide)) (cwV 1 hts gL_multipliers_X11_clear rfl rfl rfl (by decide +kernel) ⟨Nat.le_of_ble_eq_true rfl, Nat.le_of_ble_eq_true rfl⟩) (preVX hK hNW hCW (hLow.at hS (fun q9 _ q => rng_M q9 q)) (hX.at hS (fun q9 _ q => rng_M q9 q)) (cw_recv hK hCW)) rfl rfl hl.1 rfl (lv_room (Nat.le_of_ble_eq_true rfl)) dL_multipliers_2 ⟨Nat.le_of_ble_eq_true rfl, Nat.le_of_ble_eq_true rfl⟩) hS (fun q h => h) (fun r _ H locs hp hCW hk hS => ?_)
  refine lv_as (y := nI 50) (hp.trans (congrArg nI rp_z17_3.1)) ?_
  have hCW : CW G a z18 H := hCW
  refine lv_bipush (v := nI 50) hx hb dL_multipliers_5 (by decide) ?_
  refine lv_icmp_ne (tgt := 325) hx hb dL_multipliers_7 (by decide) (fun c => absurd c (by decide)) (fun _ => ?_)
  refine lv_aload_n hx hb dL_multipliers_10 rfl (lv_at hl 0 rfl) ?_
  refine lv_iconst (v := nI 3) hx hb dL_multipliers_11 (by decide) ?_
  refine lv_iconst (v := nI 2) hx hb dL_multipliers_12 (by decide) ?_
  refine wr_i (va_runV (As := [.int (nI 3), .int (nI 2)]) (rest := []) FX (n_multiplier l hfl G a ha t9 z18 3 2 oz18 (by decide) (by decide) (by decide +kernel)) (cwV 2 hts gL_multipliers_X11_multiplier rfl rfl rfl (by decide +kernel) ⟨Nat.le_of_ble_eq_true rfl, Nat.le_of_ble_eq_true rfl⟩) (preVX hK hNW hCW (hLow.at hS (fun q9 _ q => rng_M q9 q)) (hX.at hS (fun q9 _ q => rng_M q9 q)) (cw_recv hK hCW)) rfl rfl hl.1 rfl (lv_room (Nat.le_of_ble_eq_true rfl)) dL_multipliers_13 ⟨Nat.le_of_ble_eq_true rfl, Nat.le_of_ble_eq_true rfl⟩) hS (fun q h => h) (fun r _ H locs hp hCW hk hS => ?_)
  refine lv_as (y := nI 12) (hp.trans (congrArg nI (show nG ((muS z18 3 2).1 3) = 12 from rp_z19_3.1))) ?_
  have hCW : CW G a z19 H := hCW
  refine lv_bipush (v := nI 12) hx hb dL_multipliers_16 (by decide) ?_
  refine lv_icmp_ne (tgt := 325) hx hb dL_multipliers_18 (by decide) (fun c => absurd c (by decide)) (fun _ => ?_)
  refine lv_aload_n hx hb dL_multipliers_21 rfl (lv_at hl 0 rfl) ?_
  refine lv_iconst (v := nI 3) hx hb dL_multipliers_22 (by decide) ?_
  refine lv_bipush (v := nI 12) hx hb dL_multipliers_23 (by decide) ?_
  refine lv_iconst (v := nI 4) hx hb dL_multipliers_25 (by decide) ?_
  refine lv_iconst (v := nI 4) hx hb dL_multipliers_26 (by decide) ?_
  refine lv_bipush (v := nI 8) hx hb dL_multipliers_27 (by decide) ?_
  refine lv_iconst (v := nI 3) hx hb dL_multipliers_29 (by decide) ?_
  refine lv_iconst (v := nI 0) hx hb dL_multipliers_30 (by decide) ?_
  refine wr_i (va_runS (As := [.ref (a 0), .int (nI 3), .int (nI 12), .int (nI 4), .int (nI 4), .int (nI 8), .int (nI 3), .int (nI 0)]) (rest := []) FX (w_net l hfl G a ha t9 z19 oz19 3 (by decide) (nI 12) (nI 4) (nI 4) (nI 8) (nI 3) (nI 0) of_z19_3_0 of_z19_3_1 of_z19_3_2 of_z19_3_3 of_z19_3_4 of_z19_3_6) (va_cwS 8 hts gL_multipliers_L_net rfl rfl rfl (by decide +kernel) ⟨Nat.le_of_ble_eq_true rfl, Nat.le_of_ble_eq_true rfl⟩) (preW hK hNW hCW (hLow.at hS (fun q9 _ q => rng_M q9 q)) (hX.at hS (fun q9 _ q => rng_M q9 q)) hNC) rfl rfl hl.1 rfl (lv_room (Nat.le_of_ble_eq_true rfl)) dL_multipliers_31 ⟨Nat.le_of_ble_eq_true rfl, Nat.le_of_ble_eq_true rfl⟩) hS (fun q h => h) (fun r _ H locs hp hCW hk hS => ?_)
  refine lv_as (y := nI 1) hp ?_
  refine lv_if_eq (tgt := 325) hx hb dL_multipliers_34 (by decide) (fun c => absurd c (by decide)) (fun _ => ?_)
  refine lv_aload_n hx hb dL_multipliers_37 rfl (lv_at hl 0 rfl) ?_
  refine lv_iconst (v := nI 3) hx hb dL_multipliers_38 (by decide) ?_
  refine lv_iconst (v := nI 5) hx hb dL_multipliers_39 (by decide) ?_
  refine wr_i (va_runV (As := [.int (nI 3), .int (nI 5)]) (rest := []) FX (n_ofNet l hfl G a ha t9 z19 3 5 oz19 (by decide) (by decide)) (cwV 2 hts gL_multipliers_X11_ofNet rfl rfl rfl (by decide +kernel) ⟨Nat.le_of_ble_eq_true rfl, Nat.le_of_ble_eq_true rfl⟩) (preVX hK hNW hCW (hLow.at hS (fun q9 _ q => rng_M q9 q)) (hX.at hS (fun q9 _ q => rng_M q9 q)) (cw_recv hK hCW)) rfl rfl hl.1 rfl (lv_room (Nat.le_of_ble_eq_true rfl)) dL_multipliers_40 ⟨Nat.le_of_ble_eq_true rfl, Nat.le_of_ble_eq_true rfl⟩) hS (fun q h => h) (fun r _ H locs hp hCW hk hS => ?_)
  refine lv_as (y := nI 2) (hp.trans of_z19_3_5) ?_
  refine lv_iconst (v := nI 2) hx hb dL_multipliers_43 (by decide) ?_
  refine lv_icmp_ne (tgt := 325) hx hb dL_multipliers_44 (by decide) (fun c => absurd c (by decide)) (fun _ => ?_)
  refine lv_aload_n hx hb dL_multipliers_47 rfl (lv_at hl 0 rfl) ?_
  refine lv_iconst (v := nI 3) hx hb dL_multipliers_48 (by decide) ?_
  refine lv_bipush (v := nI 15) hx hb dL_multipliers_49 (by decide) ?_
  refine lv_bipush (v := nI 9) hx hb dL_multipliers_51 (by decide) ?_
  refine wr_i (va_runS (As := [.ref (a 0), .int (nI 3), .int (nI 15), .int (nI 9)]) (rest := []) FX (w_value l hfl G a ha t9 z19 oz19 3 15 (by decide) (by decide) (nI 9) vl_z19_3_15) (va_cwS 4 hts gL_multipliers_L_value rfl rfl rfl (by decide +kernel) ⟨Nat.le_of_ble_eq_true rfl, Nat.le_of_ble_eq_true rfl⟩) (preW hK hNW hCW (hLow.at hS (fun q9 _ q => rng_M q9 q)) (hX.at hS (fun q9 _ q => rng_M q9 q)) hNC) rfl rfl hl.1 rfl (lv_room (Nat.le_of_ble_eq_true rfl)) dL_multipliers_53 ⟨Nat.le_of_ble_eq_true rfl, Nat.le_of_ble_eq_true rfl⟩) hS (fun q h => h) (fun r _ H locs hp hCW hk hS => ?_)
  refine lv_as (y := nI 1) hp ?_
  refine lv_if_eq (tgt := 325) hx hb dL_multipliers_56 (by decide) (fun c => absurd c (by decide)) (fun _ => ?_)
  refine lv_aload_n hx hb dL_multipliers_59 rfl (lv_at hl 0 rfl) ?_
  refine lv_iconst (v := nI 3) hx hb dL_multipliers_60 (by decide) ?_
  refine lv_bipush (v := nI 6) hx hb dL_multipliers_61 (by decide) ?_
  refine lv_iconst (v := nI 2) hx hb dL_multipliers_63 (by decide) ?_
  refine wr_i (va_runS (As := [.ref (a 0), .int (nI 3), .int (nI 6), .int (nI 2)]) (rest := []) FX (w_value l hfl G a ha t9 z19 oz19 3 6 (by decide) (by decide) (nI 2) vl_z19_3_6) (va_cwS 4 hts gL_multipliers_L_value rfl rfl rfl (by decide +kernel) ⟨Nat.le_of_ble_eq_true rfl, Nat.le_of_ble_eq_true rfl⟩) (preW hK hNW hCW (hLow.at hS (fun q9 _ q => rng_M q9 q)) (hX.at hS (fun q9 _ q => rng_M q9 q)) hNC) rfl rfl hl.1 rfl (lv_room (Nat.le_of_ble_eq_true rfl)) dL_multipliers_64 ⟨Nat.le_of_ble_eq_true rfl, Nat.le_of_ble_eq_true rfl⟩) hS (fun q h => h) (fun r _ H locs hp hCW hk hS => ?_)
  refine lv_as (y := nI 1) hp ?_
  refine lv_if_eq (tgt := 325) hx hb dL_multipliers_67 (by decide) (fun c => absurd c (by decide)) (fun _ => ?_)
  refine lv_aload_n hx hb dL_multipliers_70 rfl (lv_at hl 0 rfl) ?_
  refine lv_iconst (v := nI 3) hx hb dL_multipliers_71 (by decide) ?_
  refine lv_bipush (v := nI 10) hx hb dL_multipliers_72 (by decide) ?_
  refine lv_bipush (v := nI 9) hx hb dL_multipliers_74 (by decide) ?_
  refine lv_iconst (v := nI 5) hx hb dL_multipliers_76 (by decide) ?_
  refine lv_iconst (v := nI 1) hx hb dL_multipliers_77 (by decide) ?_
  refine lv_iconst (v := -1) hx hb dL_multipliers_78 (by decide) ?_
  refine wr_i (va_runS (As := [.ref (a 0), .int (nI 3), .int (nI 10), .int (nI 9), .int (nI 5), .int (nI 1), .int (-1)]) (rest := []) FX (w_path l hfl G a ha t9 z19 oz19 3 (by decide) (nI 10) (nI 9) (nI 5) (nI 1) (-1) pa_z19_3_0 pa_z19_3_1 pa_z19_3_2 pa_z19_3_3 pa_z19_3_4) (va_cwS 7 hts gL_multipliers_L_path rfl rfl rfl (by decide +kernel) ⟨Nat.le_of_ble_eq_true rfl, Nat.le_of_ble_eq_true rfl⟩) (preW hK hNW hCW (hLow.at hS (fun q9 _ q => rng_M q9 q)) (hX.at hS (fun q9 _ q => rng_M q9 q)) hNC) rfl rfl hl.1 rfl (lv_room (Nat.le_of_ble_eq_true rfl)) dL_multipliers_79 ⟨Nat.le_of_ble_eq_true rfl, Nat.le_of_ble_eq_true rfl⟩) hS (fun q h => h) (fun r _ H locs hp hCW hk hS => ?_)
  refine lv_as (y := nI 1) hp ?_
  refine lv_if_eq (tgt := 325) hx hb dL_multipliers_82 (by decide) (fun c => absurd c (by decide)) (fun _ => ?_)
  refine lv_aload_n hx hb dL_multipliers_85 rfl (lv_at hl 0 rfl) ?_
  refine lv_iconst (v := nI 3) hx hb dL_multipliers_86 (by decide) ?_
  refine lv_bipush (v := nI 11) hx hb dL_multipliers_87 (by decide) ?_
  refine wr_i (va_runV (As := [.int (nI 3), .int (nI 11)]) (rest := []) FX (n_time l hfl G a ha t9 z19 3 11 oz19 (by decide) (by decide +kernel)) (cwV 2 hts gL_multipliers_X11_time rfl rfl rfl (by decide +kernel) ⟨Nat.le_of_ble_eq_true rfl, Nat.le_of_ble_eq_true rfl⟩) (preVX hK hNW hCW (hLow.at hS (fun q9 _ q => rng_M q9 q)) (hX.at hS (fun q9 _ q => rng_M q9 q)) (cw_recv hK hCW)) rfl rfl hl.1 rfl (lv_room (Nat.le_of_ble_eq_true rfl)) dL_multipliers_89 ⟨Nat.le_of_ble_eq_true rfl, Nat.le_of_ble_eq_true rfl⟩) hS (fun q h => h) (fun r _ H locs hp hCW hk hS => ?_)
  refine lv_as (y := nI 3) (hp.trans ti_z19_3_11) ?_
  refine lv_iconst (v := nI 3) hx hb dL_multipliers_92 (by decide) ?_
  refine lv_icmp_ne (tgt := 325) hx hb dL_multipliers_93 (by decide) (fun c => absurd c (by decide)) (fun _ => ?_)
  refine lv_aload_n hx hb dL_multipliers_96 rfl (lv_at hl 0 rfl) ?_
  refine lv_iconst (v := nI 3) hx hb dL_multipliers_97 (by decide) ?_
  refine lv_iconst (v := nI 1) hx hb dL_multipliers_98 (by decide) ?_
  refine lv_iconst (v := nI 0) hx hb dL_multipliers_99 (by decide) ?_
  refine lv_iconst (v := nI 0) hx hb dL_multipliers_100 (by decide) ?_
  refine lv_iconst (v := nI 0) hx hb dL_multipliers_101 (by decide) ?_
  refine lv_iconst (v := -1) hx hb dL_multipliers_102 (by decide) ?_
  refine wr_i (va_runS (As := [.ref (a 0), .int (nI 3), .int (nI 1), .int (nI 0), .int (nI 0), .int (nI 0), .int (-1)]) (rest := []) FX (w_off l hfl G a ha t9 z19 oz19 3 1 (by decide) (by decide) (by decide +kernel) (nI 0) (nI 0) (nI 0) (-1) off_z19_3_1_0 off_z19_3_1_1 off_z19_3_1_2 off_z19_3_1_3) (va_cwS 7 hts gL_multipliers_L_off rfl rfl rfl (by decide +kernel) ⟨Nat.le_of_ble_eq_true rfl, Nat.le_of_ble_eq_true rfl⟩) (preW hK hNW hCW (hLow.at hS (fun q9 _ q => rng_M q9 q)) (hX.at hS (fun q9 _ q => rng_M q9 q)) hNC) rfl rfl hl.1 rfl (lv_room (Nat.le_of_ble_eq_true rfl)) dL_multipliers_103 ⟨Nat.le_of_ble_eq_true rfl, Nat.le_of_ble_eq_true rfl⟩) hS (fun q h => h) (fun r _ H locs hp hCW hk hS => ?_)
  refine lv_as (y := nI 1) hp ?_
  refine lv_if_eq (tgt := 325) hx hb dL_multipliers_106 (by decide) (fun c => absurd c (by decide)) (fun _ => ?_)
  refine lv_aload_n hx hb dL_multipliers_109 rfl (lv_at hl 0 rfl) ?_
  refine lv_iconst (v := nI 3) hx hb dL_multipliers_110 (by decide) ?_
  refine lv_iconst (v := nI 0) hx hb dL_multipliers_111 (by decide) ?_
  refine lv_bipush (v := nI 14) hx hb dL_multipliers_112 (by decide) ?_
  refine lv_iconst (v := nI 3) hx hb dL_multipliers_114 (by decide) ?_
  refine lv_bipush (v := nI 22) hx hb dL_multipliers_115 (by decide) ?_
  refine lv_iconst (v := nI 1) hx hb dL_multipliers_117 (by decide) ?_
  refine wr_i (va_runS (As := [.ref (a 0), .int (nI 3), .int (nI 0), .int (nI 14), .int (nI 3), .int (nI 22), .int (nI 1)]) (rest := []) FX (w_off l hfl G a ha t9 z19 oz19 3 0 (by decide) (by decide) (by decide +kernel) (nI 14) (nI 3) (nI 22) (nI 1) off_z19_3_0_0 off_z19_3_0_1 off_z19_3_0_2 off_z19_3_0_3) (va_cwS 7 hts gL_multipliers_L_off rfl rfl rfl (by decide +kernel) ⟨Nat.le_of_ble_eq_true rfl, Nat.le_of_ble_eq_true rfl⟩) (preW hK hNW hCW (hLow.at hS (fun q9 _ q => rng_M q9 q)) (hX.at hS (fun q9 _ q => rng_M q9 q)) hNC) rfl rfl hl.1 rfl (lv_room (Nat.le_of_ble_eq_true rfl)) dL_multipliers_118 ⟨Nat.le_of_ble_eq_true rfl, Nat.le_of_ble_eq_true rfl⟩) hS (fun q h => h) (fun r _ H locs hp hCW hk hS => ?_)
  refine lv_as (y := nI 1) hp ?_
  refine lv_if_eq (tgt := 325) hx hb dL_multipliers_121 (by decide) (fun c => absurd c (by decide)) (fun _ => ?_)
  refine lv_aload_n hx hb dL_multipliers_124 rfl (lv_at hl 0 rfl) ?_
  refine lv_iconst (v := nI 0) hx hb dL_multipliers_125 (by decide) ?_
  refine lv_iconst (v := nI 3) hx hb dL_multipliers_126 (by decide) ?_
  refine wr_i (va_runV (As := [.int (nI 0), .int (nI 3)]) (rest := []) FX (n_unlike l hfl G a ha t9 z19 0 3 oz19 (by decide) (by decide) (by decide +kernel)) (cwV 2 hts gL_multipliers_X11_unlike rfl rfl rfl (by decide +kernel) ⟨Nat.le_of_ble_eq_true rfl, Nat.le_of_ble_eq_true rfl⟩) (preVX hK hNW hCW (hLow.at hS (fun q9 _ q => rng_M q9 q)) (hX.at hS (fun q9 _ q => rng_M q9 q)) (cw_recv hK hCW)) rfl rfl hl.1 rfl (lv_room (Nat.le_of_ble_eq_true rfl)) dL_multipliers_127 ⟨Nat.le_of_ble_eq_true rfl, Nat.le_of_ble_eq_true rfl⟩) hS (fun q h => h) (fun r _ H locs hp hCW hk hS => ?_)
  refine lv_as (y := nI 1) (ul_z19_0_3 hp) ?_
  refine lv_iconst (v := nI 1) hx hb dL_multipliers_130 (by decide) ?_
  refine lv_icmp_ne (tgt := 325) hx hb dL_multipliers_131 (by decide) (fun c => absurd c (by decide)) (fun _ => ?_)
  refine lv_aload_n hx hb dL_multipliers_134 rfl (lv_at hl 0 rfl) ?_
  refine lv_iconst (v := nI 3) hx hb dL_multipliers_135 (by decide) ?_
  refine wr_i (va_runV (As := [.int (nI 3)]) (rest := []) FX (n_clear l hfl G a ha t9 z19 3 oz19 (by decide)) (cwV 1 hts gL_multipliers_X11_clear rfl rfl rfl (by decide +kernel) ⟨Nat.le_of_ble_eq_true rfl, Nat.le_of_ble_eq_true rfl⟩) (preVX hK hNW hCW (hLow.at hS (fun q9 _ q => rng_M q9 q)) (hX.at hS (fun q9 _ q => rng_M q9 q)) (cw_recv hK hCW)) rfl rfl hl.1 rfl (lv_room (Nat.le_of_ble_eq_true rfl)) dL_multipliers_136 ⟨Nat.le_of_ble_eq_true rfl, Nat.le_of_ble_eq_true rfl⟩) hS (fun q h => h) (fun r _ H locs hp hCW hk hS => ?_)
  refine lv_as (y := nI 12) (hp.trans (congrArg nI rp_z19_3.1)) ?_
  have hCW : CW G a z20 H := hCW
  refine lv_bipush (v := nI 12) hx hb dL_multipliers_139 (by decide) ?_
  refine lv_icmp_ne (tgt := 325) hx hb dL_multipliers_141 (by decide) (fun c => absurd c (by decide)) (fun _ => ?_)
  refine lv_aload_n hx hb dL_multipliers_144 rfl (lv_at hl 0 rfl) ?_
  refine lv_iconst (v := nI 3) hx hb dL_multipliers_145 (by decide) ?_
  refine lv_iconst (v := nI 1) hx hb dL_multipliers_146 (by decide) ?_
  refine wr_i (va_runV (As := [.int (nI 3), .int (nI 1)]) (rest := []) FX (n_multiplier l hfl G a ha t9 z20 3 1 oz20 (by decide) (by decide) (by decide +kernel)) (cwV 2 hts gL_multipliers_X11_multiplier rfl rfl rfl (by decide +kernel) ⟨Nat.le_of_ble_eq_true rfl, Nat.le_of_ble_eq_true rfl⟩) (preVX hK hNW hCW (hLow.at hS (fun q9 _ q => rng_M q9 q)) (hX.at hS (fun q9 _ q => rng_M q9 q)) (cw_recv hK hCW)) rfl rfl hl.1 rfl (lv_room (Nat.le_of_ble_eq_true rfl)) dL_multipliers_147 ⟨Nat.le_of_ble_eq_true rfl, Nat.le_of_ble_eq_true rfl⟩) hS (fun q h => h) (fun r _ H locs hp hCW hk hS => ?_)
  refine lv_as (y := nI 3) (hp.trans (congrArg nI (show nG ((muS z20 3 1).1 3) = 3 from rp_z21_3.1))) ?_
  have hCW : CW G a z21 H := hCW
  refine lv_iconst (v := nI 3) hx hb dL_multipliers_150 (by decide) ?_
  refine lv_icmp_ne (tgt := 325) hx hb dL_multipliers_151 (by decide) (fun c => absurd c (by decide)) (fun _ => ?_)
  refine lv_aload_n hx hb dL_multipliers_154 rfl (lv_at hl 0 rfl) ?_
  refine lv_iconst (v := nI 3) hx hb dL_multipliers_155 (by decide) ?_
  refine lv_iconst (v := nI 3) hx hb dL_multipliers_156 (by decide) ?_
  refine lv_iconst (v := nI 2) hx hb dL_multipliers_157 (by decide) ?_
  refine lv_iconst (v := nI 1) hx hb dL_multipliers_158 (by decide) ?_
  refine lv_iconst (v := nI 1) hx hb dL_multipliers_159 (by decide) ?_
  refine lv_iconst (v := nI 1) hx hb dL_multipliers_160 (by decide) ?_
  refine lv_iconst (v := nI 0) hx hb dL_multipliers_161 (by decide) ?_
  refine wr_i (va_runS (As := [.ref (a 0), .int (nI 3), .int (nI 3), .int (nI 2), .int (nI 1), .int (nI 1), .int (nI 1), .int (nI 0)]) (rest := []) FX (w_net l hfl G a ha t9 z21 oz21 3 (by decide) (nI 3) (nI 2) (nI 1) (nI 1) (nI 1) (nI 0) of_z21_3_0 of_z21_3_1 of_z21_3_2 of_z21_3_3 of_z21_3_4 of_z21_3_6) (va_cwS 8 hts gL_multipliers_L_net rfl rfl rfl (by decide +kernel) ⟨Nat.le_of_ble_eq_true rfl, Nat.le_of_ble_eq_true rfl⟩) (preW hK hNW hCW (hLow.at hS (fun q9 _ q => rng_M q9 q)) (hX.at hS (fun q9 _ q => rng_M q9 q)) hNC) rfl rfl hl.1 rfl (lv_room (Nat.le_of_ble_eq_true rfl)) dL_multipliers_162 ⟨Nat.le_of_ble_eq_true rfl, Nat.le_of_ble_eq_true rfl⟩) hS (fun q h => h) (fun r _ H locs hp hCW hk hS => ?_)
  refine lv_as (y := nI 1) hp ?_
  refine lv_if_eq (tgt := 325) hx hb dL_multipliers_165 (by decide) (fun c => absurd c (by decide)) (fun _ => ?_)
  exact K _ _ _ hS hCW hl
set_option maxHeartbeats 4000000 in
set_option maxRecDepth 100000 in
theorem t_multipliers_2 {p : Program} {l : Launch} {e : Env} {s : State} {m : MethodId} {args : Array Value} {below : List Frame} {meth : Method} {c : Code} {Q : State → Prop} {G : GG} {a : Nat → Nat} {t9 : Nat} (J : LJ p l s m meth c args cL_multipliers (some .boolean) 1 wsL_multipliers G a t9) {H : Heap} {locs : List Loc} {ls : Array Slot} (hS : va_S (rng a 0 93) s.heap H locs) (hCW : CW G a z21 H) (hl : lv_has ls 1 [(0, .ref (a 0))]) (K : ∀ (H : Heap) (locs : List Loc) (ls : Array Slot), va_S (rng a 0 93) s.heap H locs → CW G a z26 H → lv_has ls 1 [(0, .ref (a 0))] → W p l e ({ frames := 9, cells := 162, slots := 972, locals := 173 } : Room) s m args below meth c H locs 162 972 Q (F0 m 326 ls [.int (nI 1)])) : W p l e ({ frames := 9, cells := 162, slots := 972, locals := 173 } : Room) s m args below meth c H locs 91 546 Q (F0 m 168 ls []) := by
  obtain ⟨hfl, hx, hb, hr, hml, hown, hts, hlocks, ha, hK, hNW, hLow, hX, hNC⟩ := J
  have FX : CallFix p m c cL_multipliers 1 s args wsL_multipliers RL := ⟨hx, hb, hml, hown, hts⟩
  refine lv_aload_n hx hb dL_multipliers_168 rfl (lv_at hl 0 rfl) ?_
  refine lv_iconst (v := nI 3) hx hb dL_multipliers_169 (by decide) ?_
  refine lv_iconst (v := nI 3) hx hb dL_multipliers_170 (by decide) ?_
  refine lv_iconst (v := nI 1) hx hb dL_multipliers_171 (by decide) ?_
  refine wr_i (va_runS (As := [.ref (a 0), .int (nI 3), .int (nI 3), .int (nI 1)]) (rest := []) FX (w_value l hfl G a ha t9 z21 oz21 3 3 (by decide) (by decide) (nI 1) vl_z21_3_3) (va_cwS 4 hts gL_multipliers_L_value rfl rfl rfl (by decide +kernel) ⟨Nat.le_of_ble_eq_true rfl, Nat.le_of_ble_eq_true rfl⟩) (preW hK hNW hCW (hLow.at hS (fun q9 _ q => rng_M q9 q)) (hX.at hS (fun q9 _ q => rng_M q9 q)) hNC) rfl rfl hl.1 rfl (lv_room (Nat.le_of_ble_eq_true rfl)) dL_multipliers_172 ⟨Nat.le_of_ble_eq_true rfl, Nat.le_of_ble_eq_true rfl⟩) hS (fun q h => h) (fun r _ H locs hp hCW hk hS => ?_)
  refine lv_as (y := nI 1) hp ?_
  refine lv_if_eq (tgt := 325) hx hb dL_multipliers_175 (by decide) (fun c => absurd c (by decide)) (fun _ => ?_)
  refine lv_aload_n hx hb dL_multipliers_178 rfl (lv_at hl 0 rfl) ?_
  refine lv_iconst (v := nI 3) hx hb dL_multipliers_179 (by decide) ?_
  refine lv_iconst (v := nI 2) hx hb dL_multipliers_180 (by decide) ?_
  refine lv_iconst (v := nI 0) hx hb dL_multipliers_181 (by decide) ?_
  refine wr_i (va_runS (As := [.ref (a 0), .int (nI 3), .int (nI 2), .int (nI 0)]) (rest := []) FX (w_value l hfl G a ha t9 z21 oz21 3 2 (by decide) (by decide) (nI 0) vl_z21_3_2) (va_cwS 4 hts gL_multipliers_L_value rfl rfl rfl (by decide +kernel) ⟨Nat.le_of_ble_eq_true rfl, Nat.le_of_ble_eq_true rfl⟩) (preW hK hNW hCW (hLow.at hS (fun q9 _ q => rng_M q9 q)) (hX.at hS (fun q9 _ q => rng_M q9 q)) hNC) rfl rfl hl.1 rfl (lv_room (Nat.le_of_ble_eq_true rfl)) dL_multipliers_182 ⟨Nat.le_of_ble_eq_true rfl, Nat.le_of_ble_eq_true rfl⟩) hS (fun q h => h) (fun r _ H locs hp hCW hk hS => ?_)
  refine lv_as (y := nI 1) hp ?_
  refine lv_if_eq (tgt := 325) hx hb dL_multipliers_185 (by decide) (fun c => absurd c (by decide)) (fun _ => ?_)
  refine lv_aload_n hx hb dL_multipliers_188 rfl (lv_at hl 0 rfl) ?_
  refine lv_iconst (v := nI 3) hx hb dL_multipliers_189 (by decide) ?_
  refine wr_i (va_runV (As := [.int (nI 3)]) (rest := []) FX (n_clear l hfl G a ha t9 z21 3 oz21 (by decide)) (cwV 1 hts gL_multipliers_X11_clear rfl rfl rfl (by decide +kernel) ⟨Nat.le_of_ble_eq_true rfl, Nat.le_of_ble_eq_true rfl⟩) (preVX hK hNW hCW (hLow.at hS (fun q9 _ q => rng_M q9 q)) (hX.at hS (fun q9 _ q => rng_M q9 q)) (cw_recv hK hCW)) rfl rfl hl.1 rfl (lv_room (Nat.le_of_ble_eq_true rfl)) dL_multipliers_190 ⟨Nat.le_of_ble_eq_true rfl, Nat.le_of_ble_eq_true rfl⟩) hS (fun q h => h) (fun r _ H locs hp hCW hk hS => ?_)
  refine lv_as (y := nI 3) (hp.trans (congrArg nI rp_z21_3.1)) ?_
  have hCW : CW G a z22 H := hCW
  refine lv_iconst (v := nI 3) hx hb dL_multipliers_193 (by decide) ?_
  refine lv_icmp_ne (tgt := 325) hx hb dL_multipliers_194 (by decide) (fun c => absurd c (by decide)) (fun _ => ?_)
  refine lv_aload_n hx hb dL_multipliers_197 rfl (lv_at hl 0 rfl) ?_
  refine lv_iconst (v := nI 3) hx hb dL_multipliers_198 (by decide) ?_
  refine lv_iconst (v := nI 3) hx hb dL_multipliers_199 (by decide) ?_
  refine wr_i (va_runV (As := [.int (nI 3), .int (nI 3)]) (rest := []) FX (n_multiplier l hfl G a ha t9 z22 3 3 oz22 (by decide) (by decide) (by decide +kernel)) (cwV 2 hts gL_multipliers_X11_multiplier rfl rfl rfl (by decide +kernel) ⟨Nat.le_of_ble_eq_true rfl, Nat.le_of_ble_eq_true rfl⟩) (preVX hK hNW hCW (hLow.at hS (fun q9 _ q => rng_M q9 q)) (hX.at hS (fun q9 _ q => rng_M q9 q)) (cw_recv hK hCW)) rfl rfl hl.1 rfl (lv_room (Nat.le_of_ble_eq_true rfl)) dL_multipliers_200 ⟨Nat.le_of_ble_eq_true rfl, Nat.le_of_ble_eq_true rfl⟩) hS (fun q h => h) (fun r _ H locs hp hCW hk hS => ?_)
  refine lv_as (y := nI 36) (hp.trans (congrArg nI (show nG ((muS z22 3 3).1 3) = 36 from rp_z23_3.1))) ?_
  have hCW : CW G a z23 H := hCW
  refine lv_bipush (v := nI 36) hx hb dL_multipliers_203 (by decide) ?_
  refine lv_icmp_ne (tgt := 325) hx hb dL_multipliers_205 (by decide) (fun c => absurd c (by decide)) (fun _ => ?_)
  refine lv_aload_n hx hb dL_multipliers_208 rfl (lv_at hl 0 rfl) ?_
  refine lv_iconst (v := nI 3) hx hb dL_multipliers_209 (by decide) ?_
  refine lv_bipush (v := nI 36) hx hb dL_multipliers_210 (by decide) ?_
  refine lv_bipush (v := nI 6) hx hb dL_multipliers_212 (by decide) ?_
  refine lv_bipush (v := nI 6) hx hb dL_multipliers_214 (by decide) ?_
  refine lv_bipush (v := nI 30) hx hb dL_multipliers_216 (by decide) ?_
  refine lv_bipush (v := nI 10) hx hb dL_multipliers_218 (by decide) ?_
  refine lv_iconst (v := nI 0) hx hb dL_multipliers_220 (by decide) ?_
  refine wr_i (va_runS (As := [.ref (a 0), .int (nI 3), .int (nI 36), .int (nI 6), .int (nI 6), .int (nI 30), .int (nI 10), .int (nI 0)]) (rest := []) FX (w_net l hfl G a ha t9 z23 oz23 3 (by decide) (nI 36) (nI 6) (nI 6) (nI 30) (nI 10) (nI 0) of_z23_3_0 of_z23_3_1 of_z23_3_2 of_z23_3_3 of_z23_3_4 of_z23_3_6) (va_cwS 8 hts gL_multipliers_L_net rfl rfl rfl (by decide +kernel) ⟨Nat.le_of_ble_eq_true rfl, Nat.le_of_ble_eq_true rfl⟩) (preW hK hNW hCW (hLow.at hS (fun q9 _ q => rng_M q9 q)) (hX.at hS (fun q9 _ q => rng_M q9 q)) hNC) rfl rfl hl.1 rfl (lv_room (Nat.le_of_ble_eq_true rfl)) dL_multipliers_221 ⟨Nat.le_of_ble_eq_true rfl, Nat.le_of_ble_eq_true rfl⟩) hS (fun q h => h) (fun r _ H locs hp hCW hk hS => ?_)
  refine lv_as (y := nI 1) hp ?_
  refine lv_if_eq (tgt := 325) hx hb dL_multipliers_224 (by decide) (fun c => absurd c (by decide)) (fun _ => ?_)
  refine lv_aload_n hx hb dL_multipliers_227 rfl (lv_at hl 0 rfl) ?_
  refine lv_iconst (v := nI 3) hx hb dL_multipliers_228 (by decide) ?_
  refine lv_iconst (v := nI 1) hx hb dL_multipliers_229 (by decide) ?_
  refine lv_iconst (v := nI 0) hx hb dL_multipliers_230 (by decide) ?_
  refine lv_iconst (v := nI 0) hx hb dL_multipliers_231 (by decide) ?_
  refine lv_iconst (v := nI 0) hx hb dL_multipliers_232 (by decide) ?_
  refine lv_iconst (v := -1) hx hb dL_multipliers_233 (by decide) ?_
  refine wr_i (va_runS (As := [.ref (a 0), .int (nI 3), .int (nI 1), .int (nI 0), .int (nI 0), .int (nI 0), .int (-1)]) (rest := []) FX (w_off l hfl G a ha t9 z23 oz23 3 1 (by decide) (by decide) (by decide +kernel) (nI 0) (nI 0) (nI 0) (-1) off_z23_3_1_0 off_z23_3_1_1 off_z23_3_1_2 off_z23_3_1_3) (va_cwS 7 hts gL_multipliers_L_off rfl rfl rfl (by decide +kernel) ⟨Nat.le_of_ble_eq_true rfl, Nat.le_of_ble_eq_true rfl⟩) (preW hK hNW hCW (hLow.at hS (fun q9 _ q => rng_M q9 q)) (hX.at hS (fun q9 _ q => rng_M q9 q)) hNC) rfl rfl hl.1 rfl (lv_room (Nat.le_of_ble_eq_true rfl)) dL_multipliers_234 ⟨Nat.le_of_ble_eq_true rfl, Nat.le_of_ble_eq_true rfl⟩) hS (fun q h => h) (fun r _ H locs hp hCW hk hS => ?_)
  refine lv_as (y := nI 1) hp ?_
  refine lv_if_eq (tgt := 325) hx hb dL_multipliers_237 (by decide) (fun c => absurd c (by decide)) (fun _ => ?_)
  refine lv_aload_n hx hb dL_multipliers_240 rfl (lv_at hl 0 rfl) ?_
  refine lv_iconst (v := nI 3) hx hb dL_multipliers_241 (by decide) ?_
  refine wr_i (va_runV (As := [.int (nI 3)]) (rest := []) FX (n_clear l hfl G a ha t9 z23 3 oz23 (by decide)) (cwV 1 hts gL_multipliers_X11_clear rfl rfl rfl (by decide +kernel) ⟨Nat.le_of_ble_eq_true rfl, Nat.le_of_ble_eq_true rfl⟩) (preVX hK hNW hCW (hLow.at hS (fun q9 _ q => rng_M q9 q)) (hX.at hS (fun q9 _ q => rng_M q9 q)) (cw_recv hK hCW)) rfl rfl hl.1 rfl (lv_room (Nat.le_of_ble_eq_true rfl)) dL_multipliers_242 ⟨Nat.le_of_ble_eq_true rfl, Nat.le_of_ble_eq_true rfl⟩) hS (fun q h => h) (fun r _ H locs hp hCW hk hS => ?_)
  refine lv_as (y := nI 36) (hp.trans (congrArg nI rp_z23_3.1)) ?_
  have hCW : CW G a z24 H := hCW
  refine lv_bipush (v := nI 36) hx hb dL_multipliers_245 (by decide) ?_
  refine lv_icmp_ne (tgt := 325) hx hb dL_multipliers_247 (by decide) (fun c => absurd c (by decide)) (fun _ => ?_)
  refine lv_aload_n hx hb dL_multipliers_250 rfl (lv_at hl 0 rfl) ?_
  refine lv_iconst (v := nI 3) hx hb dL_multipliers_251 (by decide) ?_
  refine lv_iconst (v := nI 4) hx hb dL_multipliers_252 (by decide) ?_
  refine wr_i (va_runV (As := [.int (nI 3), .int (nI 4)]) (rest := []) FX (n_multiplier l hfl G a ha t9 z24 3 4 oz24 (by decide) (by decide) (by decide +kernel)) (cwV 2 hts gL_multipliers_X11_multiplier rfl rfl rfl (by decide +kernel) ⟨Nat.le_of_ble_eq_true rfl, Nat.le_of_ble_eq_true rfl⟩) (preVX hK hNW hCW (hLow.at hS (fun q9 _ q => rng_M q9 q)) (hX.at hS (fun q9 _ q => rng_M q9 q)) (cw_recv hK hCW)) rfl rfl hl.1 rfl (lv_room (Nat.le_of_ble_eq_true rfl)) dL_multipliers_253 ⟨Nat.le_of_ble_eq_true rfl, Nat.le_of_ble_eq_true rfl⟩) hS (fun q h => h) (fun r _ H locs hp hCW hk hS => ?_)
  refine lv_as (y := nI 72) (hp.trans (congrArg nI (show nG ((muS z24 3 4).1 3) = 72 from rp_z25_3.1))) ?_
  have hCW : CW G a z25 H := hCW
  refine lv_bipush (v := nI 72) hx hb dL_multipliers_256 (by decide) ?_
  refine lv_icmp_ne (tgt := 325) hx hb dL_multipliers_258 (by decide) (fun c => absurd c (by decide)) (fun _ => ?_)
  refine lv_aload_n hx hb dL_multipliers_261 rfl (lv_at hl 0 rfl) ?_
  refine lv_iconst (v := nI 3) hx hb dL_multipliers_262 (by decide) ?_
  refine lv_iconst (v := nI 1) hx hb dL_multipliers_263 (by decide) ?_
  refine lv_iconst (v := nI 0) hx hb dL_multipliers_264 (by decide) ?_
  refine lv_iconst (v := nI 0) hx hb dL_multipliers_265 (by decide) ?_
  refine lv_iconst (v := nI 0) hx hb dL_multipliers_266 (by decide) ?_
  refine lv_iconst (v := -1) hx hb dL_multipliers_267 (by decide) ?_
  refine wr_i (va_runS (As := [.ref (a 0), .int (nI 3), .int (nI 1), .int (nI 0), .int (nI 0), .int (nI 0), .int (-1)]) (rest := []) FX (w_off l hfl G a ha t9 z25 oz25 3 1 (by decide) (by decide) (by decide +kernel) (nI 0) (nI 0) (nI 0) (-1) off_z25_3_1_0 off_z25_3_1_1 off_z25_3_1_2 off_z25_3_1_3) (va_cwS 7 hts gL_multipliers_L_off rfl rfl rfl (by decide +kernel) ⟨Nat.le_of_ble_eq_true rfl, Nat.le_of_ble_eq_true rfl⟩) (preW hK hNW hCW (hLow.at hS (fun q9 _ q => rng_M q9 q)) (hX.at hS (fun q9 _ q => rng_M q9 q)) hNC) rfl rfl hl.1 rfl (lv_room (Nat.le_of_ble_eq_true rfl)) dL_multipliers_268 ⟨Nat.le_of_ble_eq_true rfl, Nat.le_of_ble_eq_true rfl⟩) hS (fun q h => h) (fun r _ H locs hp hCW hk hS => ?_)
  refine lv_as (y := nI 1) hp ?_
  refine lv_if_eq (tgt := 325) hx hb dL_multipliers_271 (by decide) (fun c => absurd c (by decide)) (fun _ => ?_)
  refine lv_aload_n hx hb dL_multipliers_274 rfl (lv_at hl 0 rfl) ?_
  refine lv_iconst (v := nI 3) hx hb dL_multipliers_275 (by decide) ?_
  refine lv_sipush (v := nI 255) hx hb dL_multipliers_276 (by decide) ?_
  refine lv_sipush (v := nI 225) hx hb dL_multipliers_279 (by decide) ?_
  refine wr_i (va_runS (As := [.ref (a 0), .int (nI 3), .int (nI 255), .int (nI 225)]) (rest := []) FX (w_value l hfl G a ha t9 z25 oz25 3 255 (by decide) (by decide) (nI 225) vl_z25_3_255) (va_cwS 4 hts gL_multipliers_L_value rfl rfl rfl (by decide +kernel) ⟨Nat.le_of_ble_eq_true rfl, Nat.le_of_ble_eq_true rfl⟩) (preW hK hNW hCW (hLow.at hS (fun q9 _ q => rng_M q9 q)) (hX.at hS (fun q9 _ q => rng_M q9 q)) hNC) rfl rfl hl.1 rfl (lv_room (Nat.le_of_ble_eq_true rfl)) dL_multipliers_282 ⟨Nat.le_of_ble_eq_true rfl, Nat.le_of_ble_eq_true rfl⟩) hS (fun q h => h) (fun r _ H locs hp hCW hk hS => ?_)
  refine lv_as (y := nI 1) hp ?_
  refine lv_if_eq (tgt := 325) hx hb dL_multipliers_285 (by decide) (fun c => absurd c (by decide)) (fun _ => ?_)
  refine lv_aload_n hx hb dL_multipliers_288 rfl (lv_at hl 0 rfl) ?_
  refine lv_iconst (v := nI 3) hx hb dL_multipliers_289 (by decide) ?_
  refine lv_iconst (v := nI 2) hx hb dL_multipliers_290 (by decide) ?_
  refine wr_i (va_runV (As := [.int (nI 3), .int (nI 2)]) (rest := []) FX (n_ofNet l hfl G a ha t9 z25 3 2 oz25 (by decide) (by decide)) (cwV 2 hts gL_multipliers_X11_ofNet rfl rfl rfl (by decide +kernel) ⟨Nat.le_of_ble_eq_true rfl, Nat.le_of_ble_eq_true rfl⟩) (preVX hK hNW hCW (hLow.at hS (fun q9 _ q => rng_M q9 q)) (hX.at hS (fun q9 _ q => rng_M q9 q)) (cw_recv hK hCW)) rfl rfl hl.1 rfl (lv_room (Nat.le_of_ble_eq_true rfl)) dL_multipliers_291 ⟨Nat.le_of_ble_eq_true rfl, Nat.le_of_ble_eq_true rfl⟩) hS (fun q h => h) (fun r _ H locs hp hCW hk hS => ?_)
  refine lv_as (y := nI 8) (hp.trans of_z25_3_2) ?_
  refine lv_bipush (v := nI 8) hx hb dL_multipliers_294 (by decide) ?_
  refine lv_icmp_ne (tgt := 325) hx hb dL_multipliers_296 (by decide) (fun c => absurd c (by decide)) (fun _ => ?_)
  refine lv_aload_n hx hb dL_multipliers_299 rfl (lv_at hl 0 rfl) ?_
  refine lv_iconst (v := nI 3) hx hb dL_multipliers_300 (by decide) ?_
  refine lv_iconst (v := nI 0) hx hb dL_multipliers_301 (by decide) ?_
  refine lv_bipush (v := nI 99) hx hb dL_multipliers_302 (by decide) ?_
  refine wr_i (va_runV (As := [.int (nI 3), .int (nI 0), .int (nI 99)]) (rest := []) FX (n_unseen l hfl G a ha t9 z25 3 0 99 oz25 (by decide) (by decide) (by decide) (by decide +kernel)) (cwV 3 hts gL_multipliers_X11_unseen rfl rfl rfl (by decide +kernel) ⟨Nat.le_of_ble_eq_true rfl, Nat.le_of_ble_eq_true rfl⟩) (preVX hK hNW hCW (hLow.at hS (fun q9 _ q => rng_M q9 q)) (hX.at hS (fun q9 _ q => rng_M q9 q)) (cw_recv hK hCW)) rfl rfl hl.1 rfl (lv_room (Nat.le_of_ble_eq_true rfl)) dL_multipliers_304 ⟨Nat.le_of_ble_eq_true rfl, Nat.le_of_ble_eq_true rfl⟩) hS (fun q h => h) (fun r _ H locs hp hCW hk hS => ?_)
  refine lv_as (y := nI 1) (hp.trans un_z25_3_0_99) ?_
  refine lv_iconst (v := nI 1) hx hb dL_multipliers_307 (by decide) ?_
  refine lv_icmp_ne (tgt := 325) hx hb dL_multipliers_308 (by decide) (fun c => absurd c (by decide)) (fun _ => ?_)
  refine lv_aload_n hx hb dL_multipliers_311 rfl (lv_at hl 0 rfl) ?_
  refine lv_iconst (v := nI 3) hx hb dL_multipliers_312 (by decide) ?_
  refine wr_i (va_runV (As := [.int (nI 3)]) (rest := []) FX (n_clear l hfl G a ha t9 z25 3 oz25 (by decide)) (cwV 1 hts gL_multipliers_X11_clear rfl rfl rfl (by decide +kernel) ⟨Nat.le_of_ble_eq_true rfl, Nat.le_of_ble_eq_true rfl⟩) (preVX hK hNW hCW (hLow.at hS (fun q9 _ q => rng_M q9 q)) (hX.at hS (fun q9 _ q => rng_M q9 q)) (cw_recv hK hCW)) rfl rfl hl.1 rfl (lv_room (Nat.le_of_ble_eq_true rfl)) dL_multipliers_313 ⟨Nat.le_of_ble_eq_true rfl, Nat.le_of_ble_eq_true rfl⟩) hS (fun q h => h) (fun r _ H locs hp hCW hk hS => ?_)
  refine lv_as (y := nI 72) (hp.trans (congrArg nI rp_z25_3.1)) ?_
  have hCW : CW G a z26 H := hCW
  refine lv_bipush (v := nI 72) hx hb dL_multipliers_316 (by decide) ?_
  refine lv_icmp_ne (tgt := 325) hx hb dL_multipliers_318 (by decide) (fun c => absurd c (by decide)) (fun _ => ?_)
  refine lv_iconst (v := nI 1) hx hb dL_multipliers_321 (by decide) ?_
  refine lv_goto (tgt := 326) hx hb dL_multipliers_322 (by decide) ?_
  exact K _ _ _ hS hCW hl
set_option maxHeartbeats 4000000 in
set_option maxRecDepth 100000 in
theorem w_multipliers (l : Launch) (hfl : l.stackTraces = false) (G : GG) (a : Nat → Nat) (ha : Inj a) (t9 : Nat) : Met l yL_multipliers wsL_multipliers ({ frames := 9, cells := 162, slots := 972, locals := 173 } : Room) (PcW G a t9 [.ref (a 0)] (fun H => CW G a z17 H)) (QI (fun (r : Int32) (_ : Unit) => r = nI 1) (fun _ H => CW G a z26 H) (rng a 0 93)) 162 972 (rng a 0 93) := by
  refine Met.ofW (cc := cL_multipliers) (maxL := 1) (ret := (some .boolean)) (by decide) rfl ?_
  intro p e s m args below meth c s₁ B hml hv
  obtain ⟨⟨⟨⟨rfl, hCW, hK, hNW⟩, hLow⟩, hX⟩, hNC⟩ := hv
  have J : LJ p l s m meth c ([.ref (a 0)] : List Value).toArray cL_multipliers (some .boolean) 1 wsL_multipliers G a t9 := ⟨hfl, B.exec, B.bytes, B.returns, hml, findClass_of_methodNamed B.named, atoms_spec (ws := wsL_multipliers) B.pre, B.notSynchronized, ha, hK, hNW, hLow, hX, hNC⟩
  have hl := lv_entry ([.ref (a 0)]) (n := 1) (Nat.le_of_ble_eq_true rfl)
  rw [lg_entry_eq]
  generalize (lg_sl ([.ref (a 0)]) ++ List.replicate (1 - (lg_sl ([.ref (a 0)])).length) Slot.unset).toArray = ls at hl ⊢
  have hl : lv_has ls 1 [(0, .ref (a 0))] := hl
  have hS : va_S (rng a 0 93) s.heap s.heap [] := va_S.rf
  exact t_multipliers_1 J hS hCW hl (fun H locs ls hS hCW hl => t_multipliers_2 J hS hCW hl (fun H locs ls hS hCW hl => en_wz () B.exec B.bytes B.returns B.notSynchronized hS nw1 rfl hCW dL_multipliers_326))
set_option maxHeartbeats 4000000 in
set_option maxRecDepth 100000 in
theorem t_glitch_1 {p : Program} {l : Launch} {e : Env} {s : State} {m : MethodId} {args : Array Value} {below : List Frame} {meth : Method} {c : Code} {Q : State → Prop} {G : GG} {a : Nat → Nat} {t9 : Nat} (J : LJ p l s m meth c args cL_glitch (some .boolean) 1 wsL_glitch G a t9) {H : Heap} {locs : List Loc} {ls : Array Slot} (hS : va_S (rng a 0 93) s.heap H locs) (hCW : CW G a z26 H) (hl : lv_has ls 1 [(0, .ref (a 0))]) (K : ∀ (H : Heap) (locs : List Loc) (ls : Array Slot), va_S (rng a 0 93) s.heap H locs → CW G a z32 H → lv_has ls 1 [(0, .ref (a 0))] → W p l e ({ frames := 10, cells := 233, slots := 1398, locals := 178 } : Room) s m args below meth c H locs 95 570 Q (F0 m 146 ls [])) : W p l e ({ frames := 10, cells := 233, slots := 1398, locals := 178 } : Room) s m args below meth c H locs 0 0 Q (F0 m 0 ls []) := by
  obtain ⟨hfl, hx, hb, hr, hml, hown, hts, hlocks, ha, hK, hNW, hLow, hX, hNC⟩ := J
  have FX : CallFix p m c cL_glitch 1 s args wsL_glitch RL := ⟨hx, hb, hml, hown, hts⟩
  refine lv_aload_n hx hb dL_glitch_0 rfl (lv_at hl 0 rfl) ?_
  refine lv_iconst (v := nI 3) hx hb dL_glitch_1 (by decide) ?_
  refine wr_i (va_runV (As := [.int (nI 3)]) (rest := []) FX (n_input l hfl G a ha t9 z26 3 oz26 (by decide) (by decide +kernel) (by decide +kernel)) (cwV 1 hts gL_glitch_X11_input rfl rfl rfl (by decide +kernel) ⟨Nat.le_of_ble_eq_true rfl, Nat.le_of_ble_eq_true rfl⟩) (preVX hK hNW hCW (hLow.at hS (fun q9 _ q => rng_M q9 q)) (hX.at hS (fun q9 _ q => rng_M q9 q)) (cw_recv hK hCW)) rfl rfl hl.1 rfl (lv_room (Nat.le_of_ble_eq_true rfl)) dL_glitch_2 ⟨Nat.le_of_ble_eq_true rfl, Nat.le_of_ble_eq_true rfl⟩) hS (fun q h => h) (fun r _ H locs hp hCW hk hS => ?_)
  refine lv_as (y := nI 0) (hp.trans (congrArg nI rp_z26_3.1)) ?_
  have hCW : CW G a z27 H := hCW
  refine lv_if_ne (tgt := 171) hx hb dL_glitch_5 (by decide) (fun c => absurd c (by decide)) (fun _ => ?_)
  refine lv_aload_n hx hb dL_glitch_8 rfl (lv_at hl 0 rfl) ?_
  refine lv_iconst (v := nI 3) hx hb dL_glitch_9 (by decide) ?_
  refine lv_iconst (v := nI 3) hx hb dL_glitch_10 (by decide) ?_
  refine lv_iconst (v := nI 0) hx hb dL_glitch_11 (by decide) ?_
  refine lv_bipush (v := -5) hx hb dL_glitch_12 (by decide) ?_
  refine wr_i (va_runV (As := [.int (nI 3), .int (nI 3), .int (nI 0), .int (-5)]) (rest := []) FX (n_gate l hfl G a ha t9 z27 3 3 0 (-5) oz27 (by decide) (by decide) (by decide +kernel) (Or.inl rfl) (by decide +kernel)) (cwV 4 hts gL_glitch_X11_gate rfl rfl rfl (by decide +kernel) ⟨Nat.le_of_ble_eq_true rfl, Nat.le_of_ble_eq_true rfl⟩) (preVX hK hNW hCW (hLow.at hS (fun q9 _ q => rng_M q9 q)) (hX.at hS (fun q9 _ q => rng_M q9 q)) (cw_recv hK hCW)) rfl rfl hl.1 rfl (lv_room (Nat.le_of_ble_eq_true rfl)) dL_glitch_14 ⟨Nat.le_of_ble_eq_true rfl, Nat.le_of_ble_eq_true rfl⟩) hS (fun q h => h) (fun r _ H locs hp hCW hk hS => ?_)
  refine lv_as (y := nI 1) (hp.trans (congrArg nI rp_z27_3.1)) ?_
  have hCW : CW G a z28 H := hCW
  refine lv_iconst (v := nI 1) hx hb dL_glitch_17 (by decide) ?_
  refine lv_icmp_ne (tgt := 171) hx hb dL_glitch_18 (by decide) (fun c => absurd c (by decide)) (fun _ => ?_)
  refine lv_aload_n hx hb dL_glitch_21 rfl (lv_at hl 0 rfl) ?_
  refine lv_iconst (v := nI 3) hx hb dL_glitch_22 (by decide) ?_
  refine lv_iconst (v := nI 0) hx hb dL_glitch_23 (by decide) ?_
  refine lv_iconst (v := nI 0) hx hb dL_glitch_24 (by decide) ?_
  refine lv_iconst (v := nI 1) hx hb dL_glitch_25 (by decide) ?_
  refine wr_i (va_runV (As := [.int (nI 3), .int (nI 0), .int (nI 0), .int (nI 1)]) (rest := []) FX (n_gate l hfl G a ha t9 z28 3 0 0 (nI 1) oz28 (by decide) (by decide) (by decide +kernel) (Or.inr ⟨by decide +kernel, by decide⟩) (by decide +kernel)) (cwV 4 hts gL_glitch_X11_gate rfl rfl rfl (by decide +kernel) ⟨Nat.le_of_ble_eq_true rfl, Nat.le_of_ble_eq_true rfl⟩) (preVX hK hNW hCW (hLow.at hS (fun q9 _ q => rng_M q9 q)) (hX.at hS (fun q9 _ q => rng_M q9 q)) (cw_recv hK hCW)) rfl rfl hl.1 rfl (lv_room (Nat.le_of_ble_eq_true rfl)) dL_glitch_26 ⟨Nat.le_of_ble_eq_true rfl, Nat.le_of_ble_eq_true rfl⟩) hS (fun q h => h) (fun r _ H locs hp hCW hk hS => ?_)
  refine lv_as (y := nI 2) (hp.trans (congrArg nI rp_z28_3.1)) ?_
  have hCW : CW G a z29 H := hCW
  refine lv_iconst (v := nI 2) hx hb dL_glitch_29 (by decide) ?_
  refine lv_icmp_ne (tgt := 171) hx hb dL_glitch_30 (by decide) (fun c => absurd c (by decide)) (fun _ => ?_)
  refine lv_aload_n hx hb dL_glitch_33 rfl (lv_at hl 0 rfl) ?_
  refine lv_iconst (v := nI 3) hx hb dL_glitch_34 (by decide) ?_
  refine lv_iconst (v := nI 2) hx hb dL_glitch_35 (by decide) ?_
  refine wr_i (va_runV (As := [.int (nI 3), .int (nI 2)]) (rest := []) FX (n_out l hfl G a ha t9 z29 3 2 oz29 (by decide) (by decide +kernel) (by decide +kernel)) (cwV 2 hts gL_glitch_X11_out rfl rfl rfl (by decide +kernel) ⟨Nat.le_of_ble_eq_true rfl, Nat.le_of_ble_eq_true rfl⟩) (preVX hK hNW hCW (hLow.at hS (fun q9 _ q => rng_M q9 q)) (hX.at hS (fun q9 _ q => rng_M q9 q)) (cw_recv hK hCW)) rfl rfl hl.1 rfl (lv_room (Nat.le_of_ble_eq_true rfl)) dL_glitch_36 ⟨Nat.le_of_ble_eq_true rfl, Nat.le_of_ble_eq_true rfl⟩) hS (fun q h => h) (fun r _ H locs hp hCW hk hS => ?_)
  refine lv_as (y := nI 0) (hp.trans (congrArg nI rp_z29_3.2.1)) ?_
  have hCW : CW G a z30 H := hCW
  refine lv_if_ne (tgt := 171) hx hb dL_glitch_39 (by decide) (fun c => absurd c (by decide)) (fun _ => ?_)
  refine lv_aload_n hx hb dL_glitch_42 rfl (lv_at hl 0 rfl) ?_
  refine lv_iconst (v := nI 3) hx hb dL_glitch_43 (by decide) ?_
  refine lv_iconst (v := nI 2) hx hb dL_glitch_44 (by decide) ?_
  refine wr_i (va_runV (As := [.int (nI 3), .int (nI 2)]) (rest := []) FX (n_out l hfl G a ha t9 z30 3 2 oz30 (by decide) (by decide +kernel) (by decide +kernel)) (cwV 2 hts gL_glitch_X11_out rfl rfl rfl (by decide +kernel) ⟨Nat.le_of_ble_eq_true rfl, Nat.le_of_ble_eq_true rfl⟩) (preVX hK hNW hCW (hLow.at hS (fun q9 _ q => rng_M q9 q)) (hX.at hS (fun q9 _ q => rng_M q9 q)) (cw_recv hK hCW)) rfl rfl hl.1 rfl (lv_room (Nat.le_of_ble_eq_true rfl)) dL_glitch_45 ⟨Nat.le_of_ble_eq_true rfl, Nat.le_of_ble_eq_true rfl⟩) hS (fun q h => h) (fun r _ H locs hp hCW hk hS => ?_)
  refine lv_as (y := nI 1) (hp.trans (congrArg nI rp_z30_3.2.1)) ?_
  have hCW : CW G a z31 H := hCW
  refine lv_iconst (v := nI 1) hx hb dL_glitch_48 (by decide) ?_
  refine lv_icmp_ne (tgt := 171) hx hb dL_glitch_49 (by decide) (fun c => absurd c (by decide)) (fun _ => ?_)
  refine lv_aload_n hx hb dL_glitch_52 rfl (lv_at hl 0 rfl) ?_
  refine lv_iconst (v := nI 3) hx hb dL_glitch_53 (by decide) ?_
  refine lv_iconst (v := nI 0) hx hb dL_glitch_54 (by decide) ?_
  refine wr_i (va_runV (As := [.int (nI 3), .int (nI 0)]) (rest := []) FX (n_out l hfl G a ha t9 z31 3 0 oz31 (by decide) (by decide +kernel) (by decide +kernel)) (cwV 2 hts gL_glitch_X11_out rfl rfl rfl (by decide +kernel) ⟨Nat.le_of_ble_eq_true rfl, Nat.le_of_ble_eq_true rfl⟩) (preVX hK hNW hCW (hLow.at hS (fun q9 _ q => rng_M q9 q)) (hX.at hS (fun q9 _ q => rng_M q9 q)) (cw_recv hK hCW)) rfl rfl hl.1 rfl (lv_room (Nat.le_of_ble_eq_true rfl)) dL_glitch_55 ⟨Nat.le_of_ble_eq_true rfl, Nat.le_of_ble_eq_true rfl⟩) hS (fun q h => h) (fun r _ H locs hp hCW hk hS => ?_)
  refine lv_as (y := nI 2) (hp.trans (congrArg nI rp_z31_3.2.1)) ?_
  have hCW : CW G a z32 H := hCW
  refine lv_iconst (v := nI 2) hx hb dL_glitch_58 (by decide) ?_
  refine lv_icmp_ne (tgt := 171) hx hb dL_glitch_59 (by decide) (fun c => absurd c (by decide)) (fun _ => ?_)
  refine lv_aload_n hx hb dL_glitch_62 rfl (lv_at hl 0 rfl) ?_
  refine lv_iconst (v := nI 3) hx hb dL_glitch_63 (by decide) ?_
  refine lv_iconst (v := nI 5) hx hb dL_glitch_64 (by decide) ?_
  refine wr_i (va_runV (As := [.int (nI 3), .int (nI 5)]) (rest := []) FX (n_ofNet l hfl G a ha t9 z32 3 5 oz32 (by decide) (by decide)) (cwV 2 hts gL_glitch_X11_ofNet rfl rfl rfl (by decide +kernel) ⟨Nat.le_of_ble_eq_true rfl, Nat.le_of_ble_eq_true rfl⟩) (preVX hK hNW hCW (hLow.at hS (fun q9 _ q => rng_M q9 q)) (hX.at hS (fun q9 _ q => rng_M q9 q)) (cw_recv hK hCW)) rfl rfl hl.1 rfl (lv_room (Nat.le_of_ble_eq_true rfl)) dL_glitch_65 ⟨Nat.le_of_ble_eq_true rfl, Nat.le_of_ble_eq_true rfl⟩) hS (fun q h => h) (fun r _ H locs hp hCW hk hS => ?_)
  refine lv_as (y := nI 3) (hp.trans of_z32_3_5) ?_
  refine lv_iconst (v := nI 3) hx hb dL_glitch_68 (by decide) ?_
  refine lv_icmp_ne (tgt := 171) hx hb dL_glitch_69 (by decide) (fun c => absurd c (by decide)) (fun _ => ?_)
  refine lv_aload_n hx hb dL_glitch_72 rfl (lv_at hl 0 rfl) ?_
  refine lv_iconst (v := nI 3) hx hb dL_glitch_73 (by decide) ?_
  refine lv_iconst (v := nI 1) hx hb dL_glitch_74 (by decide) ?_
  refine lv_iconst (v := nI 4) hx hb dL_glitch_75 (by decide) ?_
  refine wr_i (va_runS (As := [.ref (a 0), .int (nI 3), .int (nI 1), .int (nI 4)]) (rest := []) FX (w_value l hfl G a ha t9 z32 oz32 3 1 (by decide) (by decide) (nI 4) vl_z32_3_1) (va_cwS 4 hts gL_glitch_L_value rfl rfl rfl (by decide +kernel) ⟨Nat.le_of_ble_eq_true rfl, Nat.le_of_ble_eq_true rfl⟩) (preW hK hNW hCW (hLow.at hS (fun q9 _ q => rng_M q9 q)) (hX.at hS (fun q9 _ q => rng_M q9 q)) hNC) rfl rfl hl.1 rfl (lv_room (Nat.le_of_ble_eq_true rfl)) dL_glitch_76 ⟨Nat.le_of_ble_eq_true rfl, Nat.le_of_ble_eq_true rfl⟩) hS (fun q h => h) (fun r _ H locs hp hCW hk hS => ?_)
  refine lv_as (y := nI 1) hp ?_
  refine lv_if_eq (tgt := 171) hx hb dL_glitch_79 (by decide) (fun c => absurd c (by decide)) (fun _ => ?_)
  refine lv_aload_n hx hb dL_glitch_82 rfl (lv_at hl 0 rfl) ?_
  refine lv_iconst (v := nI 3) hx hb dL_glitch_83 (by decide) ?_
  refine lv_iconst (v := nI 0) hx hb dL_glitch_84 (by decide) ?_
  refine lv_iconst (v := nI 0) hx hb dL_glitch_85 (by decide) ?_
  refine wr_i (va_runS (As := [.ref (a 0), .int (nI 3), .int (nI 0), .int (nI 0)]) (rest := []) FX (w_value l hfl G a ha t9 z32 oz32 3 0 (by decide) (by decide) (nI 0) vl_z32_3_0) (va_cwS 4 hts gL_glitch_L_value rfl rfl rfl (by decide +kernel) ⟨Nat.le_of_ble_eq_true rfl, Nat.le_of_ble_eq_true rfl⟩) (preW hK hNW hCW (hLow.at hS (fun q9 _ q => rng_M q9 q)) (hX.at hS (fun q9 _ q => rng_M q9 q)) hNC) rfl rfl hl.1 rfl (lv_room (Nat.le_of_ble_eq_true rfl)) dL_glitch_86 ⟨Nat.le_of_ble_eq_true rfl, Nat.le_of_ble_eq_true rfl⟩) hS (fun q h => h) (fun r _ H locs hp hCW hk hS => ?_)
  refine lv_as (y := nI 1) hp ?_
  refine lv_if_eq (tgt := 171) hx hb dL_glitch_89 (by decide) (fun c => absurd c (by decide)) (fun _ => ?_)
  refine lv_aload_n hx hb dL_glitch_92 rfl (lv_at hl 0 rfl) ?_
  refine lv_iconst (v := nI 3) hx hb dL_glitch_93 (by decide) ?_
  refine lv_iconst (v := nI 0) hx hb dL_glitch_94 (by decide) ?_
  refine lv_iconst (v := nI 1) hx hb dL_glitch_95 (by decide) ?_
  refine lv_iconst (v := nI 3) hx hb dL_glitch_96 (by decide) ?_
  refine lv_iconst (v := nI 2) hx hb dL_glitch_97 (by decide) ?_
  refine lv_iconst (v := nI 2) hx hb dL_glitch_98 (by decide) ?_
  refine wr_i (va_runS (As := [.ref (a 0), .int (nI 3), .int (nI 0), .int (nI 1), .int (nI 3), .int (nI 2), .int (nI 2)]) (rest := []) FX (w_changes l hfl G a ha t9 z32 oz32 3 0 1 (by decide) (by decide) (by decide) (nI 3) (nI 2) (nI 2) (congrArg nI ch_z32_3_0_1.1) (congrArg nI ch_z32_3_0_1.2.1) (congrArg nI ch_z32_3_0_1.2.2)) (va_cwS 7 hts gL_glitch_L_changes rfl rfl rfl (by decide +kernel) ⟨Nat.le_of_ble_eq_true rfl, Nat.le_of_ble_eq_true rfl⟩) (preW hK hNW hCW (hLow.at hS (fun q9 _ q => rng_M q9 q)) (hX.at hS (fun q9 _ q => rng_M q9 q)) hNC) rfl rfl hl.1 rfl (lv_room (Nat.le_of_ble_eq_true rfl)) dL_glitch_99 ⟨Nat.le_of_ble_eq_true rfl, Nat.le_of_ble_eq_true rfl⟩) hS (fun q h => h) (fun r _ H locs hp hCW hk hS => ?_)
  refine lv_as (y := nI 1) hp ?_
  refine lv_if_eq (tgt := 171) hx hb dL_glitch_102 (by decide) (fun c => absurd c (by decide)) (fun _ => ?_)
  refine lv_aload_n hx hb dL_glitch_105 rfl (lv_at hl 0 rfl) ?_
  refine lv_iconst (v := nI 3) hx hb dL_glitch_106 (by decide) ?_
  refine lv_iconst (v := nI 1) hx hb dL_glitch_107 (by decide) ?_
  refine lv_iconst (v := nI 0) hx hb dL_glitch_108 (by decide) ?_
  refine lv_iconst (v := nI 1) hx hb dL_glitch_109 (by decide) ?_
  refine lv_iconst (v := nI 1) hx hb dL_glitch_110 (by decide) ?_
  refine lv_iconst (v := nI 0) hx hb dL_glitch_111 (by decide) ?_
  refine wr_i (va_runS (As := [.ref (a 0), .int (nI 3), .int (nI 1), .int (nI 0), .int (nI 1), .int (nI 1), .int (nI 0)]) (rest := []) FX (w_changes l hfl G a ha t9 z32 oz32 3 1 0 (by decide) (by decide) (by decide) (nI 1) (nI 1) (nI 0) (congrArg nI ch_z32_3_1_0.1) (congrArg nI ch_z32_3_1_0.2.1) (congrArg nI ch_z32_3_1_0.2.2)) (va_cwS 7 hts gL_glitch_L_changes rfl rfl rfl (by decide +kernel) ⟨Nat.le_of_ble_eq_true rfl, Nat.le_of_ble_eq_true rfl⟩) (preW hK hNW hCW (hLow.at hS (fun q9 _ q => rng_M q9 q)) (hX.at hS (fun q9 _ q => rng_M q9 q)) hNC) rfl rfl hl.1 rfl (lv_room (Nat.le_of_ble_eq_true rfl)) dL_glitch_112 ⟨Nat.le_of_ble_eq_true rfl, Nat.le_of_ble_eq_true rfl⟩) hS (fun q h => h) (fun r _ H locs hp hCW hk hS => ?_)
  refine lv_as (y := nI 1) hp ?_
  refine lv_if_eq (tgt := 171) hx hb dL_glitch_115 (by decide) (fun c => absurd c (by decide)) (fun _ => ?_)
  refine lv_aload_n hx hb dL_glitch_118 rfl (lv_at hl 0 rfl) ?_
  refine lv_iconst (v := nI 3) hx hb dL_glitch_119 (by decide) ?_
  refine lv_iconst (v := nI 2) hx hb dL_glitch_120 (by decide) ?_
  refine lv_iconst (v := nI 1) hx hb dL_glitch_121 (by decide) ?_
  refine lv_iconst (v := nI 0) hx hb dL_glitch_122 (by decide) ?_
  refine lv_iconst (v := -1) hx hb dL_glitch_123 (by decide) ?_
  refine lv_iconst (v := -1) hx hb dL_glitch_124 (by decide) ?_
  refine wr_i (va_runS (As := [.ref (a 0), .int (nI 3), .int (nI 2), .int (nI 1), .int (nI 0), .int (-1), .int (-1)]) (rest := []) FX (w_path l hfl G a ha t9 z32 oz32 3 (by decide) (nI 2) (nI 1) (nI 0) (-1) (-1) pa_z32_3_0 pa_z32_3_1 pa_z32_3_2 pa_z32_3_3 pa_z32_3_4) (va_cwS 7 hts gL_glitch_L_path rfl rfl rfl (by decide +kernel) ⟨Nat.le_of_ble_eq_true rfl, Nat.le_of_ble_eq_true rfl⟩) (preW hK hNW hCW (hLow.at hS (fun q9 _ q => rng_M q9 q)) (hX.at hS (fun q9 _ q => rng_M q9 q)) hNC) rfl rfl hl.1 rfl (lv_room (Nat.le_of_ble_eq_true rfl)) dL_glitch_125 ⟨Nat.le_of_ble_eq_true rfl, Nat.le_of_ble_eq_true rfl⟩) hS (fun q h => h) (fun r _ H locs hp hCW hk hS => ?_)
  refine lv_as (y := nI 1) hp ?_
  refine lv_if_eq (tgt := 171) hx hb dL_glitch_128 (by decide) (fun c => absurd c (by decide)) (fun _ => ?_)
  refine lv_aload_n hx hb dL_glitch_131 rfl (lv_at hl 0 rfl) ?_
  refine lv_bipush (v := nI 16) hx hb dL_glitch_132 (by decide) ?_
  refine lv_iconst (v := nI 3) hx hb dL_glitch_134 (by decide) ?_
  refine lv_iconst (v := nI 0) hx hb dL_glitch_135 (by decide) ?_
  refine lv_iconst (v := nI 0) hx hb dL_glitch_136 (by decide) ?_
  refine lv_iconst (v := nI 0) hx hb dL_glitch_137 (by decide) ?_
  refine wr_i (vx_run0 (vx_runSX (As := [.ref (a 0), .int (nI 16), .int (nI 3), .int (nI 0), .int (nI 0), .int (nI 0)]) (rest := []) FX (w_act_off l hfl G a ha t9 z32 (nI 3) (nI 0) (nI 0) (nI 0) oz32) (vx_cwSW 6 hts gL_glitch_L_act rfl rfl rfl (by decide +kernel) ⟨Nat.le_of_ble_eq_true rfl, Nat.le_of_ble_eq_true rfl⟩) (preW hK hNW hCW (hLow.at hS (fun q9 _ q => rng_M q9 q)) (hX.at hS (fun q9 _ q => rng_M q9 q)) hNC) rfl rfl hl.1 rfl (lv_room (Nat.le_of_ble_eq_true rfl)) dL_glitch_138 ⟨Nat.le_of_ble_eq_true rfl, Nat.le_of_ble_eq_true rfl⟩)) hS (fun q h => h) (fun r _ H locs hp hCW hk hS => ?_)
  refine lv_as (y := -7000003) (hp.2.2.2 (by decide +kernel)) ?_
  refine lv_ldc (v := -7000003) hx hb hown (hts (.constant RL 81 (-7000003)) (List.mem_of_getElem? (i := 1) (by decide +kernel))) dL_glitch_141 ?_
  refine lv_icmp_ne (tgt := 171) hx hb dL_glitch_143 (by decide) (fun c => absurd c (by decide)) (fun _ => ?_)
  exact K _ _ _ hS hCW hl
set_option maxHeartbeats 4000000 in
set_option maxRecDepth 100000 in
theorem t_glitch_2 {p : Program} {l : Launch} {e : Env} {s : State} {m : MethodId} {args : Array Value} {below : List Frame} {meth : Method} {c : Code} {Q : State → Prop} {G : GG} {a : Nat → Nat} {t9 : Nat} (J : LJ p l s m meth c args cL_glitch (some .boolean) 1 wsL_glitch G a t9) {H : Heap} {locs : List Loc} {ls : Array Slot} (hS : va_S (rng a 0 93) s.heap H locs) (hCW : CW G a z32 H) (hl : lv_has ls 1 [(0, .ref (a 0))]) (K : ∀ (H : Heap) (locs : List Loc) (ls : Array Slot), va_S (rng a 0 93) s.heap H locs → CW G a z36 H → lv_has ls 1 [(0, .ref (a 0))] → W p l e ({ frames := 10, cells := 233, slots := 1398, locals := 178 } : Room) s m args below meth c H locs 204 1224 Q (F0 m 294 ls [])) : W p l e ({ frames := 10, cells := 233, slots := 1398, locals := 178 } : Room) s m args below meth c H locs 95 570 Q (F0 m 146 ls []) := by
  obtain ⟨hfl, hx, hb, hr, hml, hown, hts, hlocks, ha, hK, hNW, hLow, hX, hNC⟩ := J
  have FX : CallFix p m c cL_glitch 1 s args wsL_glitch RL := ⟨hx, hb, hml, hown, hts⟩
  refine lv_aload_n hx hb dL_glitch_146 rfl (lv_at hl 0 rfl) ?_
  refine lv_bipush (v := nI 17) hx hb dL_glitch_147 (by decide) ?_
  refine lv_iconst (v := nI 3) hx hb dL_glitch_149 (by decide) ?_
  refine lv_iconst (v := nI 0) hx hb dL_glitch_150 (by decide) ?_
  refine lv_iconst (v := nI 5) hx hb dL_glitch_151 (by decide) ?_
  refine lv_iconst (v := nI 0) hx hb dL_glitch_152 (by decide) ?_
  refine wr_i (vx_run0 (vx_runSX (As := [.ref (a 0), .int (nI 17), .int (nI 3), .int (nI 0), .int (nI 5), .int (nI 0)]) (rest := []) FX (w_act_unseen l hfl G a ha t9 z32 (nI 3) (nI 0) (nI 5) (nI 0) oz32) (vx_cwSW 6 hts gL_glitch_L_act rfl rfl rfl (by decide +kernel) ⟨Nat.le_of_ble_eq_true rfl, Nat.le_of_ble_eq_true rfl⟩) (preW hK hNW hCW (hLow.at hS (fun q9 _ q => rng_M q9 q)) (hX.at hS (fun q9 _ q => rng_M q9 q)) hNC) rfl rfl hl.1 rfl (lv_room (Nat.le_of_ble_eq_true rfl)) dL_glitch_153 ⟨Nat.le_of_ble_eq_true rfl, Nat.le_of_ble_eq_true rfl⟩)) hS (fun q h => h) (fun r _ H locs hp hCW hk hS => ?_)
  refine lv_as (y := -7000003) (hp.2.2.2 (by decide +kernel)) ?_
  refine lv_ldc (v := -7000003) hx hb hown (hts (.constant RL 81 (-7000003)) (List.mem_of_getElem? (i := 1) (by decide +kernel))) dL_glitch_156 ?_
  refine lv_icmp_ne (tgt := 171) hx hb dL_glitch_158 (by decide) (fun c => absurd c (by decide)) (fun _ => ?_)
  refine lv_aload_n hx hb dL_glitch_161 rfl (lv_at hl 0 rfl) ?_
  refine lv_iconst (v := nI 3) hx hb dL_glitch_162 (by decide) ?_
  refine lv_iconst (v := nI 3) hx hb dL_glitch_163 (by decide) ?_
  refine wr_i (va_runV (As := [.int (nI 3), .int (nI 3)]) (rest := []) FX (n_unlike l hfl G a ha t9 z32 3 3 oz32 (by decide) (by decide) (by decide +kernel)) (cwV 2 hts gL_glitch_X11_unlike rfl rfl rfl (by decide +kernel) ⟨Nat.le_of_ble_eq_true rfl, Nat.le_of_ble_eq_true rfl⟩) (preVX hK hNW hCW (hLow.at hS (fun q9 _ q => rng_M q9 q)) (hX.at hS (fun q9 _ q => rng_M q9 q)) (cw_recv hK hCW)) rfl rfl hl.1 rfl (lv_room (Nat.le_of_ble_eq_true rfl)) dL_glitch_164 ⟨Nat.le_of_ble_eq_true rfl, Nat.le_of_ble_eq_true rfl⟩) hS (fun q h => h) (fun r _ H locs hp hCW hk hS => ?_)
  refine lv_as (y := -1) (ul_z32_3_3 hp) ?_
  refine lv_iconst (v := -1) hx hb dL_glitch_167 (by decide) ?_
  refine lv_icmp_eq (tgt := 173) hx hb dL_glitch_168 (by decide) (fun _ => ?_) (fun c => absurd c (by decide))
  refine lv_aload_n hx hb dL_glitch_173 rfl (lv_at hl 0 rfl) ?_
  refine lv_iconst (v := nI 0) hx hb dL_glitch_174 (by decide) ?_
  refine lv_iconst (v := nI 3) hx hb dL_glitch_175 (by decide) ?_
  refine lv_iconst (v := nI 5) hx hb dL_glitch_176 (by decide) ?_
  refine wr_i (va_runV (As := [.int (nI 0), .int (nI 3), .int (nI 5)]) (rest := []) FX (n_cost l hfl G a ha t9 z32 0 3 5 oz32 (by decide) (by decide) (by decide)) (cwV 3 hts gL_glitch_X11_cost rfl rfl rfl (by decide +kernel) ⟨Nat.le_of_ble_eq_true rfl, Nat.le_of_ble_eq_true rfl⟩) (preVX hK hNW hCW (hLow.at hS (fun q9 _ q => rng_M q9 q)) (hX.at hS (fun q9 _ q => rng_M q9 q)) (cw_recv hK hCW)) rfl rfl hl.1 rfl (lv_room (Nat.le_of_ble_eq_true rfl)) dL_glitch_177 ⟨Nat.le_of_ble_eq_true rfl, Nat.le_of_ble_eq_true rfl⟩) hS (fun q h => h) (fun r _ H locs hp hCW hk hS => ?_)
  refine lv_as (y := nI 1) (hp.trans (by decide +kernel)) ?_
  have hCW : CW G a z33 H := hCW
  refine lv_iconst (v := nI 1) hx hb dL_glitch_180 (by decide) ?_
  refine lv_icmp_ne (tgt := 406) hx hb dL_glitch_181 (by decide) (fun c => absurd c (by decide)) (fun _ => ?_)
  refine lv_aload_n hx hb dL_glitch_184 rfl (lv_at hl 0 rfl) ?_
  refine lv_iconst (v := nI 3) hx hb dL_glitch_185 (by decide) ?_
  refine lv_iconst (v := nI 3) hx hb dL_glitch_186 (by decide) ?_
  refine lv_iconst (v := nI 1) hx hb dL_glitch_187 (by decide) ?_
  refine lv_iconst (v := nI 3) hx hb dL_glitch_188 (by decide) ?_
  refine lv_bipush (v := nI 6) hx hb dL_glitch_189 (by decide) ?_
  refine lv_iconst (v := nI 4) hx hb dL_glitch_191 (by decide) ?_
  refine lv_iconst (v := nI 0) hx hb dL_glitch_192 (by decide) ?_
  refine wr_i (va_runS (As := [.ref (a 0), .int (nI 3), .int (nI 3), .int (nI 1), .int (nI 3), .int (nI 6), .int (nI 4), .int (nI 0)]) (rest := []) FX (w_net l hfl G a ha t9 z33 oz33 3 (by decide) (nI 3) (nI 1) (nI 3) (nI 6) (nI 4) (nI 0) of_z33_3_0 of_z33_3_1 of_z33_3_2 of_z33_3_3 of_z33_3_4 of_z33_3_6) (va_cwS 8 hts gL_glitch_L_net rfl rfl rfl (by decide +kernel) ⟨Nat.le_of_ble_eq_true rfl, Nat.le_of_ble_eq_true rfl⟩) (preW hK hNW hCW (hLow.at hS (fun q9 _ q => rng_M q9 q)) (hX.at hS (fun q9 _ q => rng_M q9 q)) hNC) rfl rfl hl.1 rfl (lv_room (Nat.le_of_ble_eq_true rfl)) dL_glitch_193 ⟨Nat.le_of_ble_eq_true rfl, Nat.le_of_ble_eq_true rfl⟩) hS (fun q h => h) (fun r _ H locs hp hCW hk hS => ?_)
  refine lv_as (y := nI 1) hp ?_
  refine lv_if_eq (tgt := 406) hx hb dL_glitch_196 (by decide) (fun c => absurd c (by decide)) (fun _ => ?_)
  refine lv_aload_n hx hb dL_glitch_199 rfl (lv_at hl 0 rfl) ?_
  refine lv_iconst (v := nI 3) hx hb dL_glitch_200 (by decide) ?_
  refine lv_iconst (v := nI 2) hx hb dL_glitch_201 (by decide) ?_
  refine wr_i (va_runV (As := [.int (nI 3), .int (nI 2)]) (rest := []) FX (n_time l hfl G a ha t9 z33 3 2 oz33 (by decide) (by decide +kernel)) (cwV 2 hts gL_glitch_X11_time rfl rfl rfl (by decide +kernel) ⟨Nat.le_of_ble_eq_true rfl, Nat.le_of_ble_eq_true rfl⟩) (preVX hK hNW hCW (hLow.at hS (fun q9 _ q => rng_M q9 q)) (hX.at hS (fun q9 _ q => rng_M q9 q)) (cw_recv hK hCW)) rfl rfl hl.1 rfl (lv_room (Nat.le_of_ble_eq_true rfl)) dL_glitch_202 ⟨Nat.le_of_ble_eq_true rfl, Nat.le_of_ble_eq_true rfl⟩) hS (fun q h => h) (fun r _ H locs hp hCW hk hS => ?_)
  refine lv_as (y := nI 4) (hp.trans ti_z33_3_2) ?_
  refine lv_iconst (v := nI 4) hx hb dL_glitch_205 (by decide) ?_
  refine lv_icmp_ne (tgt := 406) hx hb dL_glitch_206 (by decide) (fun c => absurd c (by decide)) (fun _ => ?_)
  refine lv_aload_n hx hb dL_glitch_209 rfl (lv_at hl 0 rfl) ?_
  refine lv_iconst (v := nI 3) hx hb dL_glitch_210 (by decide) ?_
  refine lv_iconst (v := nI 0) hx hb dL_glitch_211 (by decide) ?_
  refine lv_iconst (v := nI 1) hx hb dL_glitch_212 (by decide) ?_
  refine lv_iconst (v := nI 3) hx hb dL_glitch_213 (by decide) ?_
  refine lv_iconst (v := nI 4) hx hb dL_glitch_214 (by decide) ?_
  refine lv_iconst (v := nI 2) hx hb dL_glitch_215 (by decide) ?_
  refine wr_i (va_runS (As := [.ref (a 0), .int (nI 3), .int (nI 0), .int (nI 1), .int (nI 3), .int (nI 4), .int (nI 2)]) (rest := []) FX (w_changes l hfl G a ha t9 z33 oz33 3 0 1 (by decide) (by decide) (by decide) (nI 3) (nI 4) (nI 2) (congrArg nI ch_z33_3_0_1.1) (congrArg nI ch_z33_3_0_1.2.1) (congrArg nI ch_z33_3_0_1.2.2)) (va_cwS 7 hts gL_glitch_L_changes rfl rfl rfl (by decide +kernel) ⟨Nat.le_of_ble_eq_true rfl, Nat.le_of_ble_eq_true rfl⟩) (preW hK hNW hCW (hLow.at hS (fun q9 _ q => rng_M q9 q)) (hX.at hS (fun q9 _ q => rng_M q9 q)) hNC) rfl rfl hl.1 rfl (lv_room (Nat.le_of_ble_eq_true rfl)) dL_glitch_216 ⟨Nat.le_of_ble_eq_true rfl, Nat.le_of_ble_eq_true rfl⟩) hS (fun q h => h) (fun r _ H locs hp hCW hk hS => ?_)
  refine lv_as (y := nI 1) hp ?_
  refine lv_if_eq (tgt := 406) hx hb dL_glitch_219 (by decide) (fun c => absurd c (by decide)) (fun _ => ?_)
  refine lv_aload_n hx hb dL_glitch_222 rfl (lv_at hl 0 rfl) ?_
  refine lv_iconst (v := nI 3) hx hb dL_glitch_223 (by decide) ?_
  refine lv_iconst (v := nI 1) hx hb dL_glitch_224 (by decide) ?_
  refine lv_iconst (v := nI 1) hx hb dL_glitch_225 (by decide) ?_
  refine wr_i (va_runV (As := [.int (nI 3), .int (nI 1), .int (nI 1)]) (rest := []) FX (n_stick l hfl G a ha t9 z33 3 1 (nI 1) oz33 (by decide) (by decide +kernel) (by decide)) (cwV 3 hts gL_glitch_X11_stick rfl rfl rfl (by decide +kernel) ⟨Nat.le_of_ble_eq_true rfl, Nat.le_of_ble_eq_true rfl⟩) (preVX hK hNW hCW (hLow.at hS (fun q9 _ q => rng_M q9 q)) (hX.at hS (fun q9 _ q => rng_M q9 q)) (cw_recv hK hCW)) rfl rfl hl.1 rfl (lv_room (Nat.le_of_ble_eq_true rfl)) dL_glitch_226 ⟨Nat.le_of_ble_eq_true rfl, Nat.le_of_ble_eq_true rfl⟩) hS (fun q h => h) (fun r _ H locs hp hCW hk hS => ?_)
  refine lv_as (y := -1) (hp.trans (by decide +kernel)) ?_
  have hCW : CW G a z34 H := hCW
  refine lv_iconst (v := -1) hx hb dL_glitch_229 (by decide) ?_
  refine lv_icmp_ne (tgt := 406) hx hb dL_glitch_230 (by decide) (fun c => absurd c (by decide)) (fun _ => ?_)
  refine lv_aload_n hx hb dL_glitch_233 rfl (lv_at hl 0 rfl) ?_
  refine lv_iconst (v := nI 3) hx hb dL_glitch_234 (by decide) ?_
  refine lv_iconst (v := nI 0) hx hb dL_glitch_235 (by decide) ?_
  refine lv_iconst (v := nI 1) hx hb dL_glitch_236 (by decide) ?_
  refine lv_iconst (v := nI 1) hx hb dL_glitch_237 (by decide) ?_
  refine lv_iconst (v := nI 3) hx hb dL_glitch_238 (by decide) ?_
  refine lv_iconst (v := nI 1) hx hb dL_glitch_239 (by decide) ?_
  refine wr_i (va_runS (As := [.ref (a 0), .int (nI 3), .int (nI 0), .int (nI 1), .int (nI 1), .int (nI 3), .int (nI 1)]) (rest := []) FX (w_changes l hfl G a ha t9 z34 oz34 3 0 1 (by decide) (by decide) (by decide) (nI 1) (nI 3) (nI 1) (congrArg nI ch_z34_3_0_1.1) (congrArg nI ch_z34_3_0_1.2.1) (congrArg nI ch_z34_3_0_1.2.2)) (va_cwS 7 hts gL_glitch_L_changes rfl rfl rfl (by decide +kernel) ⟨Nat.le_of_ble_eq_true rfl, Nat.le_of_ble_eq_true rfl⟩) (preW hK hNW hCW (hLow.at hS (fun q9 _ q => rng_M q9 q)) (hX.at hS (fun q9 _ q => rng_M q9 q)) hNC) rfl rfl hl.1 rfl (lv_room (Nat.le_of_ble_eq_true rfl)) dL_glitch_240 ⟨Nat.le_of_ble_eq_true rfl, Nat.le_of_ble_eq_true rfl⟩) hS (fun q h => h) (fun r _ H locs hp hCW hk hS => ?_)
  refine lv_as (y := nI 1) hp ?_
  refine lv_if_eq (tgt := 406) hx hb dL_glitch_243 (by decide) (fun c => absurd c (by decide)) (fun _ => ?_)
  refine lv_aload_n hx hb dL_glitch_246 rfl (lv_at hl 0 rfl) ?_
  refine lv_iconst (v := nI 3) hx hb dL_glitch_247 (by decide) ?_
  refine lv_iconst (v := nI 1) hx hb dL_glitch_248 (by decide) ?_
  refine lv_bipush (v := nI 7) hx hb dL_glitch_249 (by decide) ?_
  refine wr_i (va_runS (As := [.ref (a 0), .int (nI 3), .int (nI 1), .int (nI 7)]) (rest := []) FX (w_value l hfl G a ha t9 z34 oz34 3 1 (by decide) (by decide) (nI 7) vl_z34_3_1) (va_cwS 4 hts gL_glitch_L_value rfl rfl rfl (by decide +kernel) ⟨Nat.le_of_ble_eq_true rfl, Nat.le_of_ble_eq_true rfl⟩) (preW hK hNW hCW (hLow.at hS (fun q9 _ q => rng_M q9 q)) (hX.at hS (fun q9 _ q => rng_M q9 q)) hNC) rfl rfl hl.1 rfl (lv_room (Nat.le_of_ble_eq_true rfl)) dL_glitch_251 ⟨Nat.le_of_ble_eq_true rfl, Nat.le_of_ble_eq_true rfl⟩) hS (fun q h => h) (fun r _ H locs hp hCW hk hS => ?_)
  refine lv_as (y := nI 1) hp ?_
  refine lv_if_eq (tgt := 406) hx hb dL_glitch_254 (by decide) (fun c => absurd c (by decide)) (fun _ => ?_)
  refine lv_aload_n hx hb dL_glitch_257 rfl (lv_at hl 0 rfl) ?_
  refine lv_iconst (v := nI 3) hx hb dL_glitch_258 (by decide) ?_
  refine lv_iconst (v := nI 1) hx hb dL_glitch_259 (by decide) ?_
  refine lv_iconst (v := -1) hx hb dL_glitch_260 (by decide) ?_
  refine wr_i (va_runV (As := [.int (nI 3), .int (nI 1), .int (-1)]) (rest := []) FX (n_stick l hfl G a ha t9 z34 3 1 (-1) oz34 (by decide) (by decide +kernel) (by decide)) (cwV 3 hts gL_glitch_X11_stick rfl rfl rfl (by decide +kernel) ⟨Nat.le_of_ble_eq_true rfl, Nat.le_of_ble_eq_true rfl⟩) (preVX hK hNW hCW (hLow.at hS (fun q9 _ q => rng_M q9 q)) (hX.at hS (fun q9 _ q => rng_M q9 q)) (cw_recv hK hCW)) rfl rfl hl.1 rfl (lv_room (Nat.le_of_ble_eq_true rfl)) dL_glitch_261 ⟨Nat.le_of_ble_eq_true rfl, Nat.le_of_ble_eq_true rfl⟩) hS (fun q h => h) (fun r _ H locs hp hCW hk hS => ?_)
  refine lv_as (y := nI 1) (hp.trans (by decide +kernel)) ?_
  have hCW : CW G a z35 H := hCW
  refine lv_iconst (v := nI 1) hx hb dL_glitch_264 (by decide) ?_
  refine lv_icmp_ne (tgt := 406) hx hb dL_glitch_265 (by decide) (fun c => absurd c (by decide)) (fun _ => ?_)
  refine lv_aload_n hx hb dL_glitch_268 rfl (lv_at hl 0 rfl) ?_
  refine lv_iconst (v := nI 0) hx hb dL_glitch_269 (by decide) ?_
  refine lv_bipush (v := nI 9) hx hb dL_glitch_270 (by decide) ?_
  refine lv_iconst (v := nI 0) hx hb dL_glitch_272 (by decide) ?_
  refine wr_i (va_runV (As := [.int (nI 0), .int (nI 9), .int (nI 0)]) (rest := []) FX (n_cost l hfl G a ha t9 z35 0 9 0 oz35 (by decide) (by decide) (by decide)) (cwV 3 hts gL_glitch_X11_cost rfl rfl rfl (by decide +kernel) ⟨Nat.le_of_ble_eq_true rfl, Nat.le_of_ble_eq_true rfl⟩) (preVX hK hNW hCW (hLow.at hS (fun q9 _ q => rng_M q9 q)) (hX.at hS (fun q9 _ q => rng_M q9 q)) (cw_recv hK hCW)) rfl rfl hl.1 rfl (lv_room (Nat.le_of_ble_eq_true rfl)) dL_glitch_273 ⟨Nat.le_of_ble_eq_true rfl, Nat.le_of_ble_eq_true rfl⟩) hS (fun q h => h) (fun r _ H locs hp hCW hk hS => ?_)
  refine lv_as (y := nI 3) (hp.trans (by decide +kernel)) ?_
  have hCW : CW G a z36 H := hCW
  refine lv_iconst (v := nI 3) hx hb dL_glitch_276 (by decide) ?_
  refine lv_icmp_ne (tgt := 406) hx hb dL_glitch_277 (by decide) (fun c => absurd c (by decide)) (fun _ => ?_)
  refine lv_aload_n hx hb dL_glitch_280 rfl (lv_at hl 0 rfl) ?_
  refine lv_iconst (v := nI 3) hx hb dL_glitch_281 (by decide) ?_
  refine lv_iconst (v := nI 0) hx hb dL_glitch_282 (by decide) ?_
  refine lv_iconst (v := nI 1) hx hb dL_glitch_283 (by decide) ?_
  refine lv_iconst (v := nI 3) hx hb dL_glitch_284 (by decide) ?_
  refine lv_bipush (v := nI 10) hx hb dL_glitch_285 (by decide) ?_
  refine lv_iconst (v := nI 2) hx hb dL_glitch_287 (by decide) ?_
  refine wr_i (va_runS (As := [.ref (a 0), .int (nI 3), .int (nI 0), .int (nI 1), .int (nI 3), .int (nI 10), .int (nI 2)]) (rest := []) FX (w_changes l hfl G a ha t9 z36 oz36 3 0 1 (by decide) (by decide) (by decide) (nI 3) (nI 10) (nI 2) (congrArg nI ch_z36_3_0_1.1) (congrArg nI ch_z36_3_0_1.2.1) (congrArg nI ch_z36_3_0_1.2.2)) (va_cwS 7 hts gL_glitch_L_changes rfl rfl rfl (by decide +kernel) ⟨Nat.le_of_ble_eq_true rfl, Nat.le_of_ble_eq_true rfl⟩) (preW hK hNW hCW (hLow.at hS (fun q9 _ q => rng_M q9 q)) (hX.at hS (fun q9 _ q => rng_M q9 q)) hNC) rfl rfl hl.1 rfl (lv_room (Nat.le_of_ble_eq_true rfl)) dL_glitch_288 ⟨Nat.le_of_ble_eq_true rfl, Nat.le_of_ble_eq_true rfl⟩) hS (fun q h => h) (fun r _ H locs hp hCW hk hS => ?_)
  refine lv_as (y := nI 1) hp ?_
  refine lv_if_eq (tgt := 406) hx hb dL_glitch_291 (by decide) (fun c => absurd c (by decide)) (fun _ => ?_)
  exact K _ _ _ hS hCW hl
set_option maxHeartbeats 4000000 in
set_option maxRecDepth 100000 in
theorem t_glitch_3 {p : Program} {l : Launch} {e : Env} {s : State} {m : MethodId} {args : Array Value} {below : List Frame} {meth : Method} {c : Code} {Q : State → Prop} {G : GG} {a : Nat → Nat} {t9 : Nat} (J : LJ p l s m meth c args cL_glitch (some .boolean) 1 wsL_glitch G a t9) {H : Heap} {locs : List Loc} {ls : Array Slot} (hS : va_S (rng a 0 93) s.heap H locs) (hCW : CW G a z36 H) (hl : lv_has ls 1 [(0, .ref (a 0))]) (K : ∀ (H : Heap) (locs : List Loc) (ls : Array Slot), va_S (rng a 0 93) s.heap H locs → CW G a z41 H → lv_has ls 1 [(0, .ref (a 0))] → W p l e ({ frames := 10, cells := 233, slots := 1398, locals := 178 } : Room) s m args below meth c H locs 233 1398 Q (F0 m 407 ls [.int (nI 1)])) : W p l e ({ frames := 10, cells := 233, slots := 1398, locals := 178 } : Room) s m args below meth c H locs 204 1224 Q (F0 m 294 ls []) := by
  obtain ⟨hfl, hx, hb, hr, hml, hown, hts, hlocks, ha, hK, hNW, hLow, hX, hNC⟩ := J
  have FX : CallFix p m c cL_glitch 1 s args wsL_glitch RL := ⟨hx, hb, hml, hown, hts⟩
  refine lv_aload_n hx hb dL_glitch_294 rfl (lv_at hl 0 rfl) ?_
  refine lv_iconst (v := nI 3) hx hb dL_glitch_295 (by decide) ?_
  refine lv_iconst (v := nI 3) hx hb dL_glitch_296 (by decide) ?_
  refine wr_i (va_runV (As := [.int (nI 3), .int (nI 3)]) (rest := []) FX (n_ofNet l hfl G a ha t9 z36 3 3 oz36 (by decide) (by decide)) (cwV 2 hts gL_glitch_X11_ofNet rfl rfl rfl (by decide +kernel) ⟨Nat.le_of_ble_eq_true rfl, Nat.le_of_ble_eq_true rfl⟩) (preVX hK hNW hCW (hLow.at hS (fun q9 _ q => rng_M q9 q)) (hX.at hS (fun q9 _ q => rng_M q9 q)) (cw_recv hK hCW)) rfl rfl hl.1 rfl (lv_room (Nat.le_of_ble_eq_true rfl)) dL_glitch_297 ⟨Nat.le_of_ble_eq_true rfl, Nat.le_of_ble_eq_true rfl⟩) hS (fun q h => h) (fun r _ H locs hp hCW hk hS => ?_)
  refine lv_as (y := nI 1) (hp.trans of_z36_3_3) ?_
  refine lv_iconst (v := nI 1) hx hb dL_glitch_300 (by decide) ?_
  refine lv_icmp_ne (tgt := 406) hx hb dL_glitch_301 (by decide) (fun c => absurd c (by decide)) (fun _ => ?_)
  refine lv_aload_n hx hb dL_glitch_304 rfl (lv_at hl 0 rfl) ?_
  refine lv_iconst (v := nI 0) hx hb dL_glitch_305 (by decide) ?_
  refine lv_iconst (v := nI 1) hx hb dL_glitch_306 (by decide) ?_
  refine lv_iconst (v := nI 1) hx hb dL_glitch_307 (by decide) ?_
  refine wr_i (va_runV (As := [.int (nI 0), .int (nI 1), .int (nI 1)]) (rest := []) FX (n_cost l hfl G a ha t9 z36 0 1 1 oz36 (by decide) (by decide) (by decide)) (cwV 3 hts gL_glitch_X11_cost rfl rfl rfl (by decide +kernel) ⟨Nat.le_of_ble_eq_true rfl, Nat.le_of_ble_eq_true rfl⟩) (preVX hK hNW hCW (hLow.at hS (fun q9 _ q => rng_M q9 q)) (hX.at hS (fun q9 _ q => rng_M q9 q)) (cw_recv hK hCW)) rfl rfl hl.1 rfl (lv_room (Nat.le_of_ble_eq_true rfl)) dL_glitch_308 ⟨Nat.le_of_ble_eq_true rfl, Nat.le_of_ble_eq_true rfl⟩) hS (fun q h => h) (fun r _ H locs hp hCW hk hS => ?_)
  refine lv_as (y := nI 9) (hp.trans (by decide +kernel)) ?_
  have hCW : CW G a z37 H := hCW
  refine lv_bipush (v := nI 9) hx hb dL_glitch_311 (by decide) ?_
  refine lv_icmp_ne (tgt := 406) hx hb dL_glitch_313 (by decide) (fun c => absurd c (by decide)) (fun _ => ?_)
  refine lv_aload_n hx hb dL_glitch_316 rfl (lv_at hl 0 rfl) ?_
  refine lv_iconst (v := nI 3) hx hb dL_glitch_317 (by decide) ?_
  refine lv_iconst (v := nI 1) hx hb dL_glitch_318 (by decide) ?_
  refine lv_iconst (v := nI 1) hx hb dL_glitch_319 (by decide) ?_
  refine wr_i (va_runV (As := [.int (nI 3), .int (nI 1), .int (nI 1)]) (rest := []) FX (n_cost l hfl G a ha t9 z37 3 1 1 oz37 (by decide) (by decide) (by decide)) (cwV 3 hts gL_glitch_X11_cost rfl rfl rfl (by decide +kernel) ⟨Nat.le_of_ble_eq_true rfl, Nat.le_of_ble_eq_true rfl⟩) (preVX hK hNW hCW (hLow.at hS (fun q9 _ q => rng_M q9 q)) (hX.at hS (fun q9 _ q => rng_M q9 q)) (cw_recv hK hCW)) rfl rfl hl.1 rfl (lv_room (Nat.le_of_ble_eq_true rfl)) dL_glitch_320 ⟨Nat.le_of_ble_eq_true rfl, Nat.le_of_ble_eq_true rfl⟩) hS (fun q h => h) (fun r _ H locs hp hCW hk hS => ?_)
  refine lv_as (y := nI 1) (hp.trans (by decide +kernel)) ?_
  have hCW : CW G a z38 H := hCW
  refine lv_iconst (v := nI 1) hx hb dL_glitch_323 (by decide) ?_
  refine lv_icmp_ne (tgt := 406) hx hb dL_glitch_324 (by decide) (fun c => absurd c (by decide)) (fun _ => ?_)
  refine lv_aload_n hx hb dL_glitch_327 rfl (lv_at hl 0 rfl) ?_
  refine lv_iconst (v := nI 3) hx hb dL_glitch_328 (by decide) ?_
  refine lv_iconst (v := nI 1) hx hb dL_glitch_329 (by decide) ?_
  refine lv_iconst (v := nI 1) hx hb dL_glitch_330 (by decide) ?_
  refine lv_iconst (v := nI 1) hx hb dL_glitch_331 (by decide) ?_
  refine wr_i (va_runV (As := [.int (nI 3), .int (nI 1), .int (nI 1), .int (nI 1)]) (rest := []) FX (n_gate l hfl G a ha t9 z38 3 1 1 (nI 1) oz38 (by decide) (by decide) (by decide +kernel) (Or.inr ⟨by decide +kernel, by decide⟩) (by decide +kernel)) (cwV 4 hts gL_glitch_X11_gate rfl rfl rfl (by decide +kernel) ⟨Nat.le_of_ble_eq_true rfl, Nat.le_of_ble_eq_true rfl⟩) (preVX hK hNW hCW (hLow.at hS (fun q9 _ q => rng_M q9 q)) (hX.at hS (fun q9 _ q => rng_M q9 q)) (cw_recv hK hCW)) rfl rfl hl.1 rfl (lv_room (Nat.le_of_ble_eq_true rfl)) dL_glitch_332 ⟨Nat.le_of_ble_eq_true rfl, Nat.le_of_ble_eq_true rfl⟩) hS (fun q h => h) (fun r _ H locs hp hCW hk hS => ?_)
  refine lv_as (y := nI 3) (hp.trans (congrArg nI rp_z38_3.1)) ?_
  have hCW : CW G a z39 H := hCW
  refine lv_iconst (v := nI 3) hx hb dL_glitch_335 (by decide) ?_
  refine lv_icmp_ne (tgt := 406) hx hb dL_glitch_336 (by decide) (fun c => absurd c (by decide)) (fun _ => ?_)
  refine lv_aload_n hx hb dL_glitch_339 rfl (lv_at hl 0 rfl) ?_
  refine lv_iconst (v := nI 3) hx hb dL_glitch_340 (by decide) ?_
  refine lv_iconst (v := nI 2) hx hb dL_glitch_341 (by decide) ?_
  refine lv_iconst (v := nI 3) hx hb dL_glitch_342 (by decide) ?_
  refine lv_iconst (v := nI 3) hx hb dL_glitch_343 (by decide) ?_
  refine wr_i (va_runV (As := [.int (nI 3), .int (nI 2), .int (nI 3), .int (nI 3)]) (rest := []) FX (n_gate l hfl G a ha t9 z39 3 2 3 (nI 3) oz39 (by decide) (by decide) (by decide +kernel) (Or.inr ⟨by decide +kernel, by decide⟩) (by decide +kernel)) (cwV 4 hts gL_glitch_X11_gate rfl rfl rfl (by decide +kernel) ⟨Nat.le_of_ble_eq_true rfl, Nat.le_of_ble_eq_true rfl⟩) (preVX hK hNW hCW (hLow.at hS (fun q9 _ q => rng_M q9 q)) (hX.at hS (fun q9 _ q => rng_M q9 q)) (cw_recv hK hCW)) rfl rfl hl.1 rfl (lv_room (Nat.le_of_ble_eq_true rfl)) dL_glitch_344 ⟨Nat.le_of_ble_eq_true rfl, Nat.le_of_ble_eq_true rfl⟩) hS (fun q h => h) (fun r _ H locs hp hCW hk hS => ?_)
  refine lv_as (y := nI 4) (hp.trans (congrArg nI rp_z39_3.1)) ?_
  have hCW : CW G a z40 H := hCW
  refine lv_iconst (v := nI 4) hx hb dL_glitch_347 (by decide) ?_
  refine lv_icmp_ne (tgt := 406) hx hb dL_glitch_348 (by decide) (fun c => absurd c (by decide)) (fun _ => ?_)
  refine lv_aload_n hx hb dL_glitch_351 rfl (lv_at hl 0 rfl) ?_
  refine lv_iconst (v := nI 3) hx hb dL_glitch_352 (by decide) ?_
  refine lv_bipush (v := nI 6) hx hb dL_glitch_353 (by decide) ?_
  refine wr_i (va_runV (As := [.int (nI 3), .int (nI 6)]) (rest := []) FX (n_ofNet l hfl G a ha t9 z40 3 6 oz40 (by decide) (by decide)) (cwV 2 hts gL_glitch_X11_ofNet rfl rfl rfl (by decide +kernel) ⟨Nat.le_of_ble_eq_true rfl, Nat.le_of_ble_eq_true rfl⟩) (preVX hK hNW hCW (hLow.at hS (fun q9 _ q => rng_M q9 q)) (hX.at hS (fun q9 _ q => rng_M q9 q)) (cw_recv hK hCW)) rfl rfl hl.1 rfl (lv_room (Nat.le_of_ble_eq_true rfl)) dL_glitch_355 ⟨Nat.le_of_ble_eq_true rfl, Nat.le_of_ble_eq_true rfl⟩) hS (fun q h => h) (fun r _ H locs hp hCW hk hS => ?_)
  refine lv_as (y := nI 2) (hp.trans of_z40_3_6) ?_
  refine lv_iconst (v := nI 2) hx hb dL_glitch_358 (by decide) ?_
  refine lv_icmp_ne (tgt := 406) hx hb dL_glitch_359 (by decide) (fun c => absurd c (by decide)) (fun _ => ?_)
  refine lv_aload_n hx hb dL_glitch_362 rfl (lv_at hl 0 rfl) ?_
  refine lv_iconst (v := nI 3) hx hb dL_glitch_363 (by decide) ?_
  refine lv_iconst (v := nI 3) hx hb dL_glitch_364 (by decide) ?_
  refine lv_iconst (v := nI 0) hx hb dL_glitch_365 (by decide) ?_
  refine wr_i (va_runV (As := [.int (nI 3), .int (nI 3), .int (nI 0)]) (rest := []) FX (n_bit l hfl G a ha t9 z40 3 3 0 oz40 (by decide) (by decide +kernel) (by decide)) (cwV 3 hts gL_glitch_X11_bit rfl rfl rfl (by decide +kernel) ⟨Nat.le_of_ble_eq_true rfl, Nat.le_of_ble_eq_true rfl⟩) (preVX hK hNW hCW (hLow.at hS (fun q9 _ q => rng_M q9 q)) (hX.at hS (fun q9 _ q => rng_M q9 q)) (cw_recv hK hCW)) rfl rfl hl.1 rfl (lv_room (Nat.le_of_ble_eq_true rfl)) dL_glitch_366 ⟨Nat.le_of_ble_eq_true rfl, Nat.le_of_ble_eq_true rfl⟩) hS (fun q h => h) (fun r _ H locs hp hCW hk hS => ?_)
  refine lv_as (y := nI 1) (hp.trans bt_z40_3_3_0) ?_
  refine lv_iconst (v := nI 1) hx hb dL_glitch_369 (by decide) ?_
  refine lv_icmp_ne (tgt := 406) hx hb dL_glitch_370 (by decide) (fun c => absurd c (by decide)) (fun _ => ?_)
  refine lv_aload_n hx hb dL_glitch_373 rfl (lv_at hl 0 rfl) ?_
  refine lv_iconst (v := nI 3) hx hb dL_glitch_374 (by decide) ?_
  refine lv_iconst (v := nI 4) hx hb dL_glitch_375 (by decide) ?_
  refine lv_iconst (v := nI 0) hx hb dL_glitch_376 (by decide) ?_
  refine wr_i (va_runV (As := [.int (nI 3), .int (nI 4), .int (nI 0)]) (rest := []) FX (n_bit l hfl G a ha t9 z40 3 4 0 oz40 (by decide) (by decide +kernel) (by decide)) (cwV 3 hts gL_glitch_X11_bit rfl rfl rfl (by decide +kernel) ⟨Nat.le_of_ble_eq_true rfl, Nat.le_of_ble_eq_true rfl⟩) (preVX hK hNW hCW (hLow.at hS (fun q9 _ q => rng_M q9 q)) (hX.at hS (fun q9 _ q => rng_M q9 q)) (cw_recv hK hCW)) rfl rfl hl.1 rfl (lv_room (Nat.le_of_ble_eq_true rfl)) dL_glitch_377 ⟨Nat.le_of_ble_eq_true rfl, Nat.le_of_ble_eq_true rfl⟩) hS (fun q h => h) (fun r _ H locs hp hCW hk hS => ?_)
  refine lv_as (y := nI 0) (hp.trans bt_z40_3_4_0) ?_
  refine lv_if_ne (tgt := 406) hx hb dL_glitch_380 (by decide) (fun c => absurd c (by decide)) (fun _ => ?_)
  refine lv_aload_n hx hb dL_glitch_383 rfl (lv_at hl 0 rfl) ?_
  refine lv_iconst (v := nI 3) hx hb dL_glitch_384 (by decide) ?_
  refine lv_iconst (v := nI 5) hx hb dL_glitch_385 (by decide) ?_
  refine wr_i (va_runV (As := [.int (nI 3), .int (nI 5)]) (rest := []) FX (n_ofNet l hfl G a ha t9 z40 3 5 oz40 (by decide) (by decide)) (cwV 2 hts gL_glitch_X11_ofNet rfl rfl rfl (by decide +kernel) ⟨Nat.le_of_ble_eq_true rfl, Nat.le_of_ble_eq_true rfl⟩) (preVX hK hNW hCW (hLow.at hS (fun q9 _ q => rng_M q9 q)) (hX.at hS (fun q9 _ q => rng_M q9 q)) (cw_recv hK hCW)) rfl rfl hl.1 rfl (lv_room (Nat.le_of_ble_eq_true rfl)) dL_glitch_386 ⟨Nat.le_of_ble_eq_true rfl, Nat.le_of_ble_eq_true rfl⟩) hS (fun q h => h) (fun r _ H locs hp hCW hk hS => ?_)
  refine lv_as (y := nI 3) (hp.trans of_z40_3_5) ?_
  refine lv_iconst (v := nI 3) hx hb dL_glitch_389 (by decide) ?_
  refine lv_icmp_ne (tgt := 406) hx hb dL_glitch_390 (by decide) (fun c => absurd c (by decide)) (fun _ => ?_)
  refine lv_aload_n hx hb dL_glitch_393 rfl (lv_at hl 0 rfl) ?_
  refine lv_iconst (v := nI 3) hx hb dL_glitch_394 (by decide) ?_
  refine wr_i (va_runV (As := [.int (nI 3)]) (rest := []) FX (n_clear l hfl G a ha t9 z40 3 oz40 (by decide)) (cwV 1 hts gL_glitch_X11_clear rfl rfl rfl (by decide +kernel) ⟨Nat.le_of_ble_eq_true rfl, Nat.le_of_ble_eq_true rfl⟩) (preVX hK hNW hCW (hLow.at hS (fun q9 _ q => rng_M q9 q)) (hX.at hS (fun q9 _ q => rng_M q9 q)) (cw_recv hK hCW)) rfl rfl hl.1 rfl (lv_room (Nat.le_of_ble_eq_true rfl)) dL_glitch_395 ⟨Nat.le_of_ble_eq_true rfl, Nat.le_of_ble_eq_true rfl⟩) hS (fun q h => h) (fun r _ H locs hp hCW hk hS => ?_)
  refine lv_as (y := nI 5) (hp.trans (congrArg nI rp_z40_3.1)) ?_
  have hCW : CW G a z41 H := hCW
  refine lv_iconst (v := nI 5) hx hb dL_glitch_398 (by decide) ?_
  refine lv_icmp_ne (tgt := 406) hx hb dL_glitch_399 (by decide) (fun c => absurd c (by decide)) (fun _ => ?_)
  refine lv_iconst (v := nI 1) hx hb dL_glitch_402 (by decide) ?_
  refine lv_goto (tgt := 407) hx hb dL_glitch_403 (by decide) ?_
  exact K _ _ _ hS hCW hl
set_option maxHeartbeats 4000000 in
set_option maxRecDepth 100000 in
theorem w_glitch (l : Launch) (hfl : l.stackTraces = false) (G : GG) (a : Nat → Nat) (ha : Inj a) (t9 : Nat) : Met l yL_glitch wsL_glitch ({ frames := 10, cells := 233, slots := 1398, locals := 178 } : Room) (PcW G a t9 [.ref (a 0)] (fun H => CW G a z26 H)) (QI (fun (r : Int32) (_ : Unit) => r = nI 1) (fun _ H => CW G a z41 H) (rng a 0 93)) 233 1398 (rng a 0 93) := by
  refine Met.ofW (cc := cL_glitch) (maxL := 1) (ret := (some .boolean)) (by decide) rfl ?_
  intro p e s m args below meth c s₁ B hml hv
  obtain ⟨⟨⟨⟨rfl, hCW, hK, hNW⟩, hLow⟩, hX⟩, hNC⟩ := hv
  have J : LJ p l s m meth c ([.ref (a 0)] : List Value).toArray cL_glitch (some .boolean) 1 wsL_glitch G a t9 := ⟨hfl, B.exec, B.bytes, B.returns, hml, findClass_of_methodNamed B.named, atoms_spec (ws := wsL_glitch) B.pre, B.notSynchronized, ha, hK, hNW, hLow, hX, hNC⟩
  have hl := lv_entry ([.ref (a 0)]) (n := 1) (Nat.le_of_ble_eq_true rfl)
  rw [lg_entry_eq]
  generalize (lg_sl ([.ref (a 0)]) ++ List.replicate (1 - (lg_sl ([.ref (a 0)])).length) Slot.unset).toArray = ls at hl ⊢
  have hl : lv_has ls 1 [(0, .ref (a 0))] := hl
  have hS : va_S (rng a 0 93) s.heap s.heap [] := va_S.rf
  exact t_glitch_1 J hS hCW hl (fun H locs ls hS hCW hl => t_glitch_2 J hS hCW hl (fun H locs ls hS hCW hl => t_glitch_3 J hS hCW hl (fun H locs ls hS hCW hl => en_wz () B.exec B.bytes B.returns B.notSynchronized hS nw1 rfl hCW dL_glitch_407)))
