/-! most -/
set_option maxHeartbeats 4000000 in
set_option maxRecDepth 100000 in
theorem t_most_1 {p : Program} {l : Launch} {e : Env} {s : State} {m : MethodId} {args : Array Value} {below : List Frame} {meth : Method} {c : Code} {Q : State → Prop} {G : GG} {a : Nat → Nat} {t9 : Nat} (J : LJ p l s m meth c args cL_most (some .boolean) 2 wsL_most G a t9) (hA : ∀ k, s.heap.size ≤ a k) (hNI : NI s) (hAO : va_AO RX3 s) (hI : ∀ q, s.heap.size ≤ q → inM a q) {H : Heap} {locs : List Loc} {ls : Array Slot} (hS : va_S (fun q : Nat => s.heap.size ≤ q) s.heap H locs) (hCW : CW G a y0 H) (hl : lv_has ls 2 [(1, .int (nI 17)), (0, .ref (a 0))]) (K : ∀ (H : Heap) (locs : List Loc) (ls : Array Slot), va_S (fun q : Nat => s.heap.size ≤ q) s.heap H locs → CW G a y0 H → lv_has ls 2 [(1, .int (nI 17)), (0, .ref (a 0))] → W p l e ({ frames := 11, cells := 1924, slots := 17858, locals := 225 } : Room) s m args below meth c H locs 1924 17858 Q (F0 m 319 ls [])) : W p l e ({ frames := 11, cells := 1924, slots := 17858, locals := 225 } : Room) s m args below meth c H locs 661 10280 Q (F0 m 155 ls []) := by
  obtain ⟨hfl, hx, hb, hr, hml, hown, hts, hlocks, ha, hK, hNW, hLow, hX, hNC⟩ := J
  have FX : CallFix p m c cL_most 2 s args wsL_most RL := ⟨hx, hb, hml, hown, hts⟩
  refine lv_aload_n hx hb dL_most_155 rfl (lv_at hl 1 rfl) ?_
  refine lv_iconst (v := nI 0) hx hb dL_most_156 (by decide) ?_
  refine lv_iconst (v := nI 1) hx hb dL_most_157 (by decide) ?_
  refine lv_iconst (v := nI 0) hx hb dL_most_158 (by decide) ?_
  refine lv_iconst (v := nI 0) hx hb dL_most_159 (by decide) ?_
  refine lv_iconst (v := nI 0) hx hb dL_most_160 (by decide) ?_
  refine wr_i (vx_run0 (vx_runSX (As := [.ref (a 0), .int (nI 0), .int (nI 1), .int (nI 0), .int (nI 0), .int (nI 0)]) (rest := []) FX (w_act_input l hfl G a ha t9 y0 (nI 1) (nI 0) (nI 0) (nI 0) oy0) (vx_cwSW 6 hts gL_most_L_act rfl rfl rfl (by decide +kernel) ⟨Nat.le_of_ble_eq_true rfl, Nat.le_of_ble_eq_true rfl⟩) (preW hK hNW hCW (hLow.at hS (fun q9 h8 h9 => absurd h8 (Nat.not_lt.mpr h9))) (hX.at hS (fun q9 h8 h9 => absurd h8 (Nat.not_lt.mpr h9))) hNC) rfl rfl hl.1 rfl (lv_room (Nat.le_of_ble_eq_true rfl)) dL_most_161 ⟨Nat.le_of_ble_eq_true rfl, Nat.le_of_ble_eq_true rfl⟩)) hS (rng_ge hA) (fun r _ H locs hp hCW hk hS => ?_)
  refine lv_as (y := -7000003) (hp.2.2.2 (by decide +kernel)) ?_
  have hCW : CW G a y0 H := CW_rf hCW (k := 3) (by decide +kernel) (by decide)
  refine lv_ldc (v := -7000003) hx hb hown (hts (.constant RL 81 (-7000003)) (List.mem_of_getElem? (i := 4) (by decide +kernel))) dL_most_164 ?_
  refine lv_icmp_ne (tgt := 323) hx hb dL_most_166 (by decide) (fun c => absurd c (by decide)) (fun _ => ?_)
  refine lv_aload_n hx hb dL_most_169 rfl (lv_at hl 1 rfl) ?_
  refine lv_iconst (v := nI 1) hx hb dL_most_170 (by decide) ?_
  refine lv_bipush (v := nI 120) hx hb dL_most_171 (by decide) ?_
  refine lv_bipush (v := nI 30) hx hb dL_most_173 (by decide) ?_
  refine lv_bipush (v := nI 16) hx hb dL_most_175 (by decide) ?_
  refine lv_bipush (v := nI 90) hx hb dL_most_177 (by decide) ?_
  refine lv_bipush (v := nI 90) hx hb dL_most_179 (by decide) ?_
  refine lv_iconst (v := nI 0) hx hb dL_most_181 (by decide) ?_
  refine wr_i (va_runS (As := [.ref (a 0), .int (nI 1), .int (nI 120), .int (nI 30), .int (nI 16), .int (nI 90), .int (nI 90), .int (nI 0)]) (rest := []) FX (w_net l hfl G a ha t9 y0 oy0 1 (by decide) (nI 120) (nI 30) (nI 16) (nI 90) (nI 90) (nI 0) of_y0_1_0 of_y0_1_1 of_y0_1_2 of_y0_1_3 of_y0_1_4 of_y0_1_6) (va_cwS 8 hts gL_most_L_net rfl rfl rfl (by decide +kernel) ⟨Nat.le_of_ble_eq_true rfl, Nat.le_of_ble_eq_true rfl⟩) (preW hK hNW hCW (hLow.at hS (fun q9 h8 h9 => absurd h8 (Nat.not_lt.mpr h9))) (hX.at hS (fun q9 h8 h9 => absurd h8 (Nat.not_lt.mpr h9))) hNC) rfl rfl hl.1 rfl (lv_room (Nat.le_of_ble_eq_true rfl)) dL_most_182 ⟨Nat.le_of_ble_eq_true rfl, Nat.le_of_ble_eq_true rfl⟩) hS (rng_ge hA) (fun r _ H locs hp hCW hk hS => ?_)
  refine lv_as (y := nI 1) hp ?_
  refine lv_if_eq (tgt := 323) hx hb dL_most_185 (by decide) (fun c => absurd c (by decide)) (fun _ => ?_)
  refine lv_aload_n hx hb dL_most_188 rfl (lv_at hl 1 rfl) ?_
  refine lv_iconst (v := nI 1) hx hb dL_most_189 (by decide) ?_
  refine lv_iconst (v := nI 5) hx hb dL_most_190 (by decide) ?_
  refine wr_i (va_runV (As := [.int (nI 1), .int (nI 5)]) (rest := []) FX (n_ofNet l hfl G a ha t9 y0 1 5 oy0 (by decide) (by decide)) (cwV 2 hts gL_most_X11_ofNet rfl rfl rfl (by decide +kernel) ⟨Nat.le_of_ble_eq_true rfl, Nat.le_of_ble_eq_true rfl⟩) (preVX hK hNW hCW (hLow.at hS (fun q9 h8 h9 => absurd h8 (Nat.not_lt.mpr h9))) (hX.at hS (fun q9 h8 h9 => absurd h8 (Nat.not_lt.mpr h9))) (cw_recv hK hCW)) rfl rfl hl.1 rfl (lv_room (Nat.le_of_ble_eq_true rfl)) dL_most_191 ⟨Nat.le_of_ble_eq_true rfl, Nat.le_of_ble_eq_true rfl⟩) hS (rng_ge hA) (fun r _ H locs hp hCW hk hS => ?_)
  refine lv_as (y := nI 2) (hp.trans of_y0_1_5) ?_
  refine lv_iconst (v := nI 2) hx hb dL_most_194 (by decide) ?_
  refine lv_icmp_ne (tgt := 323) hx hb dL_most_195 (by decide) (fun c => absurd c (by decide)) (fun _ => ?_)
  refine lv_aload_n hx hb dL_most_198 rfl (lv_at hl 1 rfl) ?_
  refine lv_iconst (v := nI 1) hx hb dL_most_199 (by decide) ?_
  refine lv_iconst (v := nI 0) hx hb dL_most_200 (by decide) ?_
  refine wr_i (va_runV (As := [.int (nI 1), .int (nI 0)]) (rest := []) FX (n_path l hfl G a ha t9 y0 1 0 oy0 (by decide) (by decide)) (cwV 2 hts gL_most_X11_path rfl rfl rfl (by decide +kernel) ⟨Nat.le_of_ble_eq_true rfl, Nat.le_of_ble_eq_true rfl⟩) (preVX hK hNW hCW (hLow.at hS (fun q9 h8 h9 => absurd h8 (Nat.not_lt.mpr h9))) (hX.at hS (fun q9 h8 h9 => absurd h8 (Nat.not_lt.mpr h9))) (cw_recv hK hCW)) rfl rfl hl.1 rfl (lv_room (Nat.le_of_ble_eq_true rfl)) dL_most_201 ⟨Nat.le_of_ble_eq_true rfl, Nat.le_of_ble_eq_true rfl⟩) hS (rng_ge hA) (fun r _ H locs hp hCW hk hS => ?_)
  refine lv_as (y := nI 119) (hp.trans pa_y0_1_0) ?_
  refine lv_bipush (v := nI 119) hx hb dL_most_204 (by decide) ?_
  refine lv_icmp_ne (tgt := 323) hx hb dL_most_206 (by decide) (fun c => absurd c (by decide)) (fun _ => ?_)
  refine lv_aload_n hx hb dL_most_209 rfl (lv_at hl 1 rfl) ?_
  refine lv_iconst (v := nI 1) hx hb dL_most_210 (by decide) ?_
  refine lv_bipush (v := nI 89) hx hb dL_most_211 (by decide) ?_
  refine wr_i (va_runV (As := [.int (nI 1), .int (nI 89)]) (rest := []) FX (n_path l hfl G a ha t9 y0 1 89 oy0 (by decide) (by decide)) (cwV 2 hts gL_most_X11_path rfl rfl rfl (by decide +kernel) ⟨Nat.le_of_ble_eq_true rfl, Nat.le_of_ble_eq_true rfl⟩) (preVX hK hNW hCW (hLow.at hS (fun q9 h8 h9 => absurd h8 (Nat.not_lt.mpr h9))) (hX.at hS (fun q9 h8 h9 => absurd h8 (Nat.not_lt.mpr h9))) (cw_recv hK hCW)) rfl rfl hl.1 rfl (lv_room (Nat.le_of_ble_eq_true rfl)) dL_most_213 ⟨Nat.le_of_ble_eq_true rfl, Nat.le_of_ble_eq_true rfl⟩) hS (rng_ge hA) (fun r _ H locs hp hCW hk hS => ?_)
  refine lv_as (y := nI 30) (hp.trans pa_y0_1_89) ?_
  refine lv_bipush (v := nI 30) hx hb dL_most_216 (by decide) ?_
  refine lv_icmp_ne (tgt := 323) hx hb dL_most_218 (by decide) (fun c => absurd c (by decide)) (fun _ => ?_)
  refine lv_aload_n hx hb dL_most_221 rfl (lv_at hl 1 rfl) ?_
  refine lv_iconst (v := nI 1) hx hb dL_most_222 (by decide) ?_
  refine lv_bipush (v := nI 90) hx hb dL_most_223 (by decide) ?_
  refine wr_i (va_runV (As := [.int (nI 1), .int (nI 90)]) (rest := []) FX (n_path l hfl G a ha t9 y0 1 90 oy0 (by decide) (by decide)) (cwV 2 hts gL_most_X11_path rfl rfl rfl (by decide +kernel) ⟨Nat.le_of_ble_eq_true rfl, Nat.le_of_ble_eq_true rfl⟩) (preVX hK hNW hCW (hLow.at hS (fun q9 h8 h9 => absurd h8 (Nat.not_lt.mpr h9))) (hX.at hS (fun q9 h8 h9 => absurd h8 (Nat.not_lt.mpr h9))) (cw_recv hK hCW)) rfl rfl hl.1 rfl (lv_room (Nat.le_of_ble_eq_true rfl)) dL_most_225 ⟨Nat.le_of_ble_eq_true rfl, Nat.le_of_ble_eq_true rfl⟩) hS (rng_ge hA) (fun r _ H locs hp hCW hk hS => ?_)
  refine lv_as (y := nI 0) (hp.trans pa_y0_1_90) ?_
  refine lv_if_ne (tgt := 323) hx hb dL_most_228 (by decide) (fun c => absurd c (by decide)) (fun _ => ?_)
  refine lv_aload_n hx hb dL_most_231 rfl (lv_at hl 1 rfl) ?_
  refine lv_iconst (v := nI 1) hx hb dL_most_232 (by decide) ?_
  refine lv_bipush (v := nI 91) hx hb dL_most_233 (by decide) ?_
  refine wr_i (va_runV (As := [.int (nI 1), .int (nI 91)]) (rest := []) FX (n_path l hfl G a ha t9 y0 1 91 oy0 (by decide) (by decide)) (cwV 2 hts gL_most_X11_path rfl rfl rfl (by decide +kernel) ⟨Nat.le_of_ble_eq_true rfl, Nat.le_of_ble_eq_true rfl⟩) (preVX hK hNW hCW (hLow.at hS (fun q9 h8 h9 => absurd h8 (Nat.not_lt.mpr h9))) (hX.at hS (fun q9 h8 h9 => absurd h8 (Nat.not_lt.mpr h9))) (cw_recv hK hCW)) rfl rfl hl.1 rfl (lv_room (Nat.le_of_ble_eq_true rfl)) dL_most_235 ⟨Nat.le_of_ble_eq_true rfl, Nat.le_of_ble_eq_true rfl⟩) hS (rng_ge hA) (fun r _ H locs hp hCW hk hS => ?_)
  refine lv_as (y := -1) (hp.trans pa_y0_1_91) ?_
  refine lv_iconst (v := -1) hx hb dL_most_238 (by decide) ?_
  refine lv_icmp_ne (tgt := 323) hx hb dL_most_239 (by decide) (fun c => absurd c (by decide)) (fun _ => ?_)
  refine lv_aload_n hx hb dL_most_242 rfl (lv_at hl 1 rfl) ?_
  refine lv_iconst (v := nI 1) hx hb dL_most_243 (by decide) ?_
  refine lv_iconst (v := nI 0) hx hb dL_most_244 (by decide) ?_
  refine lv_sipush (v := nI 21845) hx hb dL_most_245 (by decide) ?_
  refine wr_i (va_runS (As := [.ref (a 0), .int (nI 1), .int (nI 0), .int (nI 21845)]) (rest := []) FX (w_value l hfl G a ha t9 y0 oy0 1 0 (by decide) (by decide) (nI 21845) vl_y0_1_0) (va_cwS 4 hts gL_most_L_value rfl rfl rfl (by decide +kernel) ⟨Nat.le_of_ble_eq_true rfl, Nat.le_of_ble_eq_true rfl⟩) (preW hK hNW hCW (hLow.at hS (fun q9 h8 h9 => absurd h8 (Nat.not_lt.mpr h9))) (hX.at hS (fun q9 h8 h9 => absurd h8 (Nat.not_lt.mpr h9))) hNC) rfl rfl hl.1 rfl (lv_room (Nat.le_of_ble_eq_true rfl)) dL_most_248 ⟨Nat.le_of_ble_eq_true rfl, Nat.le_of_ble_eq_true rfl⟩) hS (rng_ge hA) (fun r _ H locs hp hCW hk hS => ?_)
  refine lv_as (y := nI 1) hp ?_
  refine lv_if_eq (tgt := 323) hx hb dL_most_251 (by decide) (fun c => absurd c (by decide)) (fun _ => ?_)
  refine lv_aload_n hx hb dL_most_254 rfl (lv_at hl 1 rfl) ?_
  refine lv_iconst (v := nI 1) hx hb dL_most_255 (by decide) ?_
  refine lv_ldc (v := nI 536870912) hx hb hown (hts (.constant RL 127 (536870912)) (List.mem_of_getElem? (i := 5) (by decide +kernel))) dL_most_256 ?_
  refine lv_ldc (v := nI 43690) hx hb hown (hts (.constant RL 128 (43690)) (List.mem_of_getElem? (i := 6) (by decide +kernel))) dL_most_258 ?_
  refine wr_i (va_runS (As := [.ref (a 0), .int (nI 1), .int (nI 536870912), .int (nI 43690)]) (rest := []) FX (w_value l hfl G a ha t9 y0 oy0 1 536870912 (by decide) (by decide) (nI 43690) vl_y0_1_536870912) (va_cwS 4 hts gL_most_L_value rfl rfl rfl (by decide +kernel) ⟨Nat.le_of_ble_eq_true rfl, Nat.le_of_ble_eq_true rfl⟩) (preW hK hNW hCW (hLow.at hS (fun q9 h8 h9 => absurd h8 (Nat.not_lt.mpr h9))) (hX.at hS (fun q9 h8 h9 => absurd h8 (Nat.not_lt.mpr h9))) hNC) rfl rfl hl.1 rfl (lv_room (Nat.le_of_ble_eq_true rfl)) dL_most_260 ⟨Nat.le_of_ble_eq_true rfl, Nat.le_of_ble_eq_true rfl⟩) hS (rng_ge hA) (fun r _ H locs hp hCW hk hS => ?_)
  refine lv_as (y := nI 1) hp ?_
  refine lv_if_eq (tgt := 323) hx hb dL_most_263 (by decide) (fun c => absurd c (by decide)) (fun _ => ?_)
  refine lv_aload_n hx hb dL_most_266 rfl (lv_at hl 1 rfl) ?_
  refine lv_iconst (v := nI 1) hx hb dL_most_267 (by decide) ?_
  refine lv_iconst (v := nI 0) hx hb dL_most_268 (by decide) ?_
  refine lv_iconst (v := nI 1) hx hb dL_most_269 (by decide) ?_
  refine lv_bipush (v := nI 90) hx hb dL_most_270 (by decide) ?_
  refine lv_bipush (v := nI 90) hx hb dL_most_272 (by decide) ?_
  refine lv_bipush (v := nI 16) hx hb dL_most_274 (by decide) ?_
  refine wr_i (va_runS (As := [.ref (a 0), .int (nI 1), .int (nI 0), .int (nI 1), .int (nI 90), .int (nI 90), .int (nI 16)]) (rest := []) FX (w_changes l hfl G a ha t9 y0 oy0 1 0 1 (by decide) (by decide) (by decide) (nI 90) (nI 90) (nI 16) (congrArg nI ch_y0_1_0_1.1) (congrArg nI ch_y0_1_0_1.2.1) (congrArg nI ch_y0_1_0_1.2.2)) (va_cwS 7 hts gL_most_L_changes rfl rfl rfl (by decide +kernel) ⟨Nat.le_of_ble_eq_true rfl, Nat.le_of_ble_eq_true rfl⟩) (preW hK hNW hCW (hLow.at hS (fun q9 h8 h9 => absurd h8 (Nat.not_lt.mpr h9))) (hX.at hS (fun q9 h8 h9 => absurd h8 (Nat.not_lt.mpr h9))) hNC) rfl rfl hl.1 rfl (lv_room (Nat.le_of_ble_eq_true rfl)) dL_most_276 ⟨Nat.le_of_ble_eq_true rfl, Nat.le_of_ble_eq_true rfl⟩) hS (rng_ge hA) (fun r _ H locs hp hCW hk hS => ?_)
  refine lv_as (y := nI 1) hp ?_
  refine lv_if_eq (tgt := 323) hx hb dL_most_279 (by decide) (fun c => absurd c (by decide)) (fun _ => ?_)
  refine lv_aload_n hx hb dL_most_282 rfl (lv_at hl 1 rfl) ?_
  refine lv_bipush (v := nI 16) hx hb dL_most_283 (by decide) ?_
  refine lv_iconst (v := nI 1) hx hb dL_most_285 (by decide) ?_
  refine lv_iconst (v := nI 0) hx hb dL_most_286 (by decide) ?_
  refine lv_iconst (v := nI 0) hx hb dL_most_287 (by decide) ?_
  refine lv_iconst (v := nI 0) hx hb dL_most_288 (by decide) ?_
  refine wr_i (vx_run0 (vx_runSX (As := [.ref (a 0), .int (nI 16), .int (nI 1), .int (nI 0), .int (nI 0), .int (nI 0)]) (rest := []) FX (w_act_off l hfl G a ha t9 y0 (nI 1) (nI 0) (nI 0) (nI 0) oy0) (vx_cwSW 6 hts gL_most_L_act rfl rfl rfl (by decide +kernel) ⟨Nat.le_of_ble_eq_true rfl, Nat.le_of_ble_eq_true rfl⟩) (preW hK hNW hCW (hLow.at hS (fun q9 h8 h9 => absurd h8 (Nat.not_lt.mpr h9))) (hX.at hS (fun q9 h8 h9 => absurd h8 (Nat.not_lt.mpr h9))) hNC) rfl rfl hl.1 rfl (lv_room (Nat.le_of_ble_eq_true rfl)) dL_most_289 ⟨Nat.le_of_ble_eq_true rfl, Nat.le_of_ble_eq_true rfl⟩)) hS (rng_ge hA) (fun r _ H locs hp hCW hk hS => ?_)
  refine lv_as (y := -7000003) (hp.2.2.2 (by decide +kernel)) ?_
  refine lv_ldc (v := -7000003) hx hb hown (hts (.constant RL 81 (-7000003)) (List.mem_of_getElem? (i := 4) (by decide +kernel))) dL_most_292 ?_
  refine lv_icmp_ne (tgt := 323) hx hb dL_most_294 (by decide) (fun c => absurd c (by decide)) (fun _ => ?_)
  refine lv_aload_n hx hb dL_most_297 rfl (lv_at hl 1 rfl) ?_
  refine lv_bipush (v := nI 18) hx hb dL_most_298 (by decide) ?_
  refine lv_iconst (v := nI 1) hx hb dL_most_300 (by decide) ?_
  refine lv_iconst (v := nI 1) hx hb dL_most_301 (by decide) ?_
  refine lv_iconst (v := nI 0) hx hb dL_most_302 (by decide) ?_
  refine lv_iconst (v := nI 0) hx hb dL_most_303 (by decide) ?_
  refine wr_i (vx_run0 (vx_runSX (As := [.ref (a 0), .int (nI 18), .int (nI 1), .int (nI 1), .int (nI 0), .int (nI 0)]) (rest := []) FX (w_act_unlike l hfl G a ha t9 y0 (nI 1) (nI 1) (nI 0) (nI 0) oy0) (vx_cwSW 6 hts gL_most_L_act rfl rfl rfl (by decide +kernel) ⟨Nat.le_of_ble_eq_true rfl, Nat.le_of_ble_eq_true rfl⟩) (preW hK hNW hCW (hLow.at hS (fun q9 h8 h9 => absurd h8 (Nat.not_lt.mpr h9))) (hX.at hS (fun q9 h8 h9 => absurd h8 (Nat.not_lt.mpr h9))) hNC) rfl rfl hl.1 rfl (lv_room (Nat.le_of_ble_eq_true rfl)) dL_most_304 ⟨Nat.le_of_ble_eq_true rfl, Nat.le_of_ble_eq_true rfl⟩)) hS (rng_ge hA) (fun r _ H locs hp hCW hk hS => ?_)
  refine lv_as (y := -7000003) (hp.2.2.2 (by decide +kernel)) ?_
  refine lv_ldc (v := -7000003) hx hb hown (hts (.constant RL 81 (-7000003)) (List.mem_of_getElem? (i := 4) (by decide +kernel))) dL_most_307 ?_
  refine lv_icmp_ne (tgt := 323) hx hb dL_most_309 (by decide) (fun c => absurd c (by decide)) (fun _ => ?_)
  refine lv_aload_n hx hb dL_most_312 rfl (lv_at hl 1 rfl) ?_
  refine wr_i (va_runS (As := [.ref (a 0)]) (rest := []) FX (w_refuses l hfl G a ha t9 y0 oy0) (va_cwS 1 hts gL_most_L_refuses rfl rfl rfl (by decide +kernel) ⟨Nat.le_of_ble_eq_true rfl, Nat.le_of_ble_eq_true rfl⟩) (preW hK hNW hCW (hLow.at hS (fun q9 h8 h9 => absurd h8 (Nat.not_lt.mpr h9))) (hX.at hS (fun q9 h8 h9 => absurd h8 (Nat.not_lt.mpr h9))) hNC) rfl rfl hl.1 rfl (lv_room (Nat.le_of_ble_eq_true rfl)) dL_most_313 ⟨Nat.le_of_ble_eq_true rfl, Nat.le_of_ble_eq_true rfl⟩) hS (rng_ge hA) (fun r _ H locs hp hCW hk hS => ?_)
  refine lv_as (y := nI 1) hp ?_
  refine lv_if_eq (tgt := 323) hx hb dL_most_316 (by decide) (fun c => absurd c (by decide)) (fun _ => ?_)
  exact K _ _ _ hS hCW hl
set_option maxHeartbeats 4000000 in
set_option maxRecDepth 100000 in
theorem t_most_2 {p : Program} {l : Launch} {e : Env} {s : State} {m : MethodId} {args : Array Value} {below : List Frame} {meth : Method} {c : Code} {Q : State → Prop} {G : GG} {a : Nat → Nat} {t9 : Nat} (J : LJ p l s m meth c args cL_most (some .boolean) 2 wsL_most G a t9) (hA : ∀ k, s.heap.size ≤ a k) (hNI : NI s) (hAO : va_AO RX3 s) (hI : ∀ q, s.heap.size ≤ q → inM a q) {H : Heap} {locs : List Loc} {ls : Array Slot} (hS : va_S (fun q : Nat => s.heap.size ≤ q) s.heap H locs) (hCW : CW G a y0 H) (hl : lv_has ls 2 [(1, .int (nI 17)), (0, .ref (a 0))]) (K : ∀ (H : Heap) (locs : List Loc) (ls : Array Slot), va_S (fun q : Nat => s.heap.size ≤ q) s.heap H locs → CW G a y0 H → lv_has ls 2 [(1, .int (nI 17)), (0, .ref (a 0))] → W p l e ({ frames := 11, cells := 1924, slots := 17858, locals := 225 } : Room) s m args below meth c H locs 1924 17858 Q (F0 m 324 ls [.int (nI 1)])) : W p l e ({ frames := 11, cells := 1924, slots := 17858, locals := 225 } : Room) s m args below meth c H locs 1924 17858 Q (F0 m 319 ls []) := by
  obtain ⟨hfl, hx, hb, hr, hml, hown, hts, hlocks, ha, hK, hNW, hLow, hX, hNC⟩ := J
  have FX : CallFix p m c cL_most 2 s args wsL_most RL := ⟨hx, hb, hml, hown, hts⟩
  refine lv_iconst (v := nI 1) hx hb dL_most_319 (by decide) ?_
  refine lv_goto (tgt := 324) hx hb dL_most_320 (by decide) ?_
  exact K _ _ _ hS hCW hl
theorem ml_in {p : Program} {l : Launch} {e : Env} {s : State} {m : MethodId} {args : Array Value} {below : List Frame} {meth : Method} {c : Code} {Q : State → Prop} {G : GG} {a : Nat → Nat} {t9 : Nat} (J : LJ p l s m meth c args cL_most (some .boolean) 2 wsL_most G a t9) (hA : ∀ k, s.heap.size ≤ a k) (K : ∀ (H : Heap) (locs : List Loc) (ls : Array Slot), va_S (fun q : Nat => s.heap.size ≤ q) s.heap H locs → CW G a (mI 30) H → lv_has ls 2 [(1, .int (nI 31)), (0, .ref (a 0))] → W p l e ({ frames := 11, cells := 1924, slots := 17858, locals := 225 } : Room) s m args below meth c H locs (155) (7244) Q (F0 m 48 ls [])) : ∀ (n k : Nat), n + k = 30 → ∀ {H : Heap} {locs : List Loc} {ls : Array Slot}, va_S (fun q : Nat => s.heap.size ≤ q) s.heap H locs → CW G a (mI k) H → lv_has ls 2 [(1, .int (nI k)), (0, .ref (a 0))] → W p l e ({ frames := 11, cells := 1924, slots := 17858, locals := 225 } : Room) s m args below meth c H locs (93 + 2 * k) (6872 + 12 * k) Q (F0 m 10 ls []) := by
  intro n
  induction n with
  | zero =>
    intro k hk H locs ls hS hCW hl
    obtain rfl : k = 30 := by omega
    exact ms_inx J hA (mI_ok 30 (by decide)).1 (mI_ok 30 (by decide)).2.2.1 _ _ (by decide) (by decide) hS hCW hl K
  | succ n ih =>
    intro k hk H locs ls hS hCW hl
    have h := mI_ok k (by omega)
    exact ms_in J hA h.1 (by omega) h.2.1 h.2.2.1 _ _ (by omega) (by omega) hS hCW hl (fun H locs ls hS hCW hl => wid (by omega) (by omega) (ih (k + 1) (by omega) hS hCW hl))
theorem ml_g {p : Program} {l : Launch} {e : Env} {s : State} {m : MethodId} {args : Array Value} {below : List Frame} {meth : Method} {c : Code} {Q : State → Prop} {G : GG} {a : Nat → Nat} {t9 : Nat} (J : LJ p l s m meth c args cL_most (some .boolean) 2 wsL_most G a t9) (hA : ∀ k, s.heap.size ≤ a k) (K : ∀ (H : Heap) (locs : List Loc) (ls : Array Slot), va_S (fun q : Nat => s.heap.size ≤ q) s.heap H locs → CW G a (mG 90) H → lv_has ls 2 [(1, .int (nI 121)), (0, .ref (a 0))] → W p l e ({ frames := 11, cells := 1924, slots := 17858, locals := 225 } : Room) s m args below meth c H locs (610) (9974) Q (F0 m 112 ls [])) : ∀ (n j : Nat), 0 < j → n + j = 90 → ∀ {H : Heap} {locs : List Loc} {ls : Array Slot}, va_S (fun q : Nat => s.heap.size ≤ q) s.heap H locs → CW G a (mG j) H → lv_has ls 2 [(1, .int (nI (30 + j))), (0, .ref (a 0))] → W p l e ({ frames := 11, cells := 1924, slots := 17858, locals := 225 } : Room) s m args below meth c H locs (155 + 5 * j) (7244 + 30 * j) Q (F0 m 51 ls []) := by
  intro n
  induction n with
  | zero =>
    intro j h0 hj H locs ls hS hCW hl
    obtain rfl : j = 90 := by omega
    exact ms_gx J hA (mG_ok 90 (by decide)).1 (mG_ok 90 (by decide)).2.1 _ _ (by decide) (by decide) hS hCW hl K
  | succ n ih =>
    intro j h0 hj H locs ls hS hCW hl
    have h := mG_ok j (by omega)
    refine ms_g J hA h.1 h0 (by omega) h.2.1 _ _ (by omega) (by omega) hS hCW hl (fun H locs ls hS hCW hl => wid (by omega) (by omega) (ih (j + 1) (by omega) (by omega) hS ?_ hl))
    show CW G a (gaS (mG j) 1 (if j = 0 then 1 else 3) (if j = 0 then 0 else 29 + j) (ix (nI 29))) H
    rw [if_neg (by omega), if_neg (by omega)]
    exact hCW
theorem ml_o {p : Program} {l : Launch} {e : Env} {s : State} {m : MethodId} {args : Array Value} {below : List Frame} {meth : Method} {c : Code} {Q : State → Prop} {G : GG} {a : Nat → Nat} {t9 : Nat} (J : LJ p l s m meth c args cL_most (some .boolean) 2 wsL_most G a t9) (hA : ∀ k, s.heap.size ≤ a k) (K : ∀ (H : Heap) (locs : List Loc) (ls : Array Slot), va_S (fun q : Nat => s.heap.size ≤ q) s.heap H locs → CW G a (mO 16) H → lv_has ls 2 [(1, .int (nI 17)), (0, .ref (a 0))] → W p l e ({ frames := 11, cells := 1924, slots := 17858, locals := 225 } : Room) s m args below meth c H locs (661) (10280) Q (F0 m 155 ls [])) : ∀ (n k : Nat), n + k = 16 → ∀ {H : Heap} {locs : List Loc} {ls : Array Slot}, va_S (fun q : Nat => s.heap.size ≤ q) s.heap H locs → CW G a (mO k) H → lv_has ls 2 [(1, .int (nI k)), (0, .ref (a 0))] → W p l e ({ frames := 11, cells := 1924, slots := 17858, locals := 225 } : Room) s m args below meth c H locs (610 + 3 * k) (9974 + 18 * k) Q (F0 m 114 ls []) := by
  intro n
  induction n with
  | zero =>
    intro k hk H locs ls hS hCW hl
    obtain rfl : k = 16 := by omega
    exact ms_ox J hA (mO_ok 16 (by decide)).1 (mO_ok 16 (by decide)).2.1 (mO_ok 16 (by decide)).2.2 _ _ (by decide) (by decide) hS hCW hl K
  | succ n ih =>
    intro k hk H locs ls hS hCW hl
    have h := mO_ok k (by omega)
    exact ms_o J hA h.1 (by omega) h.2.1 h.2.2 _ _ (by omega) (by omega) hS hCW hl (fun H locs ls hS hCW hl => wid (by omega) (by omega) (ih (k + 1) (by omega) hS hCW hl))
set_option maxRecDepth 20000 in
theorem inL_most_11 : ∀ w ∈ u_ws RX11 TX11 12, w ∈ wsL_most := by decide +kernel
set_option maxHeartbeats 4000000 in
set_option maxRecDepth 100000 in
theorem w_most (l : Launch) (hfl : l.stackTraces = false) (G : GG) (d : Nat → Nat) (t9 : Nat) : Met l yL_most wsL_most ({ frames := 11, cells := 1924, slots := 17858, locals := 225 } : Room) (PcN G d t9 [] (fun H => ∀ q, H.size ≤ q → inM d q)) (QI (fun (r : Int32) (_ : Unit) => r = nI 1) (fun _ _ => True) nA) 1924 17858 nA := by
  refine Met.ofW (cc := cL_most) (maxL := 2) (ret := (some .boolean)) (by decide) rfl ?_
  intro p e s m args below meth c s₁ B hml hv
  obtain ⟨⟨⟨⟨⟨rfl, hIn, hK, hNW⟩, hLow0⟩, hX0⟩, hNC⟩, hNI, hAO⟩ := hv
  obtain ⟨a, hab⟩ : ∃ a : Nat → Nat, ∀ k, a k = s.heap.size + k := ⟨_, fun _ => rfl⟩
  have ha : Inj a := fun i j h => by rw [hab, hab] at h; omega
  have hA : ∀ k, s.heap.size ≤ a k := fun k => by rw [hab]; omega
  have hI : ∀ q, s.heap.size ≤ q → inM a q := fun q h => ⟨q - s.heap.size, by rw [hab]; omega⟩
  have hda : ∀ q, inM a q → inM d q := fun q h => hIn q (by obtain ⟨k, e⟩ := h; rw [e]; exact hA k)
  have hLow := hLow0.nar hda
  have hX := hX0.nar hda
  have hx := B.exec
  have hb := B.bytes
  have hr := B.returns
  have hts := atoms_spec (ws := wsL_most) B.pre
  have hown : s.vm.findClass RL = some m.cls := findClass_of_methodNamed B.named
  have hlocks := B.notSynchronized
  have FX : CallFix p m c cL_most 2 s ([] : List Value).toArray wsL_most RL := ⟨hx, hb, hml, hown, hts⟩
  have J : LJ p l s m meth c ([] : List Value).toArray cL_most (some .boolean) 2 wsL_most G a t9 := ⟨hfl, hx, hb, hr, hml, hown, hts, hlocks, ha, hK, hNW, hLow, hX, hNC⟩
  have hl := lv_entry ([]) (n := 2) (Nat.le_of_ble_eq_true rfl)
  rw [lg_entry_eq]
  generalize (lg_sl ([]) ++ List.replicate (2 - (lg_sl ([])).length) Slot.unset).toArray = ls at hl ⊢
  have hl : lv_has ls 2 [] := hl
  have hS : va_S (fun q : Nat => s.heap.size ≤ q) s.heap s.heap [] := va_S.rf
  refine pp_new (a := a) (b0 := s.heap.size) (ci := 11) (fs := [.null, .null, .null, .null, .null, .null, .null, .null, .null, .null, .null, .null]) (C := RX11) (T := TX11) (N := 12) hx hb hts inL_most_11 tyX11 tyX11_ok hown (hts (.classLink RL 8 RX11) (List.mem_of_getElem? (i := 1) (by decide +kernel))) (hts (.instantiable RX11 12) (List.mem_of_getElem? (i := 2) (by decide +kernel))) (hts (.initialized RX11) (List.mem_of_getElem? (i := 3) (by decide +kernel))) hK rfl (fun j hj => by rcases (show j = 0 ∨ j = 1 ∨ j = 2 ∨ j = 3 ∨ j = 4 ∨ j = 5 ∨ j = 6 ∨ j = 7 ∨ j = 8 ∨ j = 9 ∨ j = 10 ∨ j = 11 by omega) with rfl | rfl | rfl | rfl | rfl | rfl | rfl | rfl | rfl | rfl | rfl | rfl <;> rfl) hab (j := 0) rfl (j1 := 1) rfl hS (Nat.le_of_ble_eq_true rfl) (Nat.le_of_ble_eq_true rfl) dL_most_0 (fun H hP9 hk1 hZ hS => ?_)
  refine lv_dup hx hb dL_most_3 rfl ?_
  refine wr_v (va_runI (As := []) (rest := [.ref (a 0)]) FX (c_X11_init l G a s.heap.size hab) (cwI 0 hts gL_most_X11_init rfl rfl rfl (hts (.initialized RX11) (List.mem_of_getElem? (i := 3) (by decide +kernel))) (hts (.methodLink RL 92 yX11_init) (List.mem_of_getElem? (i := 7) (by decide +kernel))) (hts (.instanceMethod yX11_init) (List.mem_of_getElem? (i := 8) (by decide +kernel))) rfl (by decide +kernel) ⟨Nat.le_of_ble_eq_true rfl, Nat.le_of_ble_eq_true rfl⟩) (preI hK hNW ⟨hZ, hP9⟩ hNI hAO) rfl rfl hl.1 rfl (lv_room (Nat.le_of_ble_eq_true rfl)) dL_most_4 ⟨Nat.le_of_ble_eq_true rfl, Nat.le_of_ble_eq_true rfl⟩) hS (rng_ge hA) (fun _ H locs _ hB hk2 hS => ?_)
  obtain ⟨c1, c2, c3, c4, c5, c6, c7, c8, c9, c10, c11, c12, c13, c14⟩ := hB
  obtain ⟨m1, m2, m3, m4, m5, m6, m7, m8⟩ := mak_0 c5
  have hCW : CW G a st0 H := ⟨c1, c2, c3, c4, m1, m2, m3, m4, m5, m6, m7, m8, ⟨_, _, _, c6⟩, ⟨_, _, c7⟩, ⟨_, _, c8⟩, ⟨_, _, c9⟩, ⟨_, _, _, c10⟩, ⟨_, _, c11⟩, ⟨_, c12⟩, ⟨_, _, _, _, _, c13⟩, c14⟩
  refine lv_astore_n (lv' := [(0, .ref (a 0))]) hx hb dL_most_7 rfl hl (by decide) rfl (fun ls hl => ?_)
  refine lv_iconst (v := nI 0) hx hb dL_most_8 (by decide) ?_
  refine lv_istore_n (lv' := [(1, .int (nI 0)), (0, .ref (a 0))]) hx hb dL_most_9 rfl hl (by decide) rfl (fun ls hl => ?_)
  refine ml_in J hA (fun H locs ls hS hCW hl => ?_) 30 0 rfl hS hCW (lv_sub hl [0, 1] rfl)
  refine lv_bipush (v := nI 30) hx hb dL_most_48 (by decide) ?_
  refine lv_istore_n (lv' := [(1, .int (nI 30)), (0, .ref (a 0))]) hx hb dL_most_50 rfl hl (by decide) rfl (fun ls hl => ?_)
  refine ms_g0 J hA (mI_ok 30 (by decide)).1 (mI_ok 30 (by decide)).2.1 _ _ (by decide) (by decide) hS hCW (lv_sub hl [0, 1] rfl) (fun H locs ls hS hCW hl => ?_)
  refine wid (k := 160) (n := 7274) (by decide) (by decide) (ml_g J hA (fun H locs ls hS hCW hl => ?_) 89 1 (by decide) rfl hS hCW hl)
  refine lv_iconst (v := nI 0) hx hb dL_most_112 (by decide) ?_
  refine lv_istore_n (lv' := [(1, .int (nI 0)), (0, .ref (a 0))]) hx hb dL_most_113 rfl hl (by decide) rfl (fun ls hl => ?_)
  refine ml_o J hA (fun H locs ls hS hCW hl => ?_) 16 0 rfl hS hCW (lv_sub hl [0, 1] rfl)
  exact t_most_1 J hA hNI hAO hI hS hCW hl (fun H locs ls hS hCW hl => t_most_2 J hA hNI hAO hI hS hCW hl (fun H locs ls hS hCW hl => fin_own hS (fun hS => en_wz () hx hb hr hlocks hS nw1 rfl trivial dL_most_324)))
