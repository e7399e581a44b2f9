/-! refuses: what there is not is refused, nothing changes -/
set_option maxHeartbeats 4000000 in
set_option maxRecDepth 100000 in
theorem rf_0 {p : Program} {l : Launch} {e : Env} {s : State} {m : MethodId} {args : Array Value} {below : List Frame} {meth : Method} {c : Code} {Q : State → Prop} {G : GG} {a : Nat → Nat} {t9 : Nat} (J : LJ p l s m meth c args cL_refuses (some .boolean) 12 wsL_refuses G a t9) {st : ST} (hO : OKS st) {bf : Int32}  (c0 s0 : Nat) (hc : c0 + 8 ≤ 1200) (hs : s0 + 48 ≤ 7200) {H : Heap} {locs : List Loc} {ls : Array Slot} (hS : va_S (rng a 0 93) s.heap H locs) (hCW : CW G a st H) (hl : lv_has ls 12 [(0, .ref (a 0))]) (K : ∀ (H : Heap) (locs : List Loc) (ls : Array Slot), va_S (rng a 0 93) s.heap H locs → CW G a st H → lv_has ls 12 [(3, .int (nI 0)), (2, .int ((((nI (nG (st.1 0))) + ((nI 200) * (nI (nG (st.1 1))))) + ((nI 40000) * (nI (nG (st.1 2))))) + ((nI 8000000) * (nI (nG (st.1 3)))))), (1, .int (nI 2147483647)), (0, .ref (a 0))] → W p l e ({ frames := 10, cells := 1200, slots := 7200, locals := 194 } : Room) s m args below meth c H locs (c0 + 8) (s0 + 48) Q (F0 m 43 ls [])) : W p l e ({ frames := 10, cells := 1200, slots := 7200, locals := 194 } : Room) s m args below meth c H locs c0 s0 Q (F0 m 0 ls []) := by
  obtain ⟨hfl, hx, hb, hr, hml, hown, hts, hlocks, ha, hK, hNW, hLow, hX, hNC⟩ := J
  have FX : CallFix p m c cL_refuses 12 s args wsL_refuses RL := ⟨hx, hb, hml, hown, hts⟩
  refine lv_ldc (v := nI 2147483647) hx hb hown (hts (.constant RL 82 (2147483647)) (List.mem_of_getElem? (i := 1) (by decide +kernel))) dL_refuses_0 ?_
  refine lv_istore_n (lv' := [(1, .int (nI 2147483647)), (0, .ref (a 0))]) hx hb dL_refuses_2 rfl hl (by decide) rfl (fun ls hl => ?_)
  refine lv_aload_n hx hb dL_refuses_3 rfl (lv_at hl 1 rfl) ?_
  refine lv_iconst (v := nI 0) hx hb dL_refuses_4 (by decide) ?_
  refine lv_iconst (v := nI 0) hx hb dL_refuses_5 (by decide) ?_
  refine wr_i (va_runV (As := [.int (nI 0), .int (nI 0)]) (rest := []) FX (n_ofNet l hfl G a ha t9 st 0 0 hO (by decide) (by decide)) (cwV 2 hts gL_refuses_X11_ofNet rfl rfl rfl (by decide +kernel) ⟨Nat.le_of_ble_eq_true rfl, Nat.le_of_ble_eq_true rfl⟩) (preVX hK hNW hCW (hLow.at hS (fun q9 _ q => rng_M q9 q)) (hX.at hS (fun q9 _ q => rng_M q9 q)) (cw_recv hK hCW)) rfl rfl hl.1 rfl (lv_room (Nat.le_of_ble_eq_true rfl)) dL_refuses_6 (rmx (m := 1200) (n := 7200) (by omega) (by omega))) hS (fun q h => h) (fun r _ H locs hp hCW hk hS => ?_)
  refine lv_as (y := nI (nG (st.1 0))) (hp.trans (of_0 rfl)) ?_
  refine lv_sipush (v := nI 200) hx hb dL_refuses_9 (by decide) ?_
  refine lv_aload_n hx hb dL_refuses_12 rfl (lv_at hl 1 rfl) ?_
  refine lv_iconst (v := nI 1) hx hb dL_refuses_13 (by decide) ?_
  refine lv_iconst (v := nI 0) hx hb dL_refuses_14 (by decide) ?_
  refine wr_i (va_runV (As := [.int (nI 1), .int (nI 0)]) (rest := [.int (nI 200), .int (nI (nG (st.1 0)))]) FX (n_ofNet l hfl G a ha t9 st 1 0 hO (by decide) (by decide)) (cwV 2 hts gL_refuses_X11_ofNet rfl rfl rfl (by decide +kernel) ⟨Nat.le_of_ble_eq_true rfl, Nat.le_of_ble_eq_true rfl⟩) (preVX hK hNW hCW (hLow.at hS (fun q9 _ q => rng_M q9 q)) (hX.at hS (fun q9 _ q => rng_M q9 q)) (cw_recv hK hCW)) rfl rfl hl.1 rfl (lv_room (Nat.le_of_ble_eq_true rfl)) dL_refuses_15 (rmx (m := 1200) (n := 7200) (by omega) (by omega))) hS (fun q h => h) (fun r _ H locs hp hCW hk hS => ?_)
  refine lv_as (y := nI (nG (st.1 1))) (hp.trans (of_0 rfl)) ?_
  refine lv_imul hx hb dL_refuses_18 ?_
  refine lv_iadd hx hb dL_refuses_19 ?_
  refine lv_ldc (v := nI 40000) hx hb hown (hts (.constant RL 83 (40000)) (List.mem_of_getElem? (i := 2) (by decide +kernel))) dL_refuses_20 ?_
  refine lv_aload_n hx hb dL_refuses_22 rfl (lv_at hl 1 rfl) ?_
  refine lv_iconst (v := nI 2) hx hb dL_refuses_23 (by decide) ?_
  refine lv_iconst (v := nI 0) hx hb dL_refuses_24 (by decide) ?_
  refine wr_i (va_runV (As := [.int (nI 2), .int (nI 0)]) (rest := [.int (nI 40000), .int ((nI (nG (st.1 0))) + ((nI 200) * (nI (nG (st.1 1)))))]) FX (n_ofNet l hfl G a ha t9 st 2 0 hO (by decide) (by decide)) (cwV 2 hts gL_refuses_X11_ofNet rfl rfl rfl (by decide +kernel) ⟨Nat.le_of_ble_eq_true rfl, Nat.le_of_ble_eq_true rfl⟩) (preVX hK hNW hCW (hLow.at hS (fun q9 _ q => rng_M q9 q)) (hX.at hS (fun q9 _ q => rng_M q9 q)) (cw_recv hK hCW)) rfl rfl hl.1 rfl (lv_room (Nat.le_of_ble_eq_true rfl)) dL_refuses_25 (rmx (m := 1200) (n := 7200) (by omega) (by omega))) hS (fun q h => h) (fun r _ H locs hp hCW hk hS => ?_)
  refine lv_as (y := nI (nG (st.1 2))) (hp.trans (of_0 rfl)) ?_
  refine lv_imul hx hb dL_refuses_28 ?_
  refine lv_iadd hx hb dL_refuses_29 ?_
  refine lv_ldc (v := nI 8000000) hx hb hown (hts (.constant RL 84 (8000000)) (List.mem_of_getElem? (i := 3) (by decide +kernel))) dL_refuses_30 ?_
  refine lv_aload_n hx hb dL_refuses_32 rfl (lv_at hl 1 rfl) ?_
  refine lv_iconst (v := nI 3) hx hb dL_refuses_33 (by decide) ?_
  refine lv_iconst (v := nI 0) hx hb dL_refuses_34 (by decide) ?_
  refine wr_i (va_runV (As := [.int (nI 3), .int (nI 0)]) (rest := [.int (nI 8000000), .int (((nI (nG (st.1 0))) + ((nI 200) * (nI (nG (st.1 1))))) + ((nI 40000) * (nI (nG (st.1 2)))))]) FX (n_ofNet l hfl G a ha t9 st 3 0 hO (by decide) (by decide)) (cwV 2 hts gL_refuses_X11_ofNet rfl rfl rfl (by decide +kernel) ⟨Nat.le_of_ble_eq_true rfl, Nat.le_of_ble_eq_true rfl⟩) (preVX hK hNW hCW (hLow.at hS (fun q9 _ q => rng_M q9 q)) (hX.at hS (fun q9 _ q => rng_M q9 q)) (cw_recv hK hCW)) rfl rfl hl.1 rfl (lv_room (Nat.le_of_ble_eq_true rfl)) dL_refuses_35 (rmx (m := 1200) (n := 7200) (by omega) (by omega))) hS (fun q h => h) (fun r _ H locs hp hCW hk hS => ?_)
  refine lv_as (y := nI (nG (st.1 3))) (hp.trans (of_0 rfl)) ?_
  refine lv_imul hx hb dL_refuses_38 ?_
  refine lv_iadd hx hb dL_refuses_39 ?_
  refine lv_istore_n (lv' := [(2, .int ((((nI (nG (st.1 0))) + ((nI 200) * (nI (nG (st.1 1))))) + ((nI 40000) * (nI (nG (st.1 2))))) + ((nI 8000000) * (nI (nG (st.1 3)))))), (1, .int (nI 2147483647)), (0, .ref (a 0))]) hx hb dL_refuses_40 rfl hl (by decide) rfl (fun ls hl => ?_)
  refine lv_iconst (v := nI 0) hx hb dL_refuses_41 (by decide) ?_
  refine lv_istore_n (lv' := [(3, .int (nI 0)), (2, .int ((((nI (nG (st.1 0))) + ((nI 200) * (nI (nG (st.1 1))))) + ((nI 40000) * (nI (nG (st.1 2))))) + ((nI 8000000) * (nI (nG (st.1 3)))))), (1, .int (nI 2147483647)), (0, .ref (a 0))]) hx hb dL_refuses_42 rfl hl (by decide) rfl (fun ls hl => ?_)
  exact wid (by omega) (by omega) (K _ _ _ hS hCW hl)
set_option maxHeartbeats 4000000 in
set_option maxRecDepth 100000 in
theorem rf_A0 {p : Program} {l : Launch} {e : Env} {s : State} {m : MethodId} {args : Array Value} {below : List Frame} {meth : Method} {c : Code} {Q : State → Prop} {G : GG} {a : Nat → Nat} {t9 : Nat} (J : LJ p l s m meth c args cL_refuses (some .boolean) 12 wsL_refuses G a t9) {st : ST} (hO : OKS st) {bf : Int32}  (c0 s0 : Nat) (hc : c0 + 67 ≤ 1200) (hs : s0 + 402 ≤ 7200) {H : Heap} {locs : List Loc} {ls : Array Slot} (hS : va_S (rng a 0 93) s.heap H locs) (hCW : CW G a st H) (hl : lv_has ls 12 [(0, .ref (a 0)), (1, .int (nI 2147483647)), (2, .int bf), (3, .int (nI 0))]) (K : ∀ (H : Heap) (locs : List Loc) (ls : Array Slot), va_S (rng a 0 93) s.heap H locs → CW G a st H → lv_has ls 12 [(8, .int (nI 1)), (7, .int (-2147483648)), (6, .int (-1)), (5, .int (-1)), (4, .int (-1)), (0, .ref (a 0)), (1, .int (nI 2147483647)), (2, .int bf), (3, .int (nI 0))] → W p l e ({ frames := 10, cells := 1200, slots := 7200, locals := 194 } : Room) s m args below meth c H locs (c0 + 67) (s0 + 402) Q (F0 m 592 ls [])) : W p l e ({ frames := 10, cells := 1200, slots := 7200, locals := 194 } : Room) s m args below meth c H locs c0 s0 Q (F0 m 43 ls []) := by
  obtain ⟨hfl, hx, hb, hr, hml, hown, hts, hlocks, ha, hK, hNW, hLow, hX, hNC⟩ := J
  have FX : CallFix p m c cL_refuses 12 s args wsL_refuses RL := ⟨hx, hb, hml, hown, hts⟩
  refine lv_iload_n hx hb dL_refuses_43 rfl (lv_at hl 3 rfl) ?_
  refine lv_iconst (v := nI 4) hx hb dL_refuses_44 (by decide) ?_
  refine lv_icmp_ge (tgt := 1204) hx hb dL_refuses_45 (by decide) (fun c => absurd c (by decide)) (fun _ => ?_)
  refine lv_iload_n hx hb dL_refuses_48 rfl (lv_at hl 3 rfl) ?_
  refine lv_if_ne (tgt := 56) hx hb dL_refuses_49 (by decide) (fun c => absurd c (by decide)) (fun _ => ?_)
  refine lv_iconst (v := -1) hx hb dL_refuses_52 (by decide) ?_
  refine lv_goto (tgt := 69) hx hb dL_refuses_53 (by decide) ?_
  refine lv_istore (lv' := [(4, .int (-1)), (0, .ref (a 0)), (1, .int (nI 2147483647)), (2, .int bf), (3, .int (nI 0))]) hx hb dL_refuses_69 hl (by decide) rfl (fun ls hl => ?_)
  refine lv_iload_n hx hb dL_refuses_71 rfl (lv_at hl 4 rfl) ?_
  refine lv_iconst (v := nI 1) hx hb dL_refuses_72 (by decide) ?_
  refine lv_icmp_ne (tgt := 80) hx hb dL_refuses_73 (by decide) (fun _ => ?_) (fun c => absurd c (by decide))
  refine lv_iload hx hb dL_refuses_80 (lv_at hl 0 rfl) ?_
  refine lv_istore (lv' := [(5, .int (-1)), (4, .int (-1)), (0, .ref (a 0)), (1, .int (nI 2147483647)), (2, .int bf), (3, .int (nI 0))]) hx hb dL_refuses_82 hl (by decide) rfl (fun ls hl => ?_)
  refine lv_iload_n hx hb dL_refuses_84 rfl (lv_at hl 5 rfl) ?_
  refine lv_iconst (v := nI 1) hx hb dL_refuses_85 (by decide) ?_
  refine lv_icmp_ne (tgt := 94) hx hb dL_refuses_86 (by decide) (fun _ => ?_) (fun c => absurd c (by decide))
  refine lv_iload hx hb dL_refuses_94 (lv_at hl 1 rfl) ?_
  refine lv_istore (lv' := [(6, .int (-1)), (5, .int (-1)), (4, .int (-1)), (0, .ref (a 0)), (1, .int (nI 2147483647)), (2, .int bf), (3, .int (nI 0))]) hx hb dL_refuses_96 hl (by decide) rfl (fun ls hl => ?_)
  refine lv_iload_n hx hb dL_refuses_98 rfl (lv_at hl 6 rfl) ?_
  refine lv_iconst (v := nI 2) hx hb dL_refuses_99 (by decide) ?_
  refine lv_icmp_ne (tgt := 107) hx hb dL_refuses_100 (by decide) (fun _ => ?_) (fun c => absurd c (by decide))
  refine lv_iload_n hx hb dL_refuses_107 rfl (lv_at hl 6 rfl) ?_
  refine lv_iconst (v := nI 1) hx hb dL_refuses_108 (by decide) ?_
  refine lv_icmp_ne (tgt := 117) hx hb dL_refuses_109 (by decide) (fun _ => ?_) (fun c => absurd c (by decide))
  refine lv_iload_n hx hb dL_refuses_117 rfl (lv_at hl 4 rfl) ?_
  refine lv_ineg hx hb dL_refuses_118 ?_
  refine lv_as (y := -2147483647) (by decide) ?_
  refine lv_iconst (v := nI 1) hx hb dL_refuses_119 (by decide) ?_
  refine lv_isub hx hb dL_refuses_120 ?_
  refine lv_as (y := -2147483648) (by decide) ?_
  refine lv_istore (lv' := [(7, .int (-2147483648)), (6, .int (-1)), (5, .int (-1)), (4, .int (-1)), (0, .ref (a 0)), (1, .int (nI 2147483647)), (2, .int bf), (3, .int (nI 0))]) hx hb dL_refuses_121 hl (by decide) rfl (fun ls hl => ?_)
  refine lv_aload_n hx hb dL_refuses_123 rfl (lv_at hl 4 rfl) ?_
  refine lv_iconst (v := nI 0) hx hb dL_refuses_124 (by decide) ?_
  refine lv_iload hx hb dL_refuses_125 (lv_at hl 2 rfl) ?_
  refine lv_iconst (v := nI 0) hx hb dL_refuses_127 (by decide) ?_
  refine lv_iconst (v := nI 0) hx hb dL_refuses_128 (by decide) ?_
  refine lv_iconst (v := nI 0) hx hb dL_refuses_129 (by decide) ?_
  have hC : cIn st.1 (-1) = 1 := rc_in (by decide)
  refine wr_i (vx_run0 (vx_runSX (As := [.ref (a 0), .int (nI 0), .int (-1), .int (nI 0), .int (nI 0), .int (nI 0)]) (rest := []) FX (w_act_input l hfl G a ha t9 st (-1) (nI 0) (nI 0) (nI 0) hO) (vx_cwSW 6 hts gL_refuses_L_act rfl rfl rfl (by decide +kernel) ⟨Nat.le_of_ble_eq_true rfl, Nat.le_of_ble_eq_true rfl⟩) (preW hK hNW hCW (hLow.at hS (fun q9 _ q => rng_M q9 q)) (hX.at hS (fun q9 _ q => rng_M q9 q)) hNC) rfl rfl hl.1 rfl (lv_room (Nat.le_of_ble_eq_true rfl)) dL_refuses_130 (rmx (m := 1200) (n := 7200) (by omega) (by omega)))) hS (fun q h => h) (fun r _ H locs hp hCW hk hS => ?_)
  refine lv_as (y := -7000001) (hp.2.1 hC) ?_
  rw [stN_n hC (by decide)] at hCW
  have hCW : CW G a st H := hCW
  refine lv_ldc (v := -7000001) hx hb hown (hts (.constant RL 75 (-7000001)) (List.mem_of_getElem? (i := 5) (by decide +kernel))) dL_refuses_133 ?_
  refine lv_icmp_ne (tgt := 589) hx hb dL_refuses_135 (by decide) (fun c => absurd c (by decide)) (fun _ => ?_)
  refine lv_aload_n hx hb dL_refuses_138 rfl (lv_at hl 4 rfl) ?_
  refine lv_iconst (v := nI 1) hx hb dL_refuses_139 (by decide) ?_
  refine lv_iload hx hb dL_refuses_140 (lv_at hl 2 rfl) ?_
  refine lv_iconst (v := nI 0) hx hb dL_refuses_142 (by decide) ?_
  refine lv_iconst (v := nI 0) hx hb dL_refuses_143 (by decide) ?_
  refine lv_iconst (v := nI 0) hx hb dL_refuses_144 (by decide) ?_
  have hC : cGa st.1 (-1) (nI 0) (nI 0) (nI 0) = 1 := rc_ga (by decide)
  refine wr_i (vx_run0 (vx_runSX (As := [.ref (a 0), .int (nI 1), .int (-1), .int (nI 0), .int (nI 0), .int (nI 0)]) (rest := []) FX (w_act_gate l hfl G a ha t9 st (-1) (nI 0) (nI 0) (nI 0) hO) (vx_cwSW 6 hts gL_refuses_L_act rfl rfl rfl (by decide +kernel) ⟨Nat.le_of_ble_eq_true rfl, Nat.le_of_ble_eq_true rfl⟩) (preW hK hNW hCW (hLow.at hS (fun q9 _ q => rng_M q9 q)) (hX.at hS (fun q9 _ q => rng_M q9 q)) hNC) rfl rfl hl.1 rfl (lv_room (Nat.le_of_ble_eq_true rfl)) dL_refuses_145 (rmx (m := 1200) (n := 7200) (by omega) (by omega)))) hS (fun q h => h) (fun r _ H locs hp hCW hk hS => ?_)
  refine lv_as (y := -7000001) (hp.2.1 hC) ?_
  rw [stN_n hC (by decide)] at hCW
  have hCW : CW G a st H := hCW
  refine lv_ldc (v := -7000001) hx hb hown (hts (.constant RL 75 (-7000001)) (List.mem_of_getElem? (i := 5) (by decide +kernel))) dL_refuses_148 ?_
  refine lv_icmp_ne (tgt := 589) hx hb dL_refuses_150 (by decide) (fun c => absurd c (by decide)) (fun _ => ?_)
  refine lv_aload_n hx hb dL_refuses_153 rfl (lv_at hl 4 rfl) ?_
  refine lv_iconst (v := nI 1) hx hb dL_refuses_154 (by decide) ?_
  refine lv_iconst (v := nI 0) hx hb dL_refuses_155 (by decide) ?_
  refine lv_iload hx hb dL_refuses_156 (lv_at hl 2 rfl) ?_
  refine lv_iconst (v := nI 0) hx hb dL_refuses_158 (by decide) ?_
  refine lv_iconst (v := nI 0) hx hb dL_refuses_159 (by decide) ?_
  have hC : cGa st.1 (nI 0) (-1) (nI 0) (nI 0) = 1 := rc_gk (by decide)
  refine wr_i (vx_run0 (vx_runSX (As := [.ref (a 0), .int (nI 1), .int (nI 0), .int (-1), .int (nI 0), .int (nI 0)]) (rest := []) FX (w_act_gate l hfl G a ha t9 st (nI 0) (-1) (nI 0) (nI 0) hO) (vx_cwSW 6 hts gL_refuses_L_act rfl rfl rfl (by decide +kernel) ⟨Nat.le_of_ble_eq_true rfl, Nat.le_of_ble_eq_true rfl⟩) (preW hK hNW hCW (hLow.at hS (fun q9 _ q => rng_M q9 q)) (hX.at hS (fun q9 _ q => rng_M q9 q)) hNC) rfl rfl hl.1 rfl (lv_room (Nat.le_of_ble_eq_true rfl)) dL_refuses_160 (rmx (m := 1200) (n := 7200) (by omega) (by omega)))) hS (fun q h => h) (fun r _ H locs hp hCW hk hS => ?_)
  refine lv_as (y := -7000001) (hp.2.1 hC) ?_
  rw [stN_n hC (by decide)] at hCW
  have hCW : CW G a st H := hCW
  refine lv_ldc (v := -7000001) hx hb hown (hts (.constant RL 75 (-7000001)) (List.mem_of_getElem? (i := 5) (by decide +kernel))) dL_refuses_163 ?_
  refine lv_icmp_ne (tgt := 589) hx hb dL_refuses_165 (by decide) (fun c => absurd c (by decide)) (fun _ => ?_)
  refine lv_aload_n hx hb dL_refuses_168 rfl (lv_at hl 4 rfl) ?_
  refine lv_iconst (v := nI 2) hx hb dL_refuses_169 (by decide) ?_
  refine lv_iload hx hb dL_refuses_170 (lv_at hl 2 rfl) ?_
  refine lv_iconst (v := nI 0) hx hb dL_refuses_172 (by decide) ?_
  refine lv_iconst (v := nI 0) hx hb dL_refuses_173 (by decide) ?_
  refine lv_iconst (v := nI 0) hx hb dL_refuses_174 (by decide) ?_
  have hC : cOu st.1 (-1) (nI 0) = 1 := rc_ou (by decide)
  refine wr_i (vx_run0 (vx_runSX (As := [.ref (a 0), .int (nI 2), .int (-1), .int (nI 0), .int (nI 0), .int (nI 0)]) (rest := []) FX (w_act_out l hfl G a ha t9 st (-1) (nI 0) (nI 0) (nI 0) hO) (vx_cwSW 6 hts gL_refuses_L_act rfl rfl rfl (by decide +kernel) ⟨Nat.le_of_ble_eq_true rfl, Nat.le_of_ble_eq_true rfl⟩) (preW hK hNW hCW (hLow.at hS (fun q9 _ q => rng_M q9 q)) (hX.at hS (fun q9 _ q => rng_M q9 q)) hNC) rfl rfl hl.1 rfl (lv_room (Nat.le_of_ble_eq_true rfl)) dL_refuses_175 (rmx (m := 1200) (n := 7200) (by omega) (by omega)))) hS (fun q h => h) (fun r _ H locs hp hCW hk hS => ?_)
  refine lv_as (y := -7000001) (hp.2.1 hC) ?_
  rw [stN_n hC (by decide)] at hCW
  have hCW : CW G a st H := hCW
  refine lv_ldc (v := -7000001) hx hb hown (hts (.constant RL 75 (-7000001)) (List.mem_of_getElem? (i := 5) (by decide +kernel))) dL_refuses_178 ?_
  refine lv_icmp_ne (tgt := 589) hx hb dL_refuses_180 (by decide) (fun c => absurd c (by decide)) (fun _ => ?_)
  refine lv_aload_n hx hb dL_refuses_183 rfl (lv_at hl 4 rfl) ?_
  refine lv_iconst (v := nI 3) hx hb dL_refuses_184 (by decide) ?_
  refine lv_iload hx hb dL_refuses_185 (lv_at hl 2 rfl) ?_
  refine lv_bipush (v := nI 9) hx hb dL_refuses_187 (by decide) ?_
  refine lv_bipush (v := nI 9) hx hb dL_refuses_189 (by decide) ?_
  refine lv_iconst (v := nI 0) hx hb dL_refuses_191 (by decide) ?_
  have hC : cAd st.1 (-1) (nI 9) (nI 9) = 1 := rc_ad (by decide)
  refine wr_i (vx_run0 (vx_runSX (As := [.ref (a 0), .int (nI 3), .int (-1), .int (nI 9), .int (nI 9), .int (nI 0)]) (rest := []) FX (w_act_adder l hfl G a ha t9 st (-1) (nI 9) (nI 9) (nI 0) hO) (vx_cwSW 6 hts gL_refuses_L_act rfl rfl rfl (by decide +kernel) ⟨Nat.le_of_ble_eq_true rfl, Nat.le_of_ble_eq_true rfl⟩) (preW hK hNW hCW (hLow.at hS (fun q9 _ q => rng_M q9 q)) (hX.at hS (fun q9 _ q => rng_M q9 q)) hNC) rfl rfl hl.1 rfl (lv_room (Nat.le_of_ble_eq_true rfl)) dL_refuses_192 (rmx (m := 1200) (n := 7200) (by omega) (by omega)))) hS (fun q h => h) (fun r _ H locs hp hCW hk hS => ?_)
  refine lv_as (y := -7000001) (hp.2.1 hC) ?_
  rw [stN_n hC (by decide)] at hCW
  have hCW : CW G a st H := hCW
  refine lv_ldc (v := -7000001) hx hb hown (hts (.constant RL 75 (-7000001)) (List.mem_of_getElem? (i := 5) (by decide +kernel))) dL_refuses_195 ?_
  refine lv_icmp_ne (tgt := 589) hx hb dL_refuses_197 (by decide) (fun c => absurd c (by decide)) (fun _ => ?_)
  refine lv_aload_n hx hb dL_refuses_200 rfl (lv_at hl 4 rfl) ?_
  refine lv_iconst (v := nI 3) hx hb dL_refuses_201 (by decide) ?_
  refine lv_iconst (v := nI 0) hx hb dL_refuses_202 (by decide) ?_
  refine lv_iload_n hx hb dL_refuses_203 rfl (lv_at hl 7 rfl) ?_
  refine lv_iconst (v := nI 1) hx hb dL_refuses_204 (by decide) ?_
  refine lv_icmp_ne (tgt := 212) hx hb dL_refuses_205 (by decide) (fun _ => ?_) (fun c => absurd c (by decide))
  refine lv_iload hx hb dL_refuses_212 (lv_at hl 3 rfl) ?_
  refine lv_iconst (v := nI 1) hx hb dL_refuses_214 (by decide) ?_
  refine lv_iconst (v := nI 0) hx hb dL_refuses_215 (by decide) ?_
  have hC : cAd st.1 (nI 0) (-1) (nI 1) = 2 := rc_af (by decide) (by decide)
  refine wr_i (vx_run0 (vx_runSX (As := [.ref (a 0), .int (nI 3), .int (nI 0), .int (-1), .int (nI 1), .int (nI 0)]) (rest := []) FX (w_act_adder l hfl G a ha t9 st (nI 0) (-1) (nI 1) (nI 0) hO) (vx_cwSW 6 hts gL_refuses_L_act rfl rfl rfl (by decide +kernel) ⟨Nat.le_of_ble_eq_true rfl, Nat.le_of_ble_eq_true rfl⟩) (preW hK hNW hCW (hLow.at hS (fun q9 _ q => rng_M q9 q)) (hX.at hS (fun q9 _ q => rng_M q9 q)) hNC) rfl rfl hl.1 rfl (lv_room (Nat.le_of_ble_eq_true rfl)) dL_refuses_216 (rmx (m := 1200) (n := 7200) (by omega) (by omega)))) hS (fun q h => h) (fun r _ H locs hp hCW hk hS => ?_)
  refine lv_as (y := -7000002) (hp.2.2.1 hC) ?_
  rw [stN_n hC (by decide)] at hCW
  have hCW : CW G a st H := hCW
  refine lv_ldc (v := -7000002) hx hb hown (hts (.constant RL 78 (-7000002)) (List.mem_of_getElem? (i := 6) (by decide +kernel))) dL_refuses_219 ?_
  refine lv_icmp_ne (tgt := 589) hx hb dL_refuses_221 (by decide) (fun c => absurd c (by decide)) (fun _ => ?_)
  refine lv_aload_n hx hb dL_refuses_224 rfl (lv_at hl 4 rfl) ?_
  refine lv_iconst (v := nI 3) hx hb dL_refuses_225 (by decide) ?_
  refine lv_iconst (v := nI 0) hx hb dL_refuses_226 (by decide) ?_
  refine lv_iconst (v := nI 0) hx hb dL_refuses_227 (by decide) ?_
  refine lv_iload_n hx hb dL_refuses_228 rfl (lv_at hl 7 rfl) ?_
  refine lv_if_ne (tgt := 236) hx hb dL_refuses_229 (by decide) (fun c => absurd c (by decide)) (fun _ => ?_)
  refine lv_iconst (v := nI 0) hx hb dL_refuses_232 (by decide) ?_
  refine lv_goto (tgt := 248) hx hb dL_refuses_233 (by decide) ?_
  refine lv_iconst (v := nI 0) hx hb dL_refuses_248 (by decide) ?_
  have hC : cAd st.1 (nI 0) (nI 0) (nI 0) = 2 := rc_aw (by decide) (by decide)
  refine wr_i (vx_run0 (vx_runSX (As := [.ref (a 0), .int (nI 3), .int (nI 0), .int (nI 0), .int (nI 0), .int (nI 0)]) (rest := []) FX (w_act_adder l hfl G a ha t9 st (nI 0) (nI 0) (nI 0) (nI 0) hO) (vx_cwSW 6 hts gL_refuses_L_act rfl rfl rfl (by decide +kernel) ⟨Nat.le_of_ble_eq_true rfl, Nat.le_of_ble_eq_true rfl⟩) (preW hK hNW hCW (hLow.at hS (fun q9 _ q => rng_M q9 q)) (hX.at hS (fun q9 _ q => rng_M q9 q)) hNC) rfl rfl hl.1 rfl (lv_room (Nat.le_of_ble_eq_true rfl)) dL_refuses_249 (rmx (m := 1200) (n := 7200) (by omega) (by omega)))) hS (fun q h => h) (fun r _ H locs hp hCW hk hS => ?_)
  refine lv_as (y := -7000002) (hp.2.2.1 hC) ?_
  rw [stN_n hC (by decide)] at hCW
  have hCW : CW G a st H := hCW
  refine lv_ldc (v := -7000002) hx hb hown (hts (.constant RL 78 (-7000002)) (List.mem_of_getElem? (i := 6) (by decide +kernel))) dL_refuses_252 ?_
  refine lv_icmp_ne (tgt := 589) hx hb dL_refuses_254 (by decide) (fun c => absurd c (by decide)) (fun _ => ?_)
  refine lv_aload_n hx hb dL_refuses_257 rfl (lv_at hl 4 rfl) ?_
  refine lv_iconst (v := nI 4) hx hb dL_refuses_258 (by decide) ?_
  refine lv_iload hx hb dL_refuses_259 (lv_at hl 2 rfl) ?_
  refine lv_bipush (v := nI 9) hx hb dL_refuses_261 (by decide) ?_
  refine lv_iconst (v := nI 0) hx hb dL_refuses_263 (by decide) ?_
  refine lv_iconst (v := nI 0) hx hb dL_refuses_264 (by decide) ?_
  have hC : cMu st.1 (-1) (nI 9) = 1 := rc_mu (by decide)
  refine wr_i (vx_run0 (vx_runSX (As := [.ref (a 0), .int (nI 4), .int (-1), .int (nI 9), .int (nI 0), .int (nI 0)]) (rest := []) FX (w_act_multiplier l hfl G a ha t9 st (-1) (nI 9) (nI 0) (nI 0) hO) (vx_cwSW 6 hts gL_refuses_L_act rfl rfl rfl (by decide +kernel) ⟨Nat.le_of_ble_eq_true rfl, Nat.le_of_ble_eq_true rfl⟩) (preW hK hNW hCW (hLow.at hS (fun q9 _ q => rng_M q9 q)) (hX.at hS (fun q9 _ q => rng_M q9 q)) hNC) rfl rfl hl.1 rfl (lv_room (Nat.le_of_ble_eq_true rfl)) dL_refuses_265 (rmx (m := 1200) (n := 7200) (by omega) (by omega)))) hS (fun q h => h) (fun r _ H locs hp hCW hk hS => ?_)
  refine lv_as (y := -7000001) (hp.2.1 hC) ?_
  rw [stN_n hC (by decide)] at hCW
  have hCW : CW G a st H := hCW
  refine lv_ldc (v := -7000001) hx hb hown (hts (.constant RL 75 (-7000001)) (List.mem_of_getElem? (i := 5) (by decide +kernel))) dL_refuses_268 ?_
  refine lv_icmp_ne (tgt := 589) hx hb dL_refuses_270 (by decide) (fun c => absurd c (by decide)) (fun _ => ?_)
  refine lv_aload_n hx hb dL_refuses_273 rfl (lv_at hl 4 rfl) ?_
  refine lv_iconst (v := nI 4) hx hb dL_refuses_274 (by decide) ?_
  refine lv_iconst (v := nI 0) hx hb dL_refuses_275 (by decide) ?_
  refine lv_iload_n hx hb dL_refuses_276 rfl (lv_at hl 7 rfl) ?_
  refine lv_if_ne (tgt := 284) hx hb dL_refuses_277 (by decide) (fun c => absurd c (by decide)) (fun _ => ?_)
  refine lv_iconst (v := nI 0) hx hb dL_refuses_280 (by decide) ?_
  refine lv_goto (tgt := 295) hx hb dL_refuses_281 (by decide) ?_
  refine lv_iconst (v := nI 0) hx hb dL_refuses_295 (by decide) ?_
  refine lv_iconst (v := nI 0) hx hb dL_refuses_296 (by decide) ?_
  have hC : cMu st.1 (nI 0) (nI 0) = 2 := rc_mw (by decide) (by decide)
  refine wr_i (vx_run0 (vx_runSX (As := [.ref (a 0), .int (nI 4), .int (nI 0), .int (nI 0), .int (nI 0), .int (nI 0)]) (rest := []) FX (w_act_multiplier l hfl G a ha t9 st (nI 0) (nI 0) (nI 0) (nI 0) hO) (vx_cwSW 6 hts gL_refuses_L_act rfl rfl rfl (by decide +kernel) ⟨Nat.le_of_ble_eq_true rfl, Nat.le_of_ble_eq_true rfl⟩) (preW hK hNW hCW (hLow.at hS (fun q9 _ q => rng_M q9 q)) (hX.at hS (fun q9 _ q => rng_M q9 q)) hNC) rfl rfl hl.1 rfl (lv_room (Nat.le_of_ble_eq_true rfl)) dL_refuses_297 (rmx (m := 1200) (n := 7200) (by omega) (by omega)))) hS (fun q h => h) (fun r _ H locs hp hCW hk hS => ?_)
  refine lv_as (y := -7000002) (hp.2.2.1 hC) ?_
  rw [stN_n hC (by decide)] at hCW
  have hCW : CW G a st H := hCW
  refine lv_ldc (v := -7000002) hx hb hown (hts (.constant RL 78 (-7000002)) (List.mem_of_getElem? (i := 6) (by decide +kernel))) dL_refuses_300 ?_
  refine lv_icmp_ne (tgt := 589) hx hb dL_refuses_302 (by decide) (fun c => absurd c (by decide)) (fun _ => ?_)
  refine lv_aload_n hx hb dL_refuses_305 rfl (lv_at hl 4 rfl) ?_
  refine lv_iconst (v := nI 5) hx hb dL_refuses_306 (by decide) ?_
  refine lv_iload hx hb dL_refuses_307 (lv_at hl 2 rfl) ?_
  refine lv_iconst (v := nI 0) hx hb dL_refuses_309 (by decide) ?_
  refine lv_iconst (v := nI 0) hx hb dL_refuses_310 (by decide) ?_
  refine lv_iconst (v := nI 0) hx hb dL_refuses_311 (by decide) ?_
  have hC : cCl (-1) = 1 := by decide
  refine wr_i (vx_run0 (vx_runSX (As := [.ref (a 0), .int (nI 5), .int (-1), .int (nI 0), .int (nI 0), .int (nI 0)]) (rest := []) FX (w_act_clear l hfl G a ha t9 st (-1) (nI 0) (nI 0) (nI 0) hO) (vx_cwSW 6 hts gL_refuses_L_act rfl rfl rfl (by decide +kernel) ⟨Nat.le_of_ble_eq_true rfl, Nat.le_of_ble_eq_true rfl⟩) (preW hK hNW hCW (hLow.at hS (fun q9 _ q => rng_M q9 q)) (hX.at hS (fun q9 _ q => rng_M q9 q)) hNC) rfl rfl hl.1 rfl (lv_room (Nat.le_of_ble_eq_true rfl)) dL_refuses_312 (rmx (m := 1200) (n := 7200) (by omega) (by omega)))) hS (fun q h => h) (fun r _ H locs hp hCW hk hS => ?_)
  refine lv_as (y := -7000001) (hp.2.1 hC) ?_
  rw [stN_n hC (by decide)] at hCW
  have hCW : CW G a st H := hCW
  refine lv_ldc (v := -7000001) hx hb hown (hts (.constant RL 75 (-7000001)) (List.mem_of_getElem? (i := 5) (by decide +kernel))) dL_refuses_315 ?_
  refine lv_icmp_ne (tgt := 589) hx hb dL_refuses_317 (by decide) (fun c => absurd c (by decide)) (fun _ => ?_)
  refine lv_aload_n hx hb dL_refuses_320 rfl (lv_at hl 4 rfl) ?_
  refine lv_bipush (v := nI 6) hx hb dL_refuses_321 (by decide) ?_
  refine lv_iload hx hb dL_refuses_323 (lv_at hl 2 rfl) ?_
  refine lv_iconst (v := nI 0) hx hb dL_refuses_325 (by decide) ?_
  refine lv_bipush (v := nI 100) hx hb dL_refuses_326 (by decide) ?_
  refine lv_iconst (v := nI 0) hx hb dL_refuses_328 (by decide) ?_
  have hC : cCo (-1) (nI 0) (nI 100) = 1 := by decide
  refine wr_i (vx_run0 (vx_runSX (As := [.ref (a 0), .int (nI 6), .int (-1), .int (nI 0), .int (nI 100), .int (nI 0)]) (rest := []) FX (w_act_cost l hfl G a ha t9 st (-1) (nI 0) (nI 100) (nI 0) hO) (vx_cwSW 6 hts gL_refuses_L_act rfl rfl rfl (by decide +kernel) ⟨Nat.le_of_ble_eq_true rfl, Nat.le_of_ble_eq_true rfl⟩) (preW hK hNW hCW (hLow.at hS (fun q9 _ q => rng_M q9 q)) (hX.at hS (fun q9 _ q => rng_M q9 q)) hNC) rfl rfl hl.1 rfl (lv_room (Nat.le_of_ble_eq_true rfl)) dL_refuses_329 (rmx (m := 1200) (n := 7200) (by omega) (by omega)))) hS (fun q h => h) (fun r _ H locs hp hCW hk hS => ?_)
  refine lv_as (y := -7000001) (hp.2.1 hC) ?_
  rw [stN_n hC (by decide), stN_n hC (by decide)] at hCW
  have hCW : CW G a st H := hCW
  refine lv_ldc (v := -7000001) hx hb hown (hts (.constant RL 75 (-7000001)) (List.mem_of_getElem? (i := 5) (by decide +kernel))) dL_refuses_332 ?_
  refine lv_icmp_ne (tgt := 589) hx hb dL_refuses_334 (by decide) (fun c => absurd c (by decide)) (fun _ => ?_)
  refine lv_aload_n hx hb dL_refuses_337 rfl (lv_at hl 4 rfl) ?_
  refine lv_bipush (v := nI 6) hx hb dL_refuses_338 (by decide) ?_
  refine lv_iconst (v := nI 0) hx hb dL_refuses_340 (by decide) ?_
  refine lv_iload_n hx hb dL_refuses_341 rfl (lv_at hl 7 rfl) ?_
  refine lv_if_ne (tgt := 349) hx hb dL_refuses_342 (by decide) (fun c => absurd c (by decide)) (fun _ => ?_)
  refine lv_iconst (v := nI 0) hx hb dL_refuses_345 (by decide) ?_
  refine lv_goto (tgt := 361) hx hb dL_refuses_346 (by decide) ?_
  refine lv_iconst (v := nI 1) hx hb dL_refuses_361 (by decide) ?_
  refine lv_iconst (v := nI 0) hx hb dL_refuses_362 (by decide) ?_
  have hC : cCo (nI 0) (nI 0) (nI 1) = 2 := by decide
  refine wr_i (vx_run0 (vx_runSX (As := [.ref (a 0), .int (nI 6), .int (nI 0), .int (nI 0), .int (nI 1), .int (nI 0)]) (rest := []) FX (w_act_cost l hfl G a ha t9 st (nI 0) (nI 0) (nI 1) (nI 0) hO) (vx_cwSW 6 hts gL_refuses_L_act rfl rfl rfl (by decide +kernel) ⟨Nat.le_of_ble_eq_true rfl, Nat.le_of_ble_eq_true rfl⟩) (preW hK hNW hCW (hLow.at hS (fun q9 _ q => rng_M q9 q)) (hX.at hS (fun q9 _ q => rng_M q9 q)) hNC) rfl rfl hl.1 rfl (lv_room (Nat.le_of_ble_eq_true rfl)) dL_refuses_363 (rmx (m := 1200) (n := 7200) (by omega) (by omega)))) hS (fun q h => h) (fun r _ H locs hp hCW hk hS => ?_)
  refine lv_as (y := -7000002) (hp.2.2.1 hC) ?_
  rw [stN_n hC (by decide), stN_n hC (by decide)] at hCW
  have hCW : CW G a st H := hCW
  refine lv_ldc (v := -7000002) hx hb hown (hts (.constant RL 78 (-7000002)) (List.mem_of_getElem? (i := 6) (by decide +kernel))) dL_refuses_366 ?_
  refine lv_icmp_ne (tgt := 589) hx hb dL_refuses_368 (by decide) (fun c => absurd c (by decide)) (fun _ => ?_)
  refine lv_aload_n hx hb dL_refuses_371 rfl (lv_at hl 4 rfl) ?_
  refine lv_bipush (v := nI 6) hx hb dL_refuses_372 (by decide) ?_
  refine lv_iconst (v := nI 0) hx hb dL_refuses_374 (by decide) ?_
  refine lv_iconst (v := nI 1) hx hb dL_refuses_375 (by decide) ?_
  refine lv_iload_n hx hb dL_refuses_376 rfl (lv_at hl 7 rfl) ?_
  refine lv_iconst (v := nI 1) hx hb dL_refuses_377 (by decide) ?_
  refine lv_icmp_ne (tgt := 386) hx hb dL_refuses_378 (by decide) (fun _ => ?_) (fun c => absurd c (by decide))
  refine lv_iload hx hb dL_refuses_386 (lv_at hl 3 rfl) ?_
  refine lv_iconst (v := nI 0) hx hb dL_refuses_388 (by decide) ?_
  have hC : cCo (nI 0) (nI 1) (-1) = 2 := by decide
  refine wr_i (vx_run0 (vx_runSX (As := [.ref (a 0), .int (nI 6), .int (nI 0), .int (nI 1), .int (-1), .int (nI 0)]) (rest := []) FX (w_act_cost l hfl G a ha t9 st (nI 0) (nI 1) (-1) (nI 0) hO) (vx_cwSW 6 hts gL_refuses_L_act rfl rfl rfl (by decide +kernel) ⟨Nat.le_of_ble_eq_true rfl, Nat.le_of_ble_eq_true rfl⟩) (preW hK hNW hCW (hLow.at hS (fun q9 _ q => rng_M q9 q)) (hX.at hS (fun q9 _ q => rng_M q9 q)) hNC) rfl rfl hl.1 rfl (lv_room (Nat.le_of_ble_eq_true rfl)) dL_refuses_389 (rmx (m := 1200) (n := 7200) (by omega) (by omega)))) hS (fun q h => h) (fun r _ H locs hp hCW hk hS => ?_)
  refine lv_as (y := -7000002) (hp.2.2.1 hC) ?_
  rw [stN_n hC (by decide), stN_n hC (by decide)] at hCW
  have hCW : CW G a st H := hCW
  refine lv_ldc (v := -7000002) hx hb hown (hts (.constant RL 78 (-7000002)) (List.mem_of_getElem? (i := 6) (by decide +kernel))) dL_refuses_392 ?_
  refine lv_icmp_ne (tgt := 589) hx hb dL_refuses_394 (by decide) (fun c => absurd c (by decide)) (fun _ => ?_)
  refine lv_aload_n hx hb dL_refuses_397 rfl (lv_at hl 4 rfl) ?_
  refine lv_bipush (v := nI 7) hx hb dL_refuses_398 (by decide) ?_
  refine lv_iload hx hb dL_refuses_400 (lv_at hl 2 rfl) ?_
  refine lv_iconst (v := nI 0) hx hb dL_refuses_402 (by decide) ?_
  refine lv_bipush (v := nI 9) hx hb dL_refuses_403 (by decide) ?_
  refine lv_iconst (v := nI 0) hx hb dL_refuses_405 (by decide) ?_
  have hC : cSt st.1 (-1) (nI 0) (nI 9) = 1 := rc_st (by decide)
  refine wr_i (vx_run0 (vx_runSX (As := [.ref (a 0), .int (nI 7), .int (-1), .int (nI 0), .int (nI 9), .int (nI 0)]) (rest := []) FX (w_act_stick l hfl G a ha t9 st (-1) (nI 0) (nI 9) (nI 0) hO) (vx_cwSW 6 hts gL_refuses_L_act rfl rfl rfl (by decide +kernel) ⟨Nat.le_of_ble_eq_true rfl, Nat.le_of_ble_eq_true rfl⟩) (preW hK hNW hCW (hLow.at hS (fun q9 _ q => rng_M q9 q)) (hX.at hS (fun q9 _ q => rng_M q9 q)) hNC) rfl rfl hl.1 rfl (lv_room (Nat.le_of_ble_eq_true rfl)) dL_refuses_406 (rmx (m := 1200) (n := 7200) (by omega) (by omega)))) hS (fun q h => h) (fun r _ H locs hp hCW hk hS => ?_)
  refine lv_as (y := -7000001) (hp.2.1 hC) ?_
  rw [stN_n hC (by decide)] at hCW
  have hCW : CW G a st H := hCW
  refine lv_ldc (v := -7000001) hx hb hown (hts (.constant RL 75 (-7000001)) (List.mem_of_getElem? (i := 5) (by decide +kernel))) dL_refuses_409 ?_
  refine lv_icmp_ne (tgt := 589) hx hb dL_refuses_411 (by decide) (fun c => absurd c (by decide)) (fun _ => ?_)
  refine lv_aload_n hx hb dL_refuses_414 rfl (lv_at hl 4 rfl) ?_
  refine lv_bipush (v := nI 8) hx hb dL_refuses_415 (by decide) ?_
  refine lv_iload hx hb dL_refuses_417 (lv_at hl 2 rfl) ?_
  refine lv_iconst (v := nI 0) hx hb dL_refuses_419 (by decide) ?_
  refine lv_iconst (v := -1) hx hb dL_refuses_420 (by decide) ?_
  refine lv_iconst (v := nI 0) hx hb dL_refuses_421 (by decide) ?_
  have hC : cBi st.1 (-1) (nI 0) (-1) = 1 := rc_bi (by decide)
  refine wr_i (vx_run0 (vx_runSX (As := [.ref (a 0), .int (nI 8), .int (-1), .int (nI 0), .int (-1), .int (nI 0)]) (rest := []) FX (w_act_bit l hfl G a ha t9 st (-1) (nI 0) (-1) (nI 0) hO) (vx_cwSW 6 hts gL_refuses_L_act rfl rfl rfl (by decide +kernel) ⟨Nat.le_of_ble_eq_true rfl, Nat.le_of_ble_eq_true rfl⟩) (preW hK hNW hCW (hLow.at hS (fun q9 _ q => rng_M q9 q)) (hX.at hS (fun q9 _ q => rng_M q9 q)) hNC) rfl rfl hl.1 rfl (lv_room (Nat.le_of_ble_eq_true rfl)) dL_refuses_422 (rmx (m := 1200) (n := 7200) (by omega) (by omega)))) hS (fun q h => h) (fun r _ H locs hp hCW hk hS => ?_)
  refine lv_as (y := -7000001) (hp.2.1 hC) ?_
  have hCW : CW G a st H := hCW
  refine lv_ldc (v := -7000001) hx hb hown (hts (.constant RL 75 (-7000001)) (List.mem_of_getElem? (i := 5) (by decide +kernel))) dL_refuses_425 ?_
  refine lv_icmp_ne (tgt := 589) hx hb dL_refuses_427 (by decide) (fun c => absurd c (by decide)) (fun _ => ?_)
  refine lv_aload_n hx hb dL_refuses_430 rfl (lv_at hl 4 rfl) ?_
  refine lv_bipush (v := nI 9) hx hb dL_refuses_431 (by decide) ?_
  refine lv_iload hx hb dL_refuses_433 (lv_at hl 2 rfl) ?_
  refine lv_iconst (v := -1) hx hb dL_refuses_435 (by decide) ?_
  refine lv_iconst (v := nI 0) hx hb dL_refuses_436 (by decide) ?_
  refine lv_iconst (v := nI 0) hx hb dL_refuses_437 (by decide) ?_
  have hC : cVa (-1) (-1) = 1 := by decide
  refine wr_i (vx_run0 (vx_runSX (As := [.ref (a 0), .int (nI 9), .int (-1), .int (-1), .int (nI 0), .int (nI 0)]) (rest := []) FX (w_act_value l hfl G a ha t9 st (-1) (-1) (nI 0) (nI 0) hO) (vx_cwSW 6 hts gL_refuses_L_act rfl rfl rfl (by decide +kernel) ⟨Nat.le_of_ble_eq_true rfl, Nat.le_of_ble_eq_true rfl⟩) (preW hK hNW hCW (hLow.at hS (fun q9 _ q => rng_M q9 q)) (hX.at hS (fun q9 _ q => rng_M q9 q)) hNC) rfl rfl hl.1 rfl (lv_room (Nat.le_of_ble_eq_true rfl)) dL_refuses_438 (rmx (m := 1200) (n := 7200) (by omega) (by omega)))) hS (fun q h => h) (fun r _ H locs hp hCW hk hS => ?_)
  refine lv_as (y := -7000001) (hp.2.1 hC) ?_
  have hCW : CW G a st H := hCW
  refine lv_ldc (v := -7000001) hx hb hown (hts (.constant RL 75 (-7000001)) (List.mem_of_getElem? (i := 5) (by decide +kernel))) dL_refuses_441 ?_
  refine lv_icmp_ne (tgt := 589) hx hb dL_refuses_443 (by decide) (fun c => absurd c (by decide)) (fun _ => ?_)
  refine lv_aload_n hx hb dL_refuses_446 rfl (lv_at hl 4 rfl) ?_
  refine lv_bipush (v := nI 9) hx hb dL_refuses_447 (by decide) ?_
  refine lv_iconst (v := nI 0) hx hb dL_refuses_449 (by decide) ?_
  refine lv_iload hx hb dL_refuses_450 (lv_at hl 1 rfl) ?_
  refine lv_iconst (v := nI 0) hx hb dL_refuses_452 (by decide) ?_
  refine lv_iconst (v := nI 0) hx hb dL_refuses_453 (by decide) ?_
  have hC : cVa (nI 0) (-1) = 2 := by decide
  refine wr_i (vx_run0 (vx_runSX (As := [.ref (a 0), .int (nI 9), .int (nI 0), .int (-1), .int (nI 0), .int (nI 0)]) (rest := []) FX (w_act_value l hfl G a ha t9 st (nI 0) (-1) (nI 0) (nI 0) hO) (vx_cwSW 6 hts gL_refuses_L_act rfl rfl rfl (by decide +kernel) ⟨Nat.le_of_ble_eq_true rfl, Nat.le_of_ble_eq_true rfl⟩) (preW hK hNW hCW (hLow.at hS (fun q9 _ q => rng_M q9 q)) (hX.at hS (fun q9 _ q => rng_M q9 q)) hNC) rfl rfl hl.1 rfl (lv_room (Nat.le_of_ble_eq_true rfl)) dL_refuses_454 (rmx (m := 1200) (n := 7200) (by omega) (by omega)))) hS (fun q h => h) (fun r _ H locs hp hCW hk hS => ?_)
  refine lv_as (y := -7000002) (hp.2.2.1 hC) ?_
  have hCW : CW G a st H := hCW
  refine lv_ldc (v := -7000002) hx hb hown (hts (.constant RL 78 (-7000002)) (List.mem_of_getElem? (i := 6) (by decide +kernel))) dL_refuses_457 ?_
  refine lv_icmp_ne (tgt := 589) hx hb dL_refuses_459 (by decide) (fun c => absurd c (by decide)) (fun _ => ?_)
  refine lv_aload_n hx hb dL_refuses_462 rfl (lv_at hl 4 rfl) ?_
  refine lv_bipush (v := nI 10) hx hb dL_refuses_463 (by decide) ?_
  refine lv_iload hx hb dL_refuses_465 (lv_at hl 2 rfl) ?_
  refine lv_iconst (v := -1) hx hb dL_refuses_467 (by decide) ?_
  refine lv_iconst (v := nI 0) hx hb dL_refuses_468 (by decide) ?_
  refine lv_iconst (v := nI 0) hx hb dL_refuses_469 (by decide) ?_
  have hC : cVa (-1) (-1) = 1 := by decide
  refine wr_i (vx_run0 (vx_runSX (As := [.ref (a 0), .int (nI 10), .int (-1), .int (-1), .int (nI 0), .int (nI 0)]) (rest := []) FX (w_act_valueAnew l hfl G a ha t9 st (-1) (-1) (nI 0) (nI 0) hO) (vx_cwSW 6 hts gL_refuses_L_act rfl rfl rfl (by decide +kernel) ⟨Nat.le_of_ble_eq_true rfl, Nat.le_of_ble_eq_true rfl⟩) (preW hK hNW hCW (hLow.at hS (fun q9 _ q => rng_M q9 q)) (hX.at hS (fun q9 _ q => rng_M q9 q)) hNC) rfl rfl hl.1 rfl (lv_room (Nat.le_of_ble_eq_true rfl)) dL_refuses_470 (rmx (m := 1200) (n := 7200) (by omega) (by omega)))) hS (fun q h => h) (fun r _ H locs hp hCW hk hS => ?_)
  refine lv_as (y := -7000001) (hp.2.1 hC) ?_
  have hCW : CW G a st H := hCW
  refine lv_ldc (v := -7000001) hx hb hown (hts (.constant RL 75 (-7000001)) (List.mem_of_getElem? (i := 5) (by decide +kernel))) dL_refuses_473 ?_
  refine lv_icmp_ne (tgt := 589) hx hb dL_refuses_475 (by decide) (fun c => absurd c (by decide)) (fun _ => ?_)
  refine lv_aload_n hx hb dL_refuses_478 rfl (lv_at hl 4 rfl) ?_
  refine lv_bipush (v := nI 10) hx hb dL_refuses_479 (by decide) ?_
  refine lv_iconst (v := nI 0) hx hb dL_refuses_481 (by decide) ?_
  refine lv_iload hx hb dL_refuses_482 (lv_at hl 1 rfl) ?_
  refine lv_iconst (v := nI 0) hx hb dL_refuses_484 (by decide) ?_
  refine lv_iconst (v := nI 0) hx hb dL_refuses_485 (by decide) ?_
  have hC : cVa (nI 0) (-1) = 2 := by decide
  refine wr_i (vx_run0 (vx_runSX (As := [.ref (a 0), .int (nI 10), .int (nI 0), .int (-1), .int (nI 0), .int (nI 0)]) (rest := []) FX (w_act_valueAnew l hfl G a ha t9 st (nI 0) (-1) (nI 0) (nI 0) hO) (vx_cwSW 6 hts gL_refuses_L_act rfl rfl rfl (by decide +kernel) ⟨Nat.le_of_ble_eq_true rfl, Nat.le_of_ble_eq_true rfl⟩) (preW hK hNW hCW (hLow.at hS (fun q9 _ q => rng_M q9 q)) (hX.at hS (fun q9 _ q => rng_M q9 q)) hNC) rfl rfl hl.1 rfl (lv_room (Nat.le_of_ble_eq_true rfl)) dL_refuses_486 (rmx (m := 1200) (n := 7200) (by omega) (by omega)))) hS (fun q h => h) (fun r _ H locs hp hCW hk hS => ?_)
  refine lv_as (y := -7000002) (hp.2.2.1 hC) ?_
  have hCW : CW G a st H := hCW
  refine lv_ldc (v := -7000002) hx hb hown (hts (.constant RL 78 (-7000002)) (List.mem_of_getElem? (i := 6) (by decide +kernel))) dL_refuses_489 ?_
  refine lv_icmp_ne (tgt := 589) hx hb dL_refuses_491 (by decide) (fun c => absurd c (by decide)) (fun _ => ?_)
  refine lv_aload_n hx hb dL_refuses_494 rfl (lv_at hl 4 rfl) ?_
  refine lv_bipush (v := nI 11) hx hb dL_refuses_495 (by decide) ?_
  refine lv_iload hx hb dL_refuses_497 (lv_at hl 2 rfl) ?_
  refine lv_bipush (v := nI 99) hx hb dL_refuses_499 (by decide) ?_
  refine lv_iconst (v := nI 0) hx hb dL_refuses_501 (by decide) ?_
  refine lv_iconst (v := nI 0) hx hb dL_refuses_502 (by decide) ?_
  have hC : cOf (-1) (nI 99) = 1 := by decide
  refine wr_i (vx_run0 (vx_runSX (As := [.ref (a 0), .int (nI 11), .int (-1), .int (nI 99), .int (nI 0), .int (nI 0)]) (rest := []) FX (w_act_ofNet l hfl G a ha t9 st (-1) (nI 99) (nI 0) (nI 0) hO) (vx_cwSW 6 hts gL_refuses_L_act rfl rfl rfl (by decide +kernel) ⟨Nat.le_of_ble_eq_true rfl, Nat.le_of_ble_eq_true rfl⟩) (preW hK hNW hCW (hLow.at hS (fun q9 _ q => rng_M q9 q)) (hX.at hS (fun q9 _ q => rng_M q9 q)) hNC) rfl rfl hl.1 rfl (lv_room (Nat.le_of_ble_eq_true rfl)) dL_refuses_503 (rmx (m := 1200) (n := 7200) (by omega) (by omega)))) hS (fun q h => h) (fun r _ H locs hp hCW hk hS => ?_)
  refine lv_as (y := -7000001) (hp.2.1 hC) ?_
  have hCW : CW G a st H := hCW
  refine lv_ldc (v := -7000001) hx hb hown (hts (.constant RL 75 (-7000001)) (List.mem_of_getElem? (i := 5) (by decide +kernel))) dL_refuses_506 ?_
  refine lv_icmp_ne (tgt := 589) hx hb dL_refuses_508 (by decide) (fun c => absurd c (by decide)) (fun _ => ?_)
  refine lv_aload_n hx hb dL_refuses_511 rfl (lv_at hl 4 rfl) ?_
  refine lv_bipush (v := nI 11) hx hb dL_refuses_512 (by decide) ?_
  refine lv_iconst (v := nI 0) hx hb dL_refuses_514 (by decide) ?_
  refine lv_iload_n hx hb dL_refuses_515 rfl (lv_at hl 7 rfl) ?_
  refine lv_iconst (v := nI 1) hx hb dL_refuses_516 (by decide) ?_
  refine lv_icmp_ne (tgt := 525) hx hb dL_refuses_517 (by decide) (fun _ => ?_) (fun c => absurd c (by decide))
  refine lv_iload hx hb dL_refuses_525 (lv_at hl 3 rfl) ?_
  refine lv_iconst (v := nI 0) hx hb dL_refuses_527 (by decide) ?_
  refine lv_iconst (v := nI 0) hx hb dL_refuses_528 (by decide) ?_
  have hC : cOf (nI 0) (-1) = 2 := by decide
  refine wr_i (vx_run0 (vx_runSX (As := [.ref (a 0), .int (nI 11), .int (nI 0), .int (-1), .int (nI 0), .int (nI 0)]) (rest := []) FX (w_act_ofNet l hfl G a ha t9 st (nI 0) (-1) (nI 0) (nI 0) hO) (vx_cwSW 6 hts gL_refuses_L_act rfl rfl rfl (by decide +kernel) ⟨Nat.le_of_ble_eq_true rfl, Nat.le_of_ble_eq_true rfl⟩) (preW hK hNW hCW (hLow.at hS (fun q9 _ q => rng_M q9 q)) (hX.at hS (fun q9 _ q => rng_M q9 q)) hNC) rfl rfl hl.1 rfl (lv_room (Nat.le_of_ble_eq_true rfl)) dL_refuses_529 (rmx (m := 1200) (n := 7200) (by omega) (by omega)))) hS (fun q h => h) (fun r _ H locs hp hCW hk hS => ?_)
  refine lv_as (y := -7000002) (hp.2.2.1 hC) ?_
  have hCW : CW G a st H := hCW
  refine lv_ldc (v := -7000002) hx hb hown (hts (.constant RL 78 (-7000002)) (List.mem_of_getElem? (i := 6) (by decide +kernel))) dL_refuses_532 ?_
  refine lv_icmp_ne (tgt := 589) hx hb dL_refuses_534 (by decide) (fun c => absurd c (by decide)) (fun _ => ?_)
  refine lv_aload_n hx hb dL_refuses_537 rfl (lv_at hl 4 rfl) ?_
  refine lv_bipush (v := nI 12) hx hb dL_refuses_538 (by decide) ?_
  refine lv_iload hx hb dL_refuses_540 (lv_at hl 2 rfl) ?_
  refine lv_iconst (v := nI 0) hx hb dL_refuses_542 (by decide) ?_
  refine lv_iconst (v := nI 0) hx hb dL_refuses_543 (by decide) ?_
  refine lv_iconst (v := nI 0) hx hb dL_refuses_544 (by decide) ?_
  have hC : cTi st.1 (-1) (nI 0) = 1 := rc_ti (by decide)
  refine wr_i (vx_run0 (vx_runSX (As := [.ref (a 0), .int (nI 12), .int (-1), .int (nI 0), .int (nI 0), .int (nI 0)]) (rest := []) FX (w_act_time l hfl G a ha t9 st (-1) (nI 0) (nI 0) (nI 0) hO) (vx_cwSW 6 hts gL_refuses_L_act rfl rfl rfl (by decide +kernel) ⟨Nat.le_of_ble_eq_true rfl, Nat.le_of_ble_eq_true rfl⟩) (preW hK hNW hCW (hLow.at hS (fun q9 _ q => rng_M q9 q)) (hX.at hS (fun q9 _ q => rng_M q9 q)) hNC) rfl rfl hl.1 rfl (lv_room (Nat.le_of_ble_eq_true rfl)) dL_refuses_545 (rmx (m := 1200) (n := 7200) (by omega) (by omega)))) hS (fun q h => h) (fun r _ H locs hp hCW hk hS => ?_)
  refine lv_as (y := -7000001) (hp.2.1 hC) ?_
  have hCW : CW G a st H := hCW
  refine lv_ldc (v := -7000001) hx hb hown (hts (.constant RL 75 (-7000001)) (List.mem_of_getElem? (i := 5) (by decide +kernel))) dL_refuses_548 ?_
  refine lv_icmp_ne (tgt := 589) hx hb dL_refuses_550 (by decide) (fun c => absurd c (by decide)) (fun _ => ?_)
  refine lv_aload_n hx hb dL_refuses_553 rfl (lv_at hl 4 rfl) ?_
  refine lv_bipush (v := nI 13) hx hb dL_refuses_554 (by decide) ?_
  refine lv_iload hx hb dL_refuses_556 (lv_at hl 2 rfl) ?_
  refine lv_iconst (v := nI 0) hx hb dL_refuses_558 (by decide) ?_
  refine lv_iconst (v := nI 0) hx hb dL_refuses_559 (by decide) ?_
  refine lv_iconst (v := nI 0) hx hb dL_refuses_560 (by decide) ?_
  have hC : cPa (-1) (nI 0) = 1 := by decide
  refine wr_i (vx_run0 (vx_runSX (As := [.ref (a 0), .int (nI 13), .int (-1), .int (nI 0), .int (nI 0), .int (nI 0)]) (rest := []) FX (w_act_path l hfl G a ha t9 st (-1) (nI 0) (nI 0) (nI 0) hO) (vx_cwSW 6 hts gL_refuses_L_act rfl rfl rfl (by decide +kernel) ⟨Nat.le_of_ble_eq_true rfl, Nat.le_of_ble_eq_true rfl⟩) (preW hK hNW hCW (hLow.at hS (fun q9 _ q => rng_M q9 q)) (hX.at hS (fun q9 _ q => rng_M q9 q)) hNC) rfl rfl hl.1 rfl (lv_room (Nat.le_of_ble_eq_true rfl)) dL_refuses_561 (rmx (m := 1200) (n := 7200) (by omega) (by omega)))) hS (fun q h => h) (fun r _ H locs hp hCW hk hS => ?_)
  refine lv_as (y := -7000001) (hp.2.1 hC) ?_
  have hCW : CW G a st H := hCW
  refine lv_ldc (v := -7000001) hx hb hown (hts (.constant RL 75 (-7000001)) (List.mem_of_getElem? (i := 5) (by decide +kernel))) dL_refuses_564 ?_
  refine lv_icmp_ne (tgt := 589) hx hb dL_refuses_566 (by decide) (fun c => absurd c (by decide)) (fun _ => ?_)
  refine lv_aload_n hx hb dL_refuses_569 rfl (lv_at hl 4 rfl) ?_
  refine lv_bipush (v := nI 13) hx hb dL_refuses_570 (by decide) ?_
  refine lv_iconst (v := nI 0) hx hb dL_refuses_572 (by decide) ?_
  refine lv_iload hx hb dL_refuses_573 (lv_at hl 0 rfl) ?_
  refine lv_iconst (v := nI 0) hx hb dL_refuses_575 (by decide) ?_
  refine lv_iconst (v := nI 0) hx hb dL_refuses_576 (by decide) ?_
  have hC : cPa (nI 0) (-2147483648) = 1 := by decide
  refine wr_i (vx_run0 (vx_runSX (As := [.ref (a 0), .int (nI 13), .int (nI 0), .int (-2147483648), .int (nI 0), .int (nI 0)]) (rest := []) FX (w_act_path l hfl G a ha t9 st (nI 0) (-2147483648) (nI 0) (nI 0) hO) (vx_cwSW 6 hts gL_refuses_L_act rfl rfl rfl (by decide +kernel) ⟨Nat.le_of_ble_eq_true rfl, Nat.le_of_ble_eq_true rfl⟩) (preW hK hNW hCW (hLow.at hS (fun q9 _ q => rng_M q9 q)) (hX.at hS (fun q9 _ q => rng_M q9 q)) hNC) rfl rfl hl.1 rfl (lv_room (Nat.le_of_ble_eq_true rfl)) dL_refuses_577 (rmx (m := 1200) (n := 7200) (by omega) (by omega)))) hS (fun q h => h) (fun r _ H locs hp hCW hk hS => ?_)
  refine lv_as (y := -7000001) (hp.2.1 hC) ?_
  have hCW : CW G a st H := hCW
  refine lv_ldc (v := -7000001) hx hb hown (hts (.constant RL 75 (-7000001)) (List.mem_of_getElem? (i := 5) (by decide +kernel))) dL_refuses_580 ?_
  refine lv_icmp_ne (tgt := 589) hx hb dL_refuses_582 (by decide) (fun c => absurd c (by decide)) (fun _ => ?_)
  refine lv_iconst (v := nI 1) hx hb dL_refuses_585 (by decide) ?_
  refine lv_goto (tgt := 590) hx hb dL_refuses_586 (by decide) ?_
  refine lv_istore (lv' := [(8, .int (nI 1)), (7, .int (-2147483648)), (6, .int (-1)), (5, .int (-1)), (4, .int (-1)), (0, .ref (a 0)), (1, .int (nI 2147483647)), (2, .int bf), (3, .int (nI 0))]) hx hb dL_refuses_590 hl (by decide) rfl (fun ls hl => ?_)
  exact wid (by omega) (by omega) (K _ _ _ hS hCW hl)
set_option maxHeartbeats 4000000 in
set_option maxRecDepth 100000 in
theorem rf_A1 {p : Program} {l : Launch} {e : Env} {s : State} {m : MethodId} {args : Array Value} {below : List Frame} {meth : Method} {c : Code} {Q : State → Prop} {G : GG} {a : Nat → Nat} {t9 : Nat} (J : LJ p l s m meth c args cL_refuses (some .boolean) 12 wsL_refuses G a t9) {st : ST} (hO : OKS st) {bf : Int32}  (c0 s0 : Nat) (hc : c0 + 67 ≤ 1200) (hs : s0 + 402 ≤ 7200) {H : Heap} {locs : List Loc} {ls : Array Slot} (hS : va_S (rng a 0 93) s.heap H locs) (hCW : CW G a st H) (hl : lv_has ls 12 [(0, .ref (a 0)), (1, .int (nI 2147483647)), (2, .int bf), (3, .int (nI 1))]) (K : ∀ (H : Heap) (locs : List Loc) (ls : Array Slot), va_S (rng a 0 93) s.heap H locs → CW G a st H → lv_has ls 12 [(8, .int (nI 1)), (7, .int (-2)), (6, .int (nI 1073741824)), (5, .int (nI 4)), (4, .int (-2147483648)), (0, .ref (a 0)), (1, .int (nI 2147483647)), (2, .int bf), (3, .int (nI 1))] → W p l e ({ frames := 10, cells := 1200, slots := 7200, locals := 194 } : Room) s m args below meth c H locs (c0 + 67) (s0 + 402) Q (F0 m 592 ls [])) : W p l e ({ frames := 10, cells := 1200, slots := 7200, locals := 194 } : Room) s m args below meth c H locs c0 s0 Q (F0 m 43 ls []) := by
  obtain ⟨hfl, hx, hb, hr, hml, hown, hts, hlocks, ha, hK, hNW, hLow, hX, hNC⟩ := J
  have FX : CallFix p m c cL_refuses 12 s args wsL_refuses RL := ⟨hx, hb, hml, hown, hts⟩
  refine lv_iload_n hx hb dL_refuses_43 rfl (lv_at hl 3 rfl) ?_
  refine lv_iconst (v := nI 4) hx hb dL_refuses_44 (by decide) ?_
  refine lv_icmp_ge (tgt := 1204) hx hb dL_refuses_45 (by decide) (fun c => absurd c (by decide)) (fun _ => ?_)
  refine lv_iload_n hx hb dL_refuses_48 rfl (lv_at hl 3 rfl) ?_
  refine lv_if_ne (tgt := 56) hx hb dL_refuses_49 (by decide) (fun _ => ?_) (fun c => absurd c (by decide))
  refine lv_iload_n hx hb dL_refuses_56 rfl (lv_at hl 3 rfl) ?_
  refine lv_iconst (v := nI 2) hx hb dL_refuses_57 (by decide) ?_
  refine lv_icmp_ne (tgt := 65) hx hb dL_refuses_58 (by decide) (fun _ => ?_) (fun c => absurd c (by decide))
  refine lv_iload_n hx hb dL_refuses_65 rfl (lv_at hl 1 rfl) ?_
  refine lv_ineg hx hb dL_refuses_66 ?_
  refine lv_as (y := -2147483647) (by decide) ?_
  refine lv_iconst (v := nI 1) hx hb dL_refuses_67 (by decide) ?_
  refine lv_isub hx hb dL_refuses_68 ?_
  refine lv_as (y := -2147483648) (by decide) ?_
  refine lv_istore (lv' := [(4, .int (-2147483648)), (0, .ref (a 0)), (1, .int (nI 2147483647)), (2, .int bf), (3, .int (nI 1))]) hx hb dL_refuses_69 hl (by decide) rfl (fun ls hl => ?_)
  refine lv_iload_n hx hb dL_refuses_71 rfl (lv_at hl 4 rfl) ?_
  refine lv_iconst (v := nI 1) hx hb dL_refuses_72 (by decide) ?_
  refine lv_icmp_ne (tgt := 80) hx hb dL_refuses_73 (by decide) (fun c => absurd c (by decide)) (fun _ => ?_)
  refine lv_iconst (v := nI 4) hx hb dL_refuses_76 (by decide) ?_
  refine lv_goto (tgt := 82) hx hb dL_refuses_77 (by decide) ?_
  refine lv_istore (lv' := [(5, .int (nI 4)), (4, .int (-2147483648)), (0, .ref (a 0)), (1, .int (nI 2147483647)), (2, .int bf), (3, .int (nI 1))]) hx hb dL_refuses_82 hl (by decide) rfl (fun ls hl => ?_)
  refine lv_iload_n hx hb dL_refuses_84 rfl (lv_at hl 5 rfl) ?_
  refine lv_iconst (v := nI 1) hx hb dL_refuses_85 (by decide) ?_
  refine lv_icmp_ne (tgt := 94) hx hb dL_refuses_86 (by decide) (fun c => absurd c (by decide)) (fun _ => ?_)
  refine lv_ldc (v := nI 1073741824) hx hb hown (hts (.constant RL 85 (1073741824)) (List.mem_of_getElem? (i := 4) (by decide +kernel))) dL_refuses_89 ?_
  refine lv_goto (tgt := 96) hx hb dL_refuses_91 (by decide) ?_
  refine lv_istore (lv' := [(6, .int (nI 1073741824)), (5, .int (nI 4)), (4, .int (-2147483648)), (0, .ref (a 0)), (1, .int (nI 2147483647)), (2, .int bf), (3, .int (nI 1))]) hx hb dL_refuses_96 hl (by decide) rfl (fun ls hl => ?_)
  refine lv_iload_n hx hb dL_refuses_98 rfl (lv_at hl 6 rfl) ?_
  refine lv_iconst (v := nI 2) hx hb dL_refuses_99 (by decide) ?_
  refine lv_icmp_ne (tgt := 107) hx hb dL_refuses_100 (by decide) (fun _ => ?_) (fun c => absurd c (by decide))
  refine lv_iload_n hx hb dL_refuses_107 rfl (lv_at hl 6 rfl) ?_
  refine lv_iconst (v := nI 1) hx hb dL_refuses_108 (by decide) ?_
  refine lv_icmp_ne (tgt := 117) hx hb dL_refuses_109 (by decide) (fun c => absurd c (by decide)) (fun _ => ?_)
  refine lv_bipush (v := -2) hx hb dL_refuses_112 (by decide) ?_
  refine lv_goto (tgt := 121) hx hb dL_refuses_114 (by decide) ?_
  refine lv_istore (lv' := [(7, .int (-2)), (6, .int (nI 1073741824)), (5, .int (nI 4)), (4, .int (-2147483648)), (0, .ref (a 0)), (1, .int (nI 2147483647)), (2, .int bf), (3, .int (nI 1))]) hx hb dL_refuses_121 hl (by decide) rfl (fun ls hl => ?_)
  refine lv_aload_n hx hb dL_refuses_123 rfl (lv_at hl 4 rfl) ?_
  refine lv_iconst (v := nI 0) hx hb dL_refuses_124 (by decide) ?_
  refine lv_iload hx hb dL_refuses_125 (lv_at hl 2 rfl) ?_
  refine lv_iconst (v := nI 0) hx hb dL_refuses_127 (by decide) ?_
  refine lv_iconst (v := nI 0) hx hb dL_refuses_128 (by decide) ?_
  refine lv_iconst (v := nI 0) hx hb dL_refuses_129 (by decide) ?_
  have hC : cIn st.1 (nI 4) = 1 := rc_in (by decide)
  refine wr_i (vx_run0 (vx_runSX (As := [.ref (a 0), .int (nI 0), .int (nI 4), .int (nI 0), .int (nI 0), .int (nI 0)]) (rest := []) FX (w_act_input l hfl G a ha t9 st (nI 4) (nI 0) (nI 0) (nI 0) hO) (vx_cwSW 6 hts gL_refuses_L_act rfl rfl rfl (by decide +kernel) ⟨Nat.le_of_ble_eq_true rfl, Nat.le_of_ble_eq_true rfl⟩) (preW hK hNW hCW (hLow.at hS (fun q9 _ q => rng_M q9 q)) (hX.at hS (fun q9 _ q => rng_M q9 q)) hNC) rfl rfl hl.1 rfl (lv_room (Nat.le_of_ble_eq_true rfl)) dL_refuses_130 (rmx (m := 1200) (n := 7200) (by omega) (by omega)))) hS (fun q h => h) (fun r _ H locs hp hCW hk hS => ?_)
  refine lv_as (y := -7000001) (hp.2.1 hC) ?_
  rw [stN_n hC (by decide)] at hCW
  have hCW : CW G a st H := hCW
  refine lv_ldc (v := -7000001) hx hb hown (hts (.constant RL 75 (-7000001)) (List.mem_of_getElem? (i := 5) (by decide +kernel))) dL_refuses_133 ?_
  refine lv_icmp_ne (tgt := 589) hx hb dL_refuses_135 (by decide) (fun c => absurd c (by decide)) (fun _ => ?_)
  refine lv_aload_n hx hb dL_refuses_138 rfl (lv_at hl 4 rfl) ?_
  refine lv_iconst (v := nI 1) hx hb dL_refuses_139 (by decide) ?_
  refine lv_iload hx hb dL_refuses_140 (lv_at hl 2 rfl) ?_
  refine lv_iconst (v := nI 0) hx hb dL_refuses_142 (by decide) ?_
  refine lv_iconst (v := nI 0) hx hb dL_refuses_143 (by decide) ?_
  refine lv_iconst (v := nI 0) hx hb dL_refuses_144 (by decide) ?_
  have hC : cGa st.1 (nI 4) (nI 0) (nI 0) (nI 0) = 1 := rc_ga (by decide)
  refine wr_i (vx_run0 (vx_runSX (As := [.ref (a 0), .int (nI 1), .int (nI 4), .int (nI 0), .int (nI 0), .int (nI 0)]) (rest := []) FX (w_act_gate l hfl G a ha t9 st (nI 4) (nI 0) (nI 0) (nI 0) hO) (vx_cwSW 6 hts gL_refuses_L_act rfl rfl rfl (by decide +kernel) ⟨Nat.le_of_ble_eq_true rfl, Nat.le_of_ble_eq_true rfl⟩) (preW hK hNW hCW (hLow.at hS (fun q9 _ q => rng_M q9 q)) (hX.at hS (fun q9 _ q => rng_M q9 q)) hNC) rfl rfl hl.1 rfl (lv_room (Nat.le_of_ble_eq_true rfl)) dL_refuses_145 (rmx (m := 1200) (n := 7200) (by omega) (by omega)))) hS (fun q h => h) (fun r _ H locs hp hCW hk hS => ?_)
  refine lv_as (y := -7000001) (hp.2.1 hC) ?_
  rw [stN_n hC (by decide)] at hCW
  have hCW : CW G a st H := hCW
  refine lv_ldc (v := -7000001) hx hb hown (hts (.constant RL 75 (-7000001)) (List.mem_of_getElem? (i := 5) (by decide +kernel))) dL_refuses_148 ?_
  refine lv_icmp_ne (tgt := 589) hx hb dL_refuses_150 (by decide) (fun c => absurd c (by decide)) (fun _ => ?_)
  refine lv_aload_n hx hb dL_refuses_153 rfl (lv_at hl 4 rfl) ?_
  refine lv_iconst (v := nI 1) hx hb dL_refuses_154 (by decide) ?_
  refine lv_iconst (v := nI 0) hx hb dL_refuses_155 (by decide) ?_
  refine lv_iload hx hb dL_refuses_156 (lv_at hl 2 rfl) ?_
  refine lv_iconst (v := nI 0) hx hb dL_refuses_158 (by decide) ?_
  refine lv_iconst (v := nI 0) hx hb dL_refuses_159 (by decide) ?_
  have hC : cGa st.1 (nI 0) (nI 4) (nI 0) (nI 0) = 1 := rc_gk (by decide)
  refine wr_i (vx_run0 (vx_runSX (As := [.ref (a 0), .int (nI 1), .int (nI 0), .int (nI 4), .int (nI 0), .int (nI 0)]) (rest := []) FX (w_act_gate l hfl G a ha t9 st (nI 0) (nI 4) (nI 0) (nI 0) hO) (vx_cwSW 6 hts gL_refuses_L_act rfl rfl rfl (by decide +kernel) ⟨Nat.le_of_ble_eq_true rfl, Nat.le_of_ble_eq_true rfl⟩) (preW hK hNW hCW (hLow.at hS (fun q9 _ q => rng_M q9 q)) (hX.at hS (fun q9 _ q => rng_M q9 q)) hNC) rfl rfl hl.1 rfl (lv_room (Nat.le_of_ble_eq_true rfl)) dL_refuses_160 (rmx (m := 1200) (n := 7200) (by omega) (by omega)))) hS (fun q h => h) (fun r _ H locs hp hCW hk hS => ?_)
  refine lv_as (y := -7000001) (hp.2.1 hC) ?_
  rw [stN_n hC (by decide)] at hCW
  have hCW : CW G a st H := hCW
  refine lv_ldc (v := -7000001) hx hb hown (hts (.constant RL 75 (-7000001)) (List.mem_of_getElem? (i := 5) (by decide +kernel))) dL_refuses_163 ?_
  refine lv_icmp_ne (tgt := 589) hx hb dL_refuses_165 (by decide) (fun c => absurd c (by decide)) (fun _ => ?_)
  refine lv_aload_n hx hb dL_refuses_168 rfl (lv_at hl 4 rfl) ?_
  refine lv_iconst (v := nI 2) hx hb dL_refuses_169 (by decide) ?_
  refine lv_iload hx hb dL_refuses_170 (lv_at hl 2 rfl) ?_
  refine lv_iconst (v := nI 0) hx hb dL_refuses_172 (by decide) ?_
  refine lv_iconst (v := nI 0) hx hb dL_refuses_173 (by decide) ?_
  refine lv_iconst (v := nI 0) hx hb dL_refuses_174 (by decide) ?_
  have hC : cOu st.1 (nI 4) (nI 0) = 1 := rc_ou (by decide)
  refine wr_i (vx_run0 (vx_runSX (As := [.ref (a 0), .int (nI 2), .int (nI 4), .int (nI 0), .int (nI 0), .int (nI 0)]) (rest := []) FX (w_act_out l hfl G a ha t9 st (nI 4) (nI 0) (nI 0) (nI 0) hO) (vx_cwSW 6 hts gL_refuses_L_act rfl rfl rfl (by decide +kernel) ⟨Nat.le_of_ble_eq_true rfl, Nat.le_of_ble_eq_true rfl⟩) (preW hK hNW hCW (hLow.at hS (fun q9 _ q => rng_M q9 q)) (hX.at hS (fun q9 _ q => rng_M q9 q)) hNC) rfl rfl hl.1 rfl (lv_room (Nat.le_of_ble_eq_true rfl)) dL_refuses_175 (rmx (m := 1200) (n := 7200) (by omega) (by omega)))) hS (fun q h => h) (fun r _ H locs hp hCW hk hS => ?_)
  refine lv_as (y := -7000001) (hp.2.1 hC) ?_
  rw [stN_n hC (by decide)] at hCW
  have hCW : CW G a st H := hCW
  refine lv_ldc (v := -7000001) hx hb hown (hts (.constant RL 75 (-7000001)) (List.mem_of_getElem? (i := 5) (by decide +kernel))) dL_refuses_178 ?_
  refine lv_icmp_ne (tgt := 589) hx hb dL_refuses_180 (by decide) (fun c => absurd c (by decide)) (fun _ => ?_)
  refine lv_aload_n hx hb dL_refuses_183 rfl (lv_at hl 4 rfl) ?_
  refine lv_iconst (v := nI 3) hx hb dL_refuses_184 (by decide) ?_
  refine lv_iload hx hb dL_refuses_185 (lv_at hl 2 rfl) ?_
  refine lv_bipush (v := nI 9) hx hb dL_refuses_187 (by decide) ?_
  refine lv_bipush (v := nI 9) hx hb dL_refuses_189 (by decide) ?_
  refine lv_iconst (v := nI 0) hx hb dL_refuses_191 (by decide) ?_
  have hC : cAd st.1 (nI 4) (nI 9) (nI 9) = 1 := rc_ad (by decide)
  refine wr_i (vx_run0 (vx_runSX (As := [.ref (a 0), .int (nI 3), .int (nI 4), .int (nI 9), .int (nI 9), .int (nI 0)]) (rest := []) FX (w_act_adder l hfl G a ha t9 st (nI 4) (nI 9) (nI 9) (nI 0) hO) (vx_cwSW 6 hts gL_refuses_L_act rfl rfl rfl (by decide +kernel) ⟨Nat.le_of_ble_eq_true rfl, Nat.le_of_ble_eq_true rfl⟩) (preW hK hNW hCW (hLow.at hS (fun q9 _ q => rng_M q9 q)) (hX.at hS (fun q9 _ q => rng_M q9 q)) hNC) rfl rfl hl.1 rfl (lv_room (Nat.le_of_ble_eq_true rfl)) dL_refuses_192 (rmx (m := 1200) (n := 7200) (by omega) (by omega)))) hS (fun q h => h) (fun r _ H locs hp hCW hk hS => ?_)
  refine lv_as (y := -7000001) (hp.2.1 hC) ?_
  rw [stN_n hC (by decide)] at hCW
  have hCW : CW G a st H := hCW
  refine lv_ldc (v := -7000001) hx hb hown (hts (.constant RL 75 (-7000001)) (List.mem_of_getElem? (i := 5) (by decide +kernel))) dL_refuses_195 ?_
  refine lv_icmp_ne (tgt := 589) hx hb dL_refuses_197 (by decide) (fun c => absurd c (by decide)) (fun _ => ?_)
  refine lv_aload_n hx hb dL_refuses_200 rfl (lv_at hl 4 rfl) ?_
  refine lv_iconst (v := nI 3) hx hb dL_refuses_201 (by decide) ?_
  refine lv_iconst (v := nI 0) hx hb dL_refuses_202 (by decide) ?_
  refine lv_iload_n hx hb dL_refuses_203 rfl (lv_at hl 7 rfl) ?_
  refine lv_iconst (v := nI 1) hx hb dL_refuses_204 (by decide) ?_
  refine lv_icmp_ne (tgt := 212) hx hb dL_refuses_205 (by decide) (fun c => absurd c (by decide)) (fun _ => ?_)
  refine lv_iconst (v := nI 3) hx hb dL_refuses_208 (by decide) ?_
  refine lv_goto (tgt := 214) hx hb dL_refuses_209 (by decide) ?_
  refine lv_iconst (v := nI 1) hx hb dL_refuses_214 (by decide) ?_
  refine lv_iconst (v := nI 0) hx hb dL_refuses_215 (by decide) ?_
  have hC : cAd st.1 (nI 0) (nI 3) (nI 1) = 2 := rc_af (by decide) (by decide)
  refine wr_i (vx_run0 (vx_runSX (As := [.ref (a 0), .int (nI 3), .int (nI 0), .int (nI 3), .int (nI 1), .int (nI 0)]) (rest := []) FX (w_act_adder l hfl G a ha t9 st (nI 0) (nI 3) (nI 1) (nI 0) hO) (vx_cwSW 6 hts gL_refuses_L_act rfl rfl rfl (by decide +kernel) ⟨Nat.le_of_ble_eq_true rfl, Nat.le_of_ble_eq_true rfl⟩) (preW hK hNW hCW (hLow.at hS (fun q9 _ q => rng_M q9 q)) (hX.at hS (fun q9 _ q => rng_M q9 q)) hNC) rfl rfl hl.1 rfl (lv_room (Nat.le_of_ble_eq_true rfl)) dL_refuses_216 (rmx (m := 1200) (n := 7200) (by omega) (by omega)))) hS (fun q h => h) (fun r _ H locs hp hCW hk hS => ?_)
  refine lv_as (y := -7000002) (hp.2.2.1 hC) ?_
  rw [stN_n hC (by decide)] at hCW
  have hCW : CW G a st H := hCW
  refine lv_ldc (v := -7000002) hx hb hown (hts (.constant RL 78 (-7000002)) (List.mem_of_getElem? (i := 6) (by decide +kernel))) dL_refuses_219 ?_
  refine lv_icmp_ne (tgt := 589) hx hb dL_refuses_221 (by decide) (fun c => absurd c (by decide)) (fun _ => ?_)
  refine lv_aload_n hx hb dL_refuses_224 rfl (lv_at hl 4 rfl) ?_
  refine lv_iconst (v := nI 3) hx hb dL_refuses_225 (by decide) ?_
  refine lv_iconst (v := nI 0) hx hb dL_refuses_226 (by decide) ?_
  refine lv_iconst (v := nI 0) hx hb dL_refuses_227 (by decide) ?_
  refine lv_iload_n hx hb dL_refuses_228 rfl (lv_at hl 7 rfl) ?_
  refine lv_if_ne (tgt := 236) hx hb dL_refuses_229 (by decide) (fun _ => ?_) (fun c => absurd c (by decide))
  refine lv_iload_n hx hb dL_refuses_236 rfl (lv_at hl 7 rfl) ?_
  refine lv_iconst (v := nI 1) hx hb dL_refuses_237 (by decide) ?_
  refine lv_icmp_ne (tgt := 246) hx hb dL_refuses_238 (by decide) (fun c => absurd c (by decide)) (fun _ => ?_)
  refine lv_bipush (v := nI 7) hx hb dL_refuses_241 (by decide) ?_
  refine lv_goto (tgt := 248) hx hb dL_refuses_243 (by decide) ?_
  refine lv_iconst (v := nI 0) hx hb dL_refuses_248 (by decide) ?_
  have hC : cAd st.1 (nI 0) (nI 0) (nI 7) = 2 := rc_aw (by decide) (by decide)
  refine wr_i (vx_run0 (vx_runSX (As := [.ref (a 0), .int (nI 3), .int (nI 0), .int (nI 0), .int (nI 7), .int (nI 0)]) (rest := []) FX (w_act_adder l hfl G a ha t9 st (nI 0) (nI 0) (nI 7) (nI 0) hO) (vx_cwSW 6 hts gL_refuses_L_act rfl rfl rfl (by decide +kernel) ⟨Nat.le_of_ble_eq_true rfl, Nat.le_of_ble_eq_true rfl⟩) (preW hK hNW hCW (hLow.at hS (fun q9 _ q => rng_M q9 q)) (hX.at hS (fun q9 _ q => rng_M q9 q)) hNC) rfl rfl hl.1 rfl (lv_room (Nat.le_of_ble_eq_true rfl)) dL_refuses_249 (rmx (m := 1200) (n := 7200) (by omega) (by omega)))) hS (fun q h => h) (fun r _ H locs hp hCW hk hS => ?_)
  refine lv_as (y := -7000002) (hp.2.2.1 hC) ?_
  rw [stN_n hC (by decide)] at hCW
  have hCW : CW G a st H := hCW
  refine lv_ldc (v := -7000002) hx hb hown (hts (.constant RL 78 (-7000002)) (List.mem_of_getElem? (i := 6) (by decide +kernel))) dL_refuses_252 ?_
  refine lv_icmp_ne (tgt := 589) hx hb dL_refuses_254 (by decide) (fun c => absurd c (by decide)) (fun _ => ?_)
  refine lv_aload_n hx hb dL_refuses_257 rfl (lv_at hl 4 rfl) ?_
  refine lv_iconst (v := nI 4) hx hb dL_refuses_258 (by decide) ?_
  refine lv_iload hx hb dL_refuses_259 (lv_at hl 2 rfl) ?_
  refine lv_bipush (v := nI 9) hx hb dL_refuses_261 (by decide) ?_
  refine lv_iconst (v := nI 0) hx hb dL_refuses_263 (by decide) ?_
  refine lv_iconst (v := nI 0) hx hb dL_refuses_264 (by decide) ?_
  have hC : cMu st.1 (nI 4) (nI 9) = 1 := rc_mu (by decide)
  refine wr_i (vx_run0 (vx_runSX (As := [.ref (a 0), .int (nI 4), .int (nI 4), .int (nI 9), .int (nI 0), .int (nI 0)]) (rest := []) FX (w_act_multiplier l hfl G a ha t9 st (nI 4) (nI 9) (nI 0) (nI 0) hO) (vx_cwSW 6 hts gL_refuses_L_act rfl rfl rfl (by decide +kernel) ⟨Nat.le_of_ble_eq_true rfl, Nat.le_of_ble_eq_true rfl⟩) (preW hK hNW hCW (hLow.at hS (fun q9 _ q => rng_M q9 q)) (hX.at hS (fun q9 _ q => rng_M q9 q)) hNC) rfl rfl hl.1 rfl (lv_room (Nat.le_of_ble_eq_true rfl)) dL_refuses_265 (rmx (m := 1200) (n := 7200) (by omega) (by omega)))) hS (fun q h => h) (fun r _ H locs hp hCW hk hS => ?_)
  refine lv_as (y := -7000001) (hp.2.1 hC) ?_
  rw [stN_n hC (by decide)] at hCW
  have hCW : CW G a st H := hCW
  refine lv_ldc (v := -7000001) hx hb hown (hts (.constant RL 75 (-7000001)) (List.mem_of_getElem? (i := 5) (by decide +kernel))) dL_refuses_268 ?_
  refine lv_icmp_ne (tgt := 589) hx hb dL_refuses_270 (by decide) (fun c => absurd c (by decide)) (fun _ => ?_)
  refine lv_aload_n hx hb dL_refuses_273 rfl (lv_at hl 4 rfl) ?_
  refine lv_iconst (v := nI 4) hx hb dL_refuses_274 (by decide) ?_
  refine lv_iconst (v := nI 0) hx hb dL_refuses_275 (by decide) ?_
  refine lv_iload_n hx hb dL_refuses_276 rfl (lv_at hl 7 rfl) ?_
  refine lv_if_ne (tgt := 284) hx hb dL_refuses_277 (by decide) (fun _ => ?_) (fun c => absurd c (by decide))
  refine lv_iload_n hx hb dL_refuses_284 rfl (lv_at hl 7 rfl) ?_
  refine lv_iconst (v := nI 1) hx hb dL_refuses_285 (by decide) ?_
  refine lv_icmp_ne (tgt := 293) hx hb dL_refuses_286 (by decide) (fun c => absurd c (by decide)) (fun _ => ?_)
  refine lv_iconst (v := nI 5) hx hb dL_refuses_289 (by decide) ?_
  refine lv_goto (tgt := 295) hx hb dL_refuses_290 (by decide) ?_
  refine lv_iconst (v := nI 0) hx hb dL_refuses_295 (by decide) ?_
  refine lv_iconst (v := nI 0) hx hb dL_refuses_296 (by decide) ?_
  have hC : cMu st.1 (nI 0) (nI 5) = 2 := rc_mw (by decide) (by decide)
  refine wr_i (vx_run0 (vx_runSX (As := [.ref (a 0), .int (nI 4), .int (nI 0), .int (nI 5), .int (nI 0), .int (nI 0)]) (rest := []) FX (w_act_multiplier l hfl G a ha t9 st (nI 0) (nI 5) (nI 0) (nI 0) hO) (vx_cwSW 6 hts gL_refuses_L_act rfl rfl rfl (by decide +kernel) ⟨Nat.le_of_ble_eq_true rfl, Nat.le_of_ble_eq_true rfl⟩) (preW hK hNW hCW (hLow.at hS (fun q9 _ q => rng_M q9 q)) (hX.at hS (fun q9 _ q => rng_M q9 q)) hNC) rfl rfl hl.1 rfl (lv_room (Nat.le_of_ble_eq_true rfl)) dL_refuses_297 (rmx (m := 1200) (n := 7200) (by omega) (by omega)))) hS (fun q h => h) (fun r _ H locs hp hCW hk hS => ?_)
  refine lv_as (y := -7000002) (hp.2.2.1 hC) ?_
  rw [stN_n hC (by decide)] at hCW
  have hCW : CW G a st H := hCW
  refine lv_ldc (v := -7000002) hx hb hown (hts (.constant RL 78 (-7000002)) (List.mem_of_getElem? (i := 6) (by decide +kernel))) dL_refuses_300 ?_
  refine lv_icmp_ne (tgt := 589) hx hb dL_refuses_302 (by decide) (fun c => absurd c (by decide)) (fun _ => ?_)
  refine lv_aload_n hx hb dL_refuses_305 rfl (lv_at hl 4 rfl) ?_
  refine lv_iconst (v := nI 5) hx hb dL_refuses_306 (by decide) ?_
  refine lv_iload hx hb dL_refuses_307 (lv_at hl 2 rfl) ?_
  refine lv_iconst (v := nI 0) hx hb dL_refuses_309 (by decide) ?_
  refine lv_iconst (v := nI 0) hx hb dL_refuses_310 (by decide) ?_
  refine lv_iconst (v := nI 0) hx hb dL_refuses_311 (by decide) ?_
  have hC : cCl (nI 4) = 1 := by decide
  refine wr_i (vx_run0 (vx_runSX (As := [.ref (a 0), .int (nI 5), .int (nI 4), .int (nI 0), .int (nI 0), .int (nI 0)]) (rest := []) FX (w_act_clear l hfl G a ha t9 st (nI 4) (nI 0) (nI 0) (nI 0) hO) (vx_cwSW 6 hts gL_refuses_L_act rfl rfl rfl (by decide +kernel) ⟨Nat.le_of_ble_eq_true rfl, Nat.le_of_ble_eq_true rfl⟩) (preW hK hNW hCW (hLow.at hS (fun q9 _ q => rng_M q9 q)) (hX.at hS (fun q9 _ q => rng_M q9 q)) hNC) rfl rfl hl.1 rfl (lv_room (Nat.le_of_ble_eq_true rfl)) dL_refuses_312 (rmx (m := 1200) (n := 7200) (by omega) (by omega)))) hS (fun q h => h) (fun r _ H locs hp hCW hk hS => ?_)
  refine lv_as (y := -7000001) (hp.2.1 hC) ?_
  rw [stN_n hC (by decide)] at hCW
  have hCW : CW G a st H := hCW
  refine lv_ldc (v := -7000001) hx hb hown (hts (.constant RL 75 (-7000001)) (List.mem_of_getElem? (i := 5) (by decide +kernel))) dL_refuses_315 ?_
  refine lv_icmp_ne (tgt := 589) hx hb dL_refuses_317 (by decide) (fun c => absurd c (by decide)) (fun _ => ?_)
  refine lv_aload_n hx hb dL_refuses_320 rfl (lv_at hl 4 rfl) ?_
  refine lv_bipush (v := nI 6) hx hb dL_refuses_321 (by decide) ?_
  refine lv_iload hx hb dL_refuses_323 (lv_at hl 2 rfl) ?_
  refine lv_iconst (v := nI 0) hx hb dL_refuses_325 (by decide) ?_
  refine lv_bipush (v := nI 100) hx hb dL_refuses_326 (by decide) ?_
  refine lv_iconst (v := nI 0) hx hb dL_refuses_328 (by decide) ?_
  have hC : cCo (nI 4) (nI 0) (nI 100) = 1 := by decide
  refine wr_i (vx_run0 (vx_runSX (As := [.ref (a 0), .int (nI 6), .int (nI 4), .int (nI 0), .int (nI 100), .int (nI 0)]) (rest := []) FX (w_act_cost l hfl G a ha t9 st (nI 4) (nI 0) (nI 100) (nI 0) hO) (vx_cwSW 6 hts gL_refuses_L_act rfl rfl rfl (by decide +kernel) ⟨Nat.le_of_ble_eq_true rfl, Nat.le_of_ble_eq_true rfl⟩) (preW hK hNW hCW (hLow.at hS (fun q9 _ q => rng_M q9 q)) (hX.at hS (fun q9 _ q => rng_M q9 q)) hNC) rfl rfl hl.1 rfl (lv_room (Nat.le_of_ble_eq_true rfl)) dL_refuses_329 (rmx (m := 1200) (n := 7200) (by omega) (by omega)))) hS (fun q h => h) (fun r _ H locs hp hCW hk hS => ?_)
  refine lv_as (y := -7000001) (hp.2.1 hC) ?_
  rw [stN_n hC (by decide), stN_n hC (by decide)] at hCW
  have hCW : CW G a st H := hCW
  refine lv_ldc (v := -7000001) hx hb hown (hts (.constant RL 75 (-7000001)) (List.mem_of_getElem? (i := 5) (by decide +kernel))) dL_refuses_332 ?_
  refine lv_icmp_ne (tgt := 589) hx hb dL_refuses_334 (by decide) (fun c => absurd c (by decide)) (fun _ => ?_)
  refine lv_aload_n hx hb dL_refuses_337 rfl (lv_at hl 4 rfl) ?_
  refine lv_bipush (v := nI 6) hx hb dL_refuses_338 (by decide) ?_
  refine lv_iconst (v := nI 0) hx hb dL_refuses_340 (by decide) ?_
  refine lv_iload_n hx hb dL_refuses_341 rfl (lv_at hl 7 rfl) ?_
  refine lv_if_ne (tgt := 349) hx hb dL_refuses_342 (by decide) (fun _ => ?_) (fun c => absurd c (by decide))
  refine lv_iload_n hx hb dL_refuses_349 rfl (lv_at hl 7 rfl) ?_
  refine lv_iconst (v := nI 1) hx hb dL_refuses_350 (by decide) ?_
  refine lv_icmp_ne (tgt := 359) hx hb dL_refuses_351 (by decide) (fun c => absurd c (by decide)) (fun _ => ?_)
  refine lv_bipush (v := nI 10) hx hb dL_refuses_354 (by decide) ?_
  refine lv_goto (tgt := 361) hx hb dL_refuses_356 (by decide) ?_
  refine lv_iconst (v := nI 1) hx hb dL_refuses_361 (by decide) ?_
  refine lv_iconst (v := nI 0) hx hb dL_refuses_362 (by decide) ?_
  have hC : cCo (nI 0) (nI 10) (nI 1) = 2 := by decide
  refine wr_i (vx_run0 (vx_runSX (As := [.ref (a 0), .int (nI 6), .int (nI 0), .int (nI 10), .int (nI 1), .int (nI 0)]) (rest := []) FX (w_act_cost l hfl G a ha t9 st (nI 0) (nI 10) (nI 1) (nI 0) hO) (vx_cwSW 6 hts gL_refuses_L_act rfl rfl rfl (by decide +kernel) ⟨Nat.le_of_ble_eq_true rfl, Nat.le_of_ble_eq_true rfl⟩) (preW hK hNW hCW (hLow.at hS (fun q9 _ q => rng_M q9 q)) (hX.at hS (fun q9 _ q => rng_M q9 q)) hNC) rfl rfl hl.1 rfl (lv_room (Nat.le_of_ble_eq_true rfl)) dL_refuses_363 (rmx (m := 1200) (n := 7200) (by omega) (by omega)))) hS (fun q h => h) (fun r _ H locs hp hCW hk hS => ?_)
  refine lv_as (y := -7000002) (hp.2.2.1 hC) ?_
  rw [stN_n hC (by decide), stN_n hC (by decide)] at hCW
  have hCW : CW G a st H := hCW
  refine lv_ldc (v := -7000002) hx hb hown (hts (.constant RL 78 (-7000002)) (List.mem_of_getElem? (i := 6) (by decide +kernel))) dL_refuses_366 ?_
  refine lv_icmp_ne (tgt := 589) hx hb dL_refuses_368 (by decide) (fun c => absurd c (by decide)) (fun _ => ?_)
  refine lv_aload_n hx hb dL_refuses_371 rfl (lv_at hl 4 rfl) ?_
  refine lv_bipush (v := nI 6) hx hb dL_refuses_372 (by decide) ?_
  refine lv_iconst (v := nI 0) hx hb dL_refuses_374 (by decide) ?_
  refine lv_iconst (v := nI 1) hx hb dL_refuses_375 (by decide) ?_
  refine lv_iload_n hx hb dL_refuses_376 rfl (lv_at hl 7 rfl) ?_
  refine lv_iconst (v := nI 1) hx hb dL_refuses_377 (by decide) ?_
  refine lv_icmp_ne (tgt := 386) hx hb dL_refuses_378 (by decide) (fun c => absurd c (by decide)) (fun _ => ?_)
  refine lv_bipush (v := nI 100) hx hb dL_refuses_381 (by decide) ?_
  refine lv_goto (tgt := 388) hx hb dL_refuses_383 (by decide) ?_
  refine lv_iconst (v := nI 0) hx hb dL_refuses_388 (by decide) ?_
  have hC : cCo (nI 0) (nI 1) (nI 100) = 2 := by decide
  refine wr_i (vx_run0 (vx_runSX (As := [.ref (a 0), .int (nI 6), .int (nI 0), .int (nI 1), .int (nI 100), .int (nI 0)]) (rest := []) FX (w_act_cost l hfl G a ha t9 st (nI 0) (nI 1) (nI 100) (nI 0) hO) (vx_cwSW 6 hts gL_refuses_L_act rfl rfl rfl (by decide +kernel) ⟨Nat.le_of_ble_eq_true rfl, Nat.le_of_ble_eq_true rfl⟩) (preW hK hNW hCW (hLow.at hS (fun q9 _ q => rng_M q9 q)) (hX.at hS (fun q9 _ q => rng_M q9 q)) hNC) rfl rfl hl.1 rfl (lv_room (Nat.le_of_ble_eq_true rfl)) dL_refuses_389 (rmx (m := 1200) (n := 7200) (by omega) (by omega)))) hS (fun q h => h) (fun r _ H locs hp hCW hk hS => ?_)
  refine lv_as (y := -7000002) (hp.2.2.1 hC) ?_
  rw [stN_n hC (by decide), stN_n hC (by decide)] at hCW
  have hCW : CW G a st H := hCW
  refine lv_ldc (v := -7000002) hx hb hown (hts (.constant RL 78 (-7000002)) (List.mem_of_getElem? (i := 6) (by decide +kernel))) dL_refuses_392 ?_
  refine lv_icmp_ne (tgt := 589) hx hb dL_refuses_394 (by decide) (fun c => absurd c (by decide)) (fun _ => ?_)
  refine lv_aload_n hx hb dL_refuses_397 rfl (lv_at hl 4 rfl) ?_
  refine lv_bipush (v := nI 7) hx hb dL_refuses_398 (by decide) ?_
  refine lv_iload hx hb dL_refuses_400 (lv_at hl 2 rfl) ?_
  refine lv_iconst (v := nI 0) hx hb dL_refuses_402 (by decide) ?_
  refine lv_bipush (v := nI 9) hx hb dL_refuses_403 (by decide) ?_
  refine lv_iconst (v := nI 0) hx hb dL_refuses_405 (by decide) ?_
  have hC : cSt st.1 (nI 4) (nI 0) (nI 9) = 1 := rc_st (by decide)
  refine wr_i (vx_run0 (vx_runSX (As := [.ref (a 0), .int (nI 7), .int (nI 4), .int (nI 0), .int (nI 9), .int (nI 0)]) (rest := []) FX (w_act_stick l hfl G a ha t9 st (nI 4) (nI 0) (nI 9) (nI 0) hO) (vx_cwSW 6 hts gL_refuses_L_act rfl rfl rfl (by decide +kernel) ⟨Nat.le_of_ble_eq_true rfl, Nat.le_of_ble_eq_true rfl⟩) (preW hK hNW hCW (hLow.at hS (fun q9 _ q => rng_M q9 q)) (hX.at hS (fun q9 _ q => rng_M q9 q)) hNC) rfl rfl hl.1 rfl (lv_room (Nat.le_of_ble_eq_true rfl)) dL_refuses_406 (rmx (m := 1200) (n := 7200) (by omega) (by omega)))) hS (fun q h => h) (fun r _ H locs hp hCW hk hS => ?_)
  refine lv_as (y := -7000001) (hp.2.1 hC) ?_
  rw [stN_n hC (by decide)] at hCW
  have hCW : CW G a st H := hCW
  refine lv_ldc (v := -7000001) hx hb hown (hts (.constant RL 75 (-7000001)) (List.mem_of_getElem? (i := 5) (by decide +kernel))) dL_refuses_409 ?_
  refine lv_icmp_ne (tgt := 589) hx hb dL_refuses_411 (by decide) (fun c => absurd c (by decide)) (fun _ => ?_)
  refine lv_aload_n hx hb dL_refuses_414 rfl (lv_at hl 4 rfl) ?_
  refine lv_bipush (v := nI 8) hx hb dL_refuses_415 (by decide) ?_
  refine lv_iload hx hb dL_refuses_417 (lv_at hl 2 rfl) ?_
  refine lv_iconst (v := nI 0) hx hb dL_refuses_419 (by decide) ?_
  refine lv_iconst (v := -1) hx hb dL_refuses_420 (by decide) ?_
  refine lv_iconst (v := nI 0) hx hb dL_refuses_421 (by decide) ?_
  have hC : cBi st.1 (nI 4) (nI 0) (-1) = 1 := rc_bi (by decide)
  refine wr_i (vx_run0 (vx_runSX (As := [.ref (a 0), .int (nI 8), .int (nI 4), .int (nI 0), .int (-1), .int (nI 0)]) (rest := []) FX (w_act_bit l hfl G a ha t9 st (nI 4) (nI 0) (-1) (nI 0) hO) (vx_cwSW 6 hts gL_refuses_L_act rfl rfl rfl (by decide +kernel) ⟨Nat.le_of_ble_eq_true rfl, Nat.le_of_ble_eq_true rfl⟩) (preW hK hNW hCW (hLow.at hS (fun q9 _ q => rng_M q9 q)) (hX.at hS (fun q9 _ q => rng_M q9 q)) hNC) rfl rfl hl.1 rfl (lv_room (Nat.le_of_ble_eq_true rfl)) dL_refuses_422 (rmx (m := 1200) (n := 7200) (by omega) (by omega)))) hS (fun q h => h) (fun r _ H locs hp hCW hk hS => ?_)
  refine lv_as (y := -7000001) (hp.2.1 hC) ?_
  have hCW : CW G a st H := hCW
  refine lv_ldc (v := -7000001) hx hb hown (hts (.constant RL 75 (-7000001)) (List.mem_of_getElem? (i := 5) (by decide +kernel))) dL_refuses_425 ?_
  refine lv_icmp_ne (tgt := 589) hx hb dL_refuses_427 (by decide) (fun c => absurd c (by decide)) (fun _ => ?_)
  refine lv_aload_n hx hb dL_refuses_430 rfl (lv_at hl 4 rfl) ?_
  refine lv_bipush (v := nI 9) hx hb dL_refuses_431 (by decide) ?_
  refine lv_iload hx hb dL_refuses_433 (lv_at hl 2 rfl) ?_
  refine lv_iconst (v := -1) hx hb dL_refuses_435 (by decide) ?_
  refine lv_iconst (v := nI 0) hx hb dL_refuses_436 (by decide) ?_
  refine lv_iconst (v := nI 0) hx hb dL_refuses_437 (by decide) ?_
  have hC : cVa (nI 4) (-1) = 1 := by decide
  refine wr_i (vx_run0 (vx_runSX (As := [.ref (a 0), .int (nI 9), .int (nI 4), .int (-1), .int (nI 0), .int (nI 0)]) (rest := []) FX (w_act_value l hfl G a ha t9 st (nI 4) (-1) (nI 0) (nI 0) hO) (vx_cwSW 6 hts gL_refuses_L_act rfl rfl rfl (by decide +kernel) ⟨Nat.le_of_ble_eq_true rfl, Nat.le_of_ble_eq_true rfl⟩) (preW hK hNW hCW (hLow.at hS (fun q9 _ q => rng_M q9 q)) (hX.at hS (fun q9 _ q => rng_M q9 q)) hNC) rfl rfl hl.1 rfl (lv_room (Nat.le_of_ble_eq_true rfl)) dL_refuses_438 (rmx (m := 1200) (n := 7200) (by omega) (by omega)))) hS (fun q h => h) (fun r _ H locs hp hCW hk hS => ?_)
  refine lv_as (y := -7000001) (hp.2.1 hC) ?_
  have hCW : CW G a st H := hCW
  refine lv_ldc (v := -7000001) hx hb hown (hts (.constant RL 75 (-7000001)) (List.mem_of_getElem? (i := 5) (by decide +kernel))) dL_refuses_441 ?_
  refine lv_icmp_ne (tgt := 589) hx hb dL_refuses_443 (by decide) (fun c => absurd c (by decide)) (fun _ => ?_)
  refine lv_aload_n hx hb dL_refuses_446 rfl (lv_at hl 4 rfl) ?_
  refine lv_bipush (v := nI 9) hx hb dL_refuses_447 (by decide) ?_
  refine lv_iconst (v := nI 0) hx hb dL_refuses_449 (by decide) ?_
  refine lv_iload hx hb dL_refuses_450 (lv_at hl 1 rfl) ?_
  refine lv_iconst (v := nI 0) hx hb dL_refuses_452 (by decide) ?_
  refine lv_iconst (v := nI 0) hx hb dL_refuses_453 (by decide) ?_
  have hC : cVa (nI 0) (nI 1073741824) = 2 := by decide
  refine wr_i (vx_run0 (vx_runSX (As := [.ref (a 0), .int (nI 9), .int (nI 0), .int (nI 1073741824), .int (nI 0), .int (nI 0)]) (rest := []) FX (w_act_value l hfl G a ha t9 st (nI 0) (nI 1073741824) (nI 0) (nI 0) hO) (vx_cwSW 6 hts gL_refuses_L_act rfl rfl rfl (by decide +kernel) ⟨Nat.le_of_ble_eq_true rfl, Nat.le_of_ble_eq_true rfl⟩) (preW hK hNW hCW (hLow.at hS (fun q9 _ q => rng_M q9 q)) (hX.at hS (fun q9 _ q => rng_M q9 q)) hNC) rfl rfl hl.1 rfl (lv_room (Nat.le_of_ble_eq_true rfl)) dL_refuses_454 (rmx (m := 1200) (n := 7200) (by omega) (by omega)))) hS (fun q h => h) (fun r _ H locs hp hCW hk hS => ?_)
  refine lv_as (y := -7000002) (hp.2.2.1 hC) ?_
  have hCW : CW G a st H := hCW
  refine lv_ldc (v := -7000002) hx hb hown (hts (.constant RL 78 (-7000002)) (List.mem_of_getElem? (i := 6) (by decide +kernel))) dL_refuses_457 ?_
  refine lv_icmp_ne (tgt := 589) hx hb dL_refuses_459 (by decide) (fun c => absurd c (by decide)) (fun _ => ?_)
  refine lv_aload_n hx hb dL_refuses_462 rfl (lv_at hl 4 rfl) ?_
  refine lv_bipush (v := nI 10) hx hb dL_refuses_463 (by decide) ?_
  refine lv_iload hx hb dL_refuses_465 (lv_at hl 2 rfl) ?_
  refine lv_iconst (v := -1) hx hb dL_refuses_467 (by decide) ?_
  refine lv_iconst (v := nI 0) hx hb dL_refuses_468 (by decide) ?_
  refine lv_iconst (v := nI 0) hx hb dL_refuses_469 (by decide) ?_
  have hC : cVa (nI 4) (-1) = 1 := by decide
  refine wr_i (vx_run0 (vx_runSX (As := [.ref (a 0), .int (nI 10), .int (nI 4), .int (-1), .int (nI 0), .int (nI 0)]) (rest := []) FX (w_act_valueAnew l hfl G a ha t9 st (nI 4) (-1) (nI 0) (nI 0) hO) (vx_cwSW 6 hts gL_refuses_L_act rfl rfl rfl (by decide +kernel) ⟨Nat.le_of_ble_eq_true rfl, Nat.le_of_ble_eq_true rfl⟩) (preW hK hNW hCW (hLow.at hS (fun q9 _ q => rng_M q9 q)) (hX.at hS (fun q9 _ q => rng_M q9 q)) hNC) rfl rfl hl.1 rfl (lv_room (Nat.le_of_ble_eq_true rfl)) dL_refuses_470 (rmx (m := 1200) (n := 7200) (by omega) (by omega)))) hS (fun q h => h) (fun r _ H locs hp hCW hk hS => ?_)
  refine lv_as (y := -7000001) (hp.2.1 hC) ?_
  have hCW : CW G a st H := hCW
  refine lv_ldc (v := -7000001) hx hb hown (hts (.constant RL 75 (-7000001)) (List.mem_of_getElem? (i := 5) (by decide +kernel))) dL_refuses_473 ?_
  refine lv_icmp_ne (tgt := 589) hx hb dL_refuses_475 (by decide) (fun c => absurd c (by decide)) (fun _ => ?_)
  refine lv_aload_n hx hb dL_refuses_478 rfl (lv_at hl 4 rfl) ?_
  refine lv_bipush (v := nI 10) hx hb dL_refuses_479 (by decide) ?_
  refine lv_iconst (v := nI 0) hx hb dL_refuses_481 (by decide) ?_
  refine lv_iload hx hb dL_refuses_482 (lv_at hl 1 rfl) ?_
  refine lv_iconst (v := nI 0) hx hb dL_refuses_484 (by decide) ?_
  refine lv_iconst (v := nI 0) hx hb dL_refuses_485 (by decide) ?_
  have hC : cVa (nI 0) (nI 1073741824) = 2 := by decide
  refine wr_i (vx_run0 (vx_runSX (As := [.ref (a 0), .int (nI 10), .int (nI 0), .int (nI 1073741824), .int (nI 0), .int (nI 0)]) (rest := []) FX (w_act_valueAnew l hfl G a ha t9 st (nI 0) (nI 1073741824) (nI 0) (nI 0) hO) (vx_cwSW 6 hts gL_refuses_L_act rfl rfl rfl (by decide +kernel) ⟨Nat.le_of_ble_eq_true rfl, Nat.le_of_ble_eq_true rfl⟩) (preW hK hNW hCW (hLow.at hS (fun q9 _ q => rng_M q9 q)) (hX.at hS (fun q9 _ q => rng_M q9 q)) hNC) rfl rfl hl.1 rfl (lv_room (Nat.le_of_ble_eq_true rfl)) dL_refuses_486 (rmx (m := 1200) (n := 7200) (by omega) (by omega)))) hS (fun q h => h) (fun r _ H locs hp hCW hk hS => ?_)
  refine lv_as (y := -7000002) (hp.2.2.1 hC) ?_
  have hCW : CW G a st H := hCW
  refine lv_ldc (v := -7000002) hx hb hown (hts (.constant RL 78 (-7000002)) (List.mem_of_getElem? (i := 6) (by decide +kernel))) dL_refuses_489 ?_
  refine lv_icmp_ne (tgt := 589) hx hb dL_refuses_491 (by decide) (fun c => absurd c (by decide)) (fun _ => ?_)
  refine lv_aload_n hx hb dL_refuses_494 rfl (lv_at hl 4 rfl) ?_
  refine lv_bipush (v := nI 11) hx hb dL_refuses_495 (by decide) ?_
  refine lv_iload hx hb dL_refuses_497 (lv_at hl 2 rfl) ?_
  refine lv_bipush (v := nI 99) hx hb dL_refuses_499 (by decide) ?_
  refine lv_iconst (v := nI 0) hx hb dL_refuses_501 (by decide) ?_
  refine lv_iconst (v := nI 0) hx hb dL_refuses_502 (by decide) ?_
  have hC : cOf (nI 4) (nI 99) = 1 := by decide
  refine wr_i (vx_run0 (vx_runSX (As := [.ref (a 0), .int (nI 11), .int (nI 4), .int (nI 99), .int (nI 0), .int (nI 0)]) (rest := []) FX (w_act_ofNet l hfl G a ha t9 st (nI 4) (nI 99) (nI 0) (nI 0) hO) (vx_cwSW 6 hts gL_refuses_L_act rfl rfl rfl (by decide +kernel) ⟨Nat.le_of_ble_eq_true rfl, Nat.le_of_ble_eq_true rfl⟩) (preW hK hNW hCW (hLow.at hS (fun q9 _ q => rng_M q9 q)) (hX.at hS (fun q9 _ q => rng_M q9 q)) hNC) rfl rfl hl.1 rfl (lv_room (Nat.le_of_ble_eq_true rfl)) dL_refuses_503 (rmx (m := 1200) (n := 7200) (by omega) (by omega)))) hS (fun q h => h) (fun r _ H locs hp hCW hk hS => ?_)
  refine lv_as (y := -7000001) (hp.2.1 hC) ?_
  have hCW : CW G a st H := hCW
  refine lv_ldc (v := -7000001) hx hb hown (hts (.constant RL 75 (-7000001)) (List.mem_of_getElem? (i := 5) (by decide +kernel))) dL_refuses_506 ?_
  refine lv_icmp_ne (tgt := 589) hx hb dL_refuses_508 (by decide) (fun c => absurd c (by decide)) (fun _ => ?_)
  refine lv_aload_n hx hb dL_refuses_511 rfl (lv_at hl 4 rfl) ?_
  refine lv_bipush (v := nI 11) hx hb dL_refuses_512 (by decide) ?_
  refine lv_iconst (v := nI 0) hx hb dL_refuses_514 (by decide) ?_
  refine lv_iload_n hx hb dL_refuses_515 rfl (lv_at hl 7 rfl) ?_
  refine lv_iconst (v := nI 1) hx hb dL_refuses_516 (by decide) ?_
  refine lv_icmp_ne (tgt := 525) hx hb dL_refuses_517 (by decide) (fun c => absurd c (by decide)) (fun _ => ?_)
  refine lv_bipush (v := nI 7) hx hb dL_refuses_520 (by decide) ?_
  refine lv_goto (tgt := 527) hx hb dL_refuses_522 (by decide) ?_
  refine lv_iconst (v := nI 0) hx hb dL_refuses_527 (by decide) ?_
  refine lv_iconst (v := nI 0) hx hb dL_refuses_528 (by decide) ?_
  have hC : cOf (nI 0) (nI 7) = 2 := by decide
  refine wr_i (vx_run0 (vx_runSX (As := [.ref (a 0), .int (nI 11), .int (nI 0), .int (nI 7), .int (nI 0), .int (nI 0)]) (rest := []) FX (w_act_ofNet l hfl G a ha t9 st (nI 0) (nI 7) (nI 0) (nI 0) hO) (vx_cwSW 6 hts gL_refuses_L_act rfl rfl rfl (by decide +kernel) ⟨Nat.le_of_ble_eq_true rfl, Nat.le_of_ble_eq_true rfl⟩) (preW hK hNW hCW (hLow.at hS (fun q9 _ q => rng_M q9 q)) (hX.at hS (fun q9 _ q => rng_M q9 q)) hNC) rfl rfl hl.1 rfl (lv_room (Nat.le_of_ble_eq_true rfl)) dL_refuses_529 (rmx (m := 1200) (n := 7200) (by omega) (by omega)))) hS (fun q h => h) (fun r _ H locs hp hCW hk hS => ?_)
  refine lv_as (y := -7000002) (hp.2.2.1 hC) ?_
  have hCW : CW G a st H := hCW
  refine lv_ldc (v := -7000002) hx hb hown (hts (.constant RL 78 (-7000002)) (List.mem_of_getElem? (i := 6) (by decide +kernel))) dL_refuses_532 ?_
  refine lv_icmp_ne (tgt := 589) hx hb dL_refuses_534 (by decide) (fun c => absurd c (by decide)) (fun _ => ?_)
  refine lv_aload_n hx hb dL_refuses_537 rfl (lv_at hl 4 rfl) ?_
  refine lv_bipush (v := nI 12) hx hb dL_refuses_538 (by decide) ?_
  refine lv_iload hx hb dL_refuses_540 (lv_at hl 2 rfl) ?_
  refine lv_iconst (v := nI 0) hx hb dL_refuses_542 (by decide) ?_
  refine lv_iconst (v := nI 0) hx hb dL_refuses_543 (by decide) ?_
  refine lv_iconst (v := nI 0) hx hb dL_refuses_544 (by decide) ?_
  have hC : cTi st.1 (nI 4) (nI 0) = 1 := rc_ti (by decide)
  refine wr_i (vx_run0 (vx_runSX (As := [.ref (a 0), .int (nI 12), .int (nI 4), .int (nI 0), .int (nI 0), .int (nI 0)]) (rest := []) FX (w_act_time l hfl G a ha t9 st (nI 4) (nI 0) (nI 0) (nI 0) hO) (vx_cwSW 6 hts gL_refuses_L_act rfl rfl rfl (by decide +kernel) ⟨Nat.le_of_ble_eq_true rfl, Nat.le_of_ble_eq_true rfl⟩) (preW hK hNW hCW (hLow.at hS (fun q9 _ q => rng_M q9 q)) (hX.at hS (fun q9 _ q => rng_M q9 q)) hNC) rfl rfl hl.1 rfl (lv_room (Nat.le_of_ble_eq_true rfl)) dL_refuses_545 (rmx (m := 1200) (n := 7200) (by omega) (by omega)))) hS (fun q h => h) (fun r _ H locs hp hCW hk hS => ?_)
  refine lv_as (y := -7000001) (hp.2.1 hC) ?_
  have hCW : CW G a st H := hCW
  refine lv_ldc (v := -7000001) hx hb hown (hts (.constant RL 75 (-7000001)) (List.mem_of_getElem? (i := 5) (by decide +kernel))) dL_refuses_548 ?_
  refine lv_icmp_ne (tgt := 589) hx hb dL_refuses_550 (by decide) (fun c => absurd c (by decide)) (fun _ => ?_)
  refine lv_aload_n hx hb dL_refuses_553 rfl (lv_at hl 4 rfl) ?_
  refine lv_bipush (v := nI 13) hx hb dL_refuses_554 (by decide) ?_
  refine lv_iload hx hb dL_refuses_556 (lv_at hl 2 rfl) ?_
  refine lv_iconst (v := nI 0) hx hb dL_refuses_558 (by decide) ?_
  refine lv_iconst (v := nI 0) hx hb dL_refuses_559 (by decide) ?_
  refine lv_iconst (v := nI 0) hx hb dL_refuses_560 (by decide) ?_
  have hC : cPa (nI 4) (nI 0) = 1 := by decide
  refine wr_i (vx_run0 (vx_runSX (As := [.ref (a 0), .int (nI 13), .int (nI 4), .int (nI 0), .int (nI 0), .int (nI 0)]) (rest := []) FX (w_act_path l hfl G a ha t9 st (nI 4) (nI 0) (nI 0) (nI 0) hO) (vx_cwSW 6 hts gL_refuses_L_act rfl rfl rfl (by decide +kernel) ⟨Nat.le_of_ble_eq_true rfl, Nat.le_of_ble_eq_true rfl⟩) (preW hK hNW hCW (hLow.at hS (fun q9 _ q => rng_M q9 q)) (hX.at hS (fun q9 _ q => rng_M q9 q)) hNC) rfl rfl hl.1 rfl (lv_room (Nat.le_of_ble_eq_true rfl)) dL_refuses_561 (rmx (m := 1200) (n := 7200) (by omega) (by omega)))) hS (fun q h => h) (fun r _ H locs hp hCW hk hS => ?_)
  refine lv_as (y := -7000001) (hp.2.1 hC) ?_
  have hCW : CW G a st H := hCW
  refine lv_ldc (v := -7000001) hx hb hown (hts (.constant RL 75 (-7000001)) (List.mem_of_getElem? (i := 5) (by decide +kernel))) dL_refuses_564 ?_
  refine lv_icmp_ne (tgt := 589) hx hb dL_refuses_566 (by decide) (fun c => absurd c (by decide)) (fun _ => ?_)
  refine lv_aload_n hx hb dL_refuses_569 rfl (lv_at hl 4 rfl) ?_
  refine lv_bipush (v := nI 13) hx hb dL_refuses_570 (by decide) ?_
  refine lv_iconst (v := nI 0) hx hb dL_refuses_572 (by decide) ?_
  refine lv_iload hx hb dL_refuses_573 (lv_at hl 0 rfl) ?_
  refine lv_iconst (v := nI 0) hx hb dL_refuses_575 (by decide) ?_
  refine lv_iconst (v := nI 0) hx hb dL_refuses_576 (by decide) ?_
  have hC : cPa (nI 0) (-2) = 1 := by decide
  refine wr_i (vx_run0 (vx_runSX (As := [.ref (a 0), .int (nI 13), .int (nI 0), .int (-2), .int (nI 0), .int (nI 0)]) (rest := []) FX (w_act_path l hfl G a ha t9 st (nI 0) (-2) (nI 0) (nI 0) hO) (vx_cwSW 6 hts gL_refuses_L_act rfl rfl rfl (by decide +kernel) ⟨Nat.le_of_ble_eq_true rfl, Nat.le_of_ble_eq_true rfl⟩) (preW hK hNW hCW (hLow.at hS (fun q9 _ q => rng_M q9 q)) (hX.at hS (fun q9 _ q => rng_M q9 q)) hNC) rfl rfl hl.1 rfl (lv_room (Nat.le_of_ble_eq_true rfl)) dL_refuses_577 (rmx (m := 1200) (n := 7200) (by omega) (by omega)))) hS (fun q h => h) (fun r _ H locs hp hCW hk hS => ?_)
  refine lv_as (y := -7000001) (hp.2.1 hC) ?_
  have hCW : CW G a st H := hCW
  refine lv_ldc (v := -7000001) hx hb hown (hts (.constant RL 75 (-7000001)) (List.mem_of_getElem? (i := 5) (by decide +kernel))) dL_refuses_580 ?_
  refine lv_icmp_ne (tgt := 589) hx hb dL_refuses_582 (by decide) (fun c => absurd c (by decide)) (fun _ => ?_)
  refine lv_iconst (v := nI 1) hx hb dL_refuses_585 (by decide) ?_
  refine lv_goto (tgt := 590) hx hb dL_refuses_586 (by decide) ?_
  refine lv_istore (lv' := [(8, .int (nI 1)), (7, .int (-2)), (6, .int (nI 1073741824)), (5, .int (nI 4)), (4, .int (-2147483648)), (0, .ref (a 0)), (1, .int (nI 2147483647)), (2, .int bf), (3, .int (nI 1))]) hx hb dL_refuses_590 hl (by decide) rfl (fun ls hl => ?_)
  exact wid (by omega) (by omega) (K _ _ _ hS hCW hl)
set_option maxHeartbeats 4000000 in
set_option maxRecDepth 100000 in
theorem rf_A2 {p : Program} {l : Launch} {e : Env} {s : State} {m : MethodId} {args : Array Value} {below : List Frame} {meth : Method} {c : Code} {Q : State → Prop} {G : GG} {a : Nat → Nat} {t9 : Nat} (J : LJ p l s m meth c args cL_refuses (some .boolean) 12 wsL_refuses G a t9) {st : ST} (hO : OKS st) {bf : Int32}  (c0 s0 : Nat) (hc : c0 + 67 ≤ 1200) (hs : s0 + 402 ≤ 7200) {H : Heap} {locs : List Loc} {ls : Array Slot} (hS : va_S (rng a 0 93) s.heap H locs) (hCW : CW G a st H) (hl : lv_has ls 12 [(0, .ref (a 0)), (1, .int (nI 2147483647)), (2, .int bf), (3, .int (nI 2))]) (K : ∀ (H : Heap) (locs : List Loc) (ls : Array Slot), va_S (rng a 0 93) s.heap H locs → CW G a st H → lv_has ls 12 [(8, .int (nI 1)), (7, .int (-1)), (6, .int (nI 2147483647)), (5, .int (nI 2147483647)), (4, .int (nI 2147483647)), (0, .ref (a 0)), (1, .int (nI 2147483647)), (2, .int bf), (3, .int (nI 2))] → W p l e ({ frames := 10, cells := 1200, slots := 7200, locals := 194 } : Room) s m args below meth c H locs (c0 + 67) (s0 + 402) Q (F0 m 592 ls [])) : W p l e ({ frames := 10, cells := 1200, slots := 7200, locals := 194 } : Room) s m args below meth c H locs c0 s0 Q (F0 m 43 ls []) := by
  obtain ⟨hfl, hx, hb, hr, hml, hown, hts, hlocks, ha, hK, hNW, hLow, hX, hNC⟩ := J
  have FX : CallFix p m c cL_refuses 12 s args wsL_refuses RL := ⟨hx, hb, hml, hown, hts⟩
  refine lv_iload_n hx hb dL_refuses_43 rfl (lv_at hl 3 rfl) ?_
  refine lv_iconst (v := nI 4) hx hb dL_refuses_44 (by decide) ?_
  refine lv_icmp_ge (tgt := 1204) hx hb dL_refuses_45 (by decide) (fun c => absurd c (by decide)) (fun _ => ?_)
  refine lv_iload_n hx hb dL_refuses_48 rfl (lv_at hl 3 rfl) ?_
  refine lv_if_ne (tgt := 56) hx hb dL_refuses_49 (by decide) (fun _ => ?_) (fun c => absurd c (by decide))
  refine lv_iload_n hx hb dL_refuses_56 rfl (lv_at hl 3 rfl) ?_
  refine lv_iconst (v := nI 2) hx hb dL_refuses_57 (by decide) ?_
  refine lv_icmp_ne (tgt := 65) hx hb dL_refuses_58 (by decide) (fun c => absurd c (by decide)) (fun _ => ?_)
  refine lv_iload_n hx hb dL_refuses_61 rfl (lv_at hl 1 rfl) ?_
  refine lv_goto (tgt := 69) hx hb dL_refuses_62 (by decide) ?_
  refine lv_istore (lv' := [(4, .int (nI 2147483647)), (0, .ref (a 0)), (1, .int (nI 2147483647)), (2, .int bf), (3, .int (nI 2))]) hx hb dL_refuses_69 hl (by decide) rfl (fun ls hl => ?_)
  refine lv_iload_n hx hb dL_refuses_71 rfl (lv_at hl 4 rfl) ?_
  refine lv_iconst (v := nI 1) hx hb dL_refuses_72 (by decide) ?_
  refine lv_icmp_ne (tgt := 80) hx hb dL_refuses_73 (by decide) (fun _ => ?_) (fun c => absurd c (by decide))
  refine lv_iload hx hb dL_refuses_80 (lv_at hl 0 rfl) ?_
  refine lv_istore (lv' := [(5, .int (nI 2147483647)), (4, .int (nI 2147483647)), (0, .ref (a 0)), (1, .int (nI 2147483647)), (2, .int bf), (3, .int (nI 2))]) hx hb dL_refuses_82 hl (by decide) rfl (fun ls hl => ?_)
  refine lv_iload_n hx hb dL_refuses_84 rfl (lv_at hl 5 rfl) ?_
  refine lv_iconst (v := nI 1) hx hb dL_refuses_85 (by decide) ?_
  refine lv_icmp_ne (tgt := 94) hx hb dL_refuses_86 (by decide) (fun _ => ?_) (fun c => absurd c (by decide))
  refine lv_iload hx hb dL_refuses_94 (lv_at hl 1 rfl) ?_
  refine lv_istore (lv' := [(6, .int (nI 2147483647)), (5, .int (nI 2147483647)), (4, .int (nI 2147483647)), (0, .ref (a 0)), (1, .int (nI 2147483647)), (2, .int bf), (3, .int (nI 2))]) hx hb dL_refuses_96 hl (by decide) rfl (fun ls hl => ?_)
  refine lv_iload_n hx hb dL_refuses_98 rfl (lv_at hl 6 rfl) ?_
  refine lv_iconst (v := nI 2) hx hb dL_refuses_99 (by decide) ?_
  refine lv_icmp_ne (tgt := 107) hx hb dL_refuses_100 (by decide) (fun c => absurd c (by decide)) (fun _ => ?_)
  refine lv_iconst (v := -1) hx hb dL_refuses_103 (by decide) ?_
  refine lv_goto (tgt := 121) hx hb dL_refuses_104 (by decide) ?_
  refine lv_istore (lv' := [(7, .int (-1)), (6, .int (nI 2147483647)), (5, .int (nI 2147483647)), (4, .int (nI 2147483647)), (0, .ref (a 0)), (1, .int (nI 2147483647)), (2, .int bf), (3, .int (nI 2))]) hx hb dL_refuses_121 hl (by decide) rfl (fun ls hl => ?_)
  refine lv_aload_n hx hb dL_refuses_123 rfl (lv_at hl 4 rfl) ?_
  refine lv_iconst (v := nI 0) hx hb dL_refuses_124 (by decide) ?_
  refine lv_iload hx hb dL_refuses_125 (lv_at hl 2 rfl) ?_
  refine lv_iconst (v := nI 0) hx hb dL_refuses_127 (by decide) ?_
  refine lv_iconst (v := nI 0) hx hb dL_refuses_128 (by decide) ?_
  refine lv_iconst (v := nI 0) hx hb dL_refuses_129 (by decide) ?_
  have hC : cIn st.1 (nI 2147483647) = 1 := rc_in (by decide)
  refine wr_i (vx_run0 (vx_runSX (As := [.ref (a 0), .int (nI 0), .int (nI 2147483647), .int (nI 0), .int (nI 0), .int (nI 0)]) (rest := []) FX (w_act_input l hfl G a ha t9 st (nI 2147483647) (nI 0) (nI 0) (nI 0) hO) (vx_cwSW 6 hts gL_refuses_L_act rfl rfl rfl (by decide +kernel) ⟨Nat.le_of_ble_eq_true rfl, Nat.le_of_ble_eq_true rfl⟩) (preW hK hNW hCW (hLow.at hS (fun q9 _ q => rng_M q9 q)) (hX.at hS (fun q9 _ q => rng_M q9 q)) hNC) rfl rfl hl.1 rfl (lv_room (Nat.le_of_ble_eq_true rfl)) dL_refuses_130 (rmx (m := 1200) (n := 7200) (by omega) (by omega)))) hS (fun q h => h) (fun r _ H locs hp hCW hk hS => ?_)
  refine lv_as (y := -7000001) (hp.2.1 hC) ?_
  rw [stN_n hC (by decide)] at hCW
  have hCW : CW G a st H := hCW
  refine lv_ldc (v := -7000001) hx hb hown (hts (.constant RL 75 (-7000001)) (List.mem_of_getElem? (i := 5) (by decide +kernel))) dL_refuses_133 ?_
  refine lv_icmp_ne (tgt := 589) hx hb dL_refuses_135 (by decide) (fun c => absurd c (by decide)) (fun _ => ?_)
  refine lv_aload_n hx hb dL_refuses_138 rfl (lv_at hl 4 rfl) ?_
  refine lv_iconst (v := nI 1) hx hb dL_refuses_139 (by decide) ?_
  refine lv_iload hx hb dL_refuses_140 (lv_at hl 2 rfl) ?_
  refine lv_iconst (v := nI 0) hx hb dL_refuses_142 (by decide) ?_
  refine lv_iconst (v := nI 0) hx hb dL_refuses_143 (by decide) ?_
  refine lv_iconst (v := nI 0) hx hb dL_refuses_144 (by decide) ?_
  have hC : cGa st.1 (nI 2147483647) (nI 0) (nI 0) (nI 0) = 1 := rc_ga (by decide)
  refine wr_i (vx_run0 (vx_runSX (As := [.ref (a 0), .int (nI 1), .int (nI 2147483647), .int (nI 0), .int (nI 0), .int (nI 0)]) (rest := []) FX (w_act_gate l hfl G a ha t9 st (nI 2147483647) (nI 0) (nI 0) (nI 0) hO) (vx_cwSW 6 hts gL_refuses_L_act rfl rfl rfl (by decide +kernel) ⟨Nat.le_of_ble_eq_true rfl, Nat.le_of_ble_eq_true rfl⟩) (preW hK hNW hCW (hLow.at hS (fun q9 _ q => rng_M q9 q)) (hX.at hS (fun q9 _ q => rng_M q9 q)) hNC) rfl rfl hl.1 rfl (lv_room (Nat.le_of_ble_eq_true rfl)) dL_refuses_145 (rmx (m := 1200) (n := 7200) (by omega) (by omega)))) hS (fun q h => h) (fun r _ H locs hp hCW hk hS => ?_)
  refine lv_as (y := -7000001) (hp.2.1 hC) ?_
  rw [stN_n hC (by decide)] at hCW
  have hCW : CW G a st H := hCW
  refine lv_ldc (v := -7000001) hx hb hown (hts (.constant RL 75 (-7000001)) (List.mem_of_getElem? (i := 5) (by decide +kernel))) dL_refuses_148 ?_
  refine lv_icmp_ne (tgt := 589) hx hb dL_refuses_150 (by decide) (fun c => absurd c (by decide)) (fun _ => ?_)
  refine lv_aload_n hx hb dL_refuses_153 rfl (lv_at hl 4 rfl) ?_
  refine lv_iconst (v := nI 1) hx hb dL_refuses_154 (by decide) ?_
  refine lv_iconst (v := nI 0) hx hb dL_refuses_155 (by decide) ?_
  refine lv_iload hx hb dL_refuses_156 (lv_at hl 2 rfl) ?_
  refine lv_iconst (v := nI 0) hx hb dL_refuses_158 (by decide) ?_
  refine lv_iconst (v := nI 0) hx hb dL_refuses_159 (by decide) ?_
  have hC : cGa st.1 (nI 0) (nI 2147483647) (nI 0) (nI 0) = 1 := rc_gk (by decide)
  refine wr_i (vx_run0 (vx_runSX (As := [.ref (a 0), .int (nI 1), .int (nI 0), .int (nI 2147483647), .int (nI 0), .int (nI 0)]) (rest := []) FX (w_act_gate l hfl G a ha t9 st (nI 0) (nI 2147483647) (nI 0) (nI 0) hO) (vx_cwSW 6 hts gL_refuses_L_act rfl rfl rfl (by decide +kernel) ⟨Nat.le_of_ble_eq_true rfl, Nat.le_of_ble_eq_true rfl⟩) (preW hK hNW hCW (hLow.at hS (fun q9 _ q => rng_M q9 q)) (hX.at hS (fun q9 _ q => rng_M q9 q)) hNC) rfl rfl hl.1 rfl (lv_room (Nat.le_of_ble_eq_true rfl)) dL_refuses_160 (rmx (m := 1200) (n := 7200) (by omega) (by omega)))) hS (fun q h => h) (fun r _ H locs hp hCW hk hS => ?_)
  refine lv_as (y := -7000001) (hp.2.1 hC) ?_
  rw [stN_n hC (by decide)] at hCW
  have hCW : CW G a st H := hCW
  refine lv_ldc (v := -7000001) hx hb hown (hts (.constant RL 75 (-7000001)) (List.mem_of_getElem? (i := 5) (by decide +kernel))) dL_refuses_163 ?_
  refine lv_icmp_ne (tgt := 589) hx hb dL_refuses_165 (by decide) (fun c => absurd c (by decide)) (fun _ => ?_)
  refine lv_aload_n hx hb dL_refuses_168 rfl (lv_at hl 4 rfl) ?_
  refine lv_iconst (v := nI 2) hx hb dL_refuses_169 (by decide) ?_
  refine lv_iload hx hb dL_refuses_170 (lv_at hl 2 rfl) ?_
  refine lv_iconst (v := nI 0) hx hb dL_refuses_172 (by decide) ?_
  refine lv_iconst (v := nI 0) hx hb dL_refuses_173 (by decide) ?_
  refine lv_iconst (v := nI 0) hx hb dL_refuses_174 (by decide) ?_
  have hC : cOu st.1 (nI 2147483647) (nI 0) = 1 := rc_ou (by decide)
  refine wr_i (vx_run0 (vx_runSX (As := [.ref (a 0), .int (nI 2), .int (nI 2147483647), .int (nI 0), .int (nI 0), .int (nI 0)]) (rest := []) FX (w_act_out l hfl G a ha t9 st (nI 2147483647) (nI 0) (nI 0) (nI 0) hO) (vx_cwSW 6 hts gL_refuses_L_act rfl rfl rfl (by decide +kernel) ⟨Nat.le_of_ble_eq_true rfl, Nat.le_of_ble_eq_true rfl⟩) (preW hK hNW hCW (hLow.at hS (fun q9 _ q => rng_M q9 q)) (hX.at hS (fun q9 _ q => rng_M q9 q)) hNC) rfl rfl hl.1 rfl (lv_room (Nat.le_of_ble_eq_true rfl)) dL_refuses_175 (rmx (m := 1200) (n := 7200) (by omega) (by omega)))) hS (fun q h => h) (fun r _ H locs hp hCW hk hS => ?_)
  refine lv_as (y := -7000001) (hp.2.1 hC) ?_
  rw [stN_n hC (by decide)] at hCW
  have hCW : CW G a st H := hCW
  refine lv_ldc (v := -7000001) hx hb hown (hts (.constant RL 75 (-7000001)) (List.mem_of_getElem? (i := 5) (by decide +kernel))) dL_refuses_178 ?_
  refine lv_icmp_ne (tgt := 589) hx hb dL_refuses_180 (by decide) (fun c => absurd c (by decide)) (fun _ => ?_)
  refine lv_aload_n hx hb dL_refuses_183 rfl (lv_at hl 4 rfl) ?_
  refine lv_iconst (v := nI 3) hx hb dL_refuses_184 (by decide) ?_
  refine lv_iload hx hb dL_refuses_185 (lv_at hl 2 rfl) ?_
  refine lv_bipush (v := nI 9) hx hb dL_refuses_187 (by decide) ?_
  refine lv_bipush (v := nI 9) hx hb dL_refuses_189 (by decide) ?_
  refine lv_iconst (v := nI 0) hx hb dL_refuses_191 (by decide) ?_
  have hC : cAd st.1 (nI 2147483647) (nI 9) (nI 9) = 1 := rc_ad (by decide)
  refine wr_i (vx_run0 (vx_runSX (As := [.ref (a 0), .int (nI 3), .int (nI 2147483647), .int (nI 9), .int (nI 9), .int (nI 0)]) (rest := []) FX (w_act_adder l hfl G a ha t9 st (nI 2147483647) (nI 9) (nI 9) (nI 0) hO) (vx_cwSW 6 hts gL_refuses_L_act rfl rfl rfl (by decide +kernel) ⟨Nat.le_of_ble_eq_true rfl, Nat.le_of_ble_eq_true rfl⟩) (preW hK hNW hCW (hLow.at hS (fun q9 _ q => rng_M q9 q)) (hX.at hS (fun q9 _ q => rng_M q9 q)) hNC) rfl rfl hl.1 rfl (lv_room (Nat.le_of_ble_eq_true rfl)) dL_refuses_192 (rmx (m := 1200) (n := 7200) (by omega) (by omega)))) hS (fun q h => h) (fun r _ H locs hp hCW hk hS => ?_)
  refine lv_as (y := -7000001) (hp.2.1 hC) ?_
  rw [stN_n hC (by decide)] at hCW
  have hCW : CW G a st H := hCW
  refine lv_ldc (v := -7000001) hx hb hown (hts (.constant RL 75 (-7000001)) (List.mem_of_getElem? (i := 5) (by decide +kernel))) dL_refuses_195 ?_
  refine lv_icmp_ne (tgt := 589) hx hb dL_refuses_197 (by decide) (fun c => absurd c (by decide)) (fun _ => ?_)
  refine lv_aload_n hx hb dL_refuses_200 rfl (lv_at hl 4 rfl) ?_
  refine lv_iconst (v := nI 3) hx hb dL_refuses_201 (by decide) ?_
  refine lv_iconst (v := nI 0) hx hb dL_refuses_202 (by decide) ?_
  refine lv_iload_n hx hb dL_refuses_203 rfl (lv_at hl 7 rfl) ?_
  refine lv_iconst (v := nI 1) hx hb dL_refuses_204 (by decide) ?_
  refine lv_icmp_ne (tgt := 212) hx hb dL_refuses_205 (by decide) (fun _ => ?_) (fun c => absurd c (by decide))
  refine lv_iload hx hb dL_refuses_212 (lv_at hl 3 rfl) ?_
  refine lv_iconst (v := nI 1) hx hb dL_refuses_214 (by decide) ?_
  refine lv_iconst (v := nI 0) hx hb dL_refuses_215 (by decide) ?_
  have hC : cAd st.1 (nI 0) (nI 2147483647) (nI 1) = 2 := rc_af (by decide) (by decide)
  refine wr_i (vx_run0 (vx_runSX (As := [.ref (a 0), .int (nI 3), .int (nI 0), .int (nI 2147483647), .int (nI 1), .int (nI 0)]) (rest := []) FX (w_act_adder l hfl G a ha t9 st (nI 0) (nI 2147483647) (nI 1) (nI 0) hO) (vx_cwSW 6 hts gL_refuses_L_act rfl rfl rfl (by decide +kernel) ⟨Nat.le_of_ble_eq_true rfl, Nat.le_of_ble_eq_true rfl⟩) (preW hK hNW hCW (hLow.at hS (fun q9 _ q => rng_M q9 q)) (hX.at hS (fun q9 _ q => rng_M q9 q)) hNC) rfl rfl hl.1 rfl (lv_room (Nat.le_of_ble_eq_true rfl)) dL_refuses_216 (rmx (m := 1200) (n := 7200) (by omega) (by omega)))) hS (fun q h => h) (fun r _ H locs hp hCW hk hS => ?_)
  refine lv_as (y := -7000002) (hp.2.2.1 hC) ?_
  rw [stN_n hC (by decide)] at hCW
  have hCW : CW G a st H := hCW
  refine lv_ldc (v := -7000002) hx hb hown (hts (.constant RL 78 (-7000002)) (List.mem_of_getElem? (i := 6) (by decide +kernel))) dL_refuses_219 ?_
  refine lv_icmp_ne (tgt := 589) hx hb dL_refuses_221 (by decide) (fun c => absurd c (by decide)) (fun _ => ?_)
  refine lv_aload_n hx hb dL_refuses_224 rfl (lv_at hl 4 rfl) ?_
  refine lv_iconst (v := nI 3) hx hb dL_refuses_225 (by decide) ?_
  refine lv_iconst (v := nI 0) hx hb dL_refuses_226 (by decide) ?_
  refine lv_iconst (v := nI 0) hx hb dL_refuses_227 (by decide) ?_
  refine lv_iload_n hx hb dL_refuses_228 rfl (lv_at hl 7 rfl) ?_
  refine lv_if_ne (tgt := 236) hx hb dL_refuses_229 (by decide) (fun _ => ?_) (fun c => absurd c (by decide))
  refine lv_iload_n hx hb dL_refuses_236 rfl (lv_at hl 7 rfl) ?_
  refine lv_iconst (v := nI 1) hx hb dL_refuses_237 (by decide) ?_
  refine lv_icmp_ne (tgt := 246) hx hb dL_refuses_238 (by decide) (fun _ => ?_) (fun c => absurd c (by decide))
  refine lv_iload hx hb dL_refuses_246 (lv_at hl 3 rfl) ?_
  refine lv_iconst (v := nI 0) hx hb dL_refuses_248 (by decide) ?_
  have hC : cAd st.1 (nI 0) (nI 0) (nI 2147483647) = 2 := rc_aw (by decide) (by decide)
  refine wr_i (vx_run0 (vx_runSX (As := [.ref (a 0), .int (nI 3), .int (nI 0), .int (nI 0), .int (nI 2147483647), .int (nI 0)]) (rest := []) FX (w_act_adder l hfl G a ha t9 st (nI 0) (nI 0) (nI 2147483647) (nI 0) hO) (vx_cwSW 6 hts gL_refuses_L_act rfl rfl rfl (by decide +kernel) ⟨Nat.le_of_ble_eq_true rfl, Nat.le_of_ble_eq_true rfl⟩) (preW hK hNW hCW (hLow.at hS (fun q9 _ q => rng_M q9 q)) (hX.at hS (fun q9 _ q => rng_M q9 q)) hNC) rfl rfl hl.1 rfl (lv_room (Nat.le_of_ble_eq_true rfl)) dL_refuses_249 (rmx (m := 1200) (n := 7200) (by omega) (by omega)))) hS (fun q h => h) (fun r _ H locs hp hCW hk hS => ?_)
  refine lv_as (y := -7000002) (hp.2.2.1 hC) ?_
  rw [stN_n hC (by decide)] at hCW
  have hCW : CW G a st H := hCW
  refine lv_ldc (v := -7000002) hx hb hown (hts (.constant RL 78 (-7000002)) (List.mem_of_getElem? (i := 6) (by decide +kernel))) dL_refuses_252 ?_
  refine lv_icmp_ne (tgt := 589) hx hb dL_refuses_254 (by decide) (fun c => absurd c (by decide)) (fun _ => ?_)
  refine lv_aload_n hx hb dL_refuses_257 rfl (lv_at hl 4 rfl) ?_
  refine lv_iconst (v := nI 4) hx hb dL_refuses_258 (by decide) ?_
  refine lv_iload hx hb dL_refuses_259 (lv_at hl 2 rfl) ?_
  refine lv_bipush (v := nI 9) hx hb dL_refuses_261 (by decide) ?_
  refine lv_iconst (v := nI 0) hx hb dL_refuses_263 (by decide) ?_
  refine lv_iconst (v := nI 0) hx hb dL_refuses_264 (by decide) ?_
  have hC : cMu st.1 (nI 2147483647) (nI 9) = 1 := rc_mu (by decide)
  refine wr_i (vx_run0 (vx_runSX (As := [.ref (a 0), .int (nI 4), .int (nI 2147483647), .int (nI 9), .int (nI 0), .int (nI 0)]) (rest := []) FX (w_act_multiplier l hfl G a ha t9 st (nI 2147483647) (nI 9) (nI 0) (nI 0) hO) (vx_cwSW 6 hts gL_refuses_L_act rfl rfl rfl (by decide +kernel) ⟨Nat.le_of_ble_eq_true rfl, Nat.le_of_ble_eq_true rfl⟩) (preW hK hNW hCW (hLow.at hS (fun q9 _ q => rng_M q9 q)) (hX.at hS (fun q9 _ q => rng_M q9 q)) hNC) rfl rfl hl.1 rfl (lv_room (Nat.le_of_ble_eq_true rfl)) dL_refuses_265 (rmx (m := 1200) (n := 7200) (by omega) (by omega)))) hS (fun q h => h) (fun r _ H locs hp hCW hk hS => ?_)
  refine lv_as (y := -7000001) (hp.2.1 hC) ?_
  rw [stN_n hC (by decide)] at hCW
  have hCW : CW G a st H := hCW
  refine lv_ldc (v := -7000001) hx hb hown (hts (.constant RL 75 (-7000001)) (List.mem_of_getElem? (i := 5) (by decide +kernel))) dL_refuses_268 ?_
  refine lv_icmp_ne (tgt := 589) hx hb dL_refuses_270 (by decide) (fun c => absurd c (by decide)) (fun _ => ?_)
  refine lv_aload_n hx hb dL_refuses_273 rfl (lv_at hl 4 rfl) ?_
  refine lv_iconst (v := nI 4) hx hb dL_refuses_274 (by decide) ?_
  refine lv_iconst (v := nI 0) hx hb dL_refuses_275 (by decide) ?_
  refine lv_iload_n hx hb dL_refuses_276 rfl (lv_at hl 7 rfl) ?_
  refine lv_if_ne (tgt := 284) hx hb dL_refuses_277 (by decide) (fun _ => ?_) (fun c => absurd c (by decide))
  refine lv_iload_n hx hb dL_refuses_284 rfl (lv_at hl 7 rfl) ?_
  refine lv_iconst (v := nI 1) hx hb dL_refuses_285 (by decide) ?_
  refine lv_icmp_ne (tgt := 293) hx hb dL_refuses_286 (by decide) (fun _ => ?_) (fun c => absurd c (by decide))
  refine lv_iload hx hb dL_refuses_293 (lv_at hl 3 rfl) ?_
  refine lv_iconst (v := nI 0) hx hb dL_refuses_295 (by decide) ?_
  refine lv_iconst (v := nI 0) hx hb dL_refuses_296 (by decide) ?_
  have hC : cMu st.1 (nI 0) (nI 2147483647) = 2 := rc_mw (by decide) (by decide)
  refine wr_i (vx_run0 (vx_runSX (As := [.ref (a 0), .int (nI 4), .int (nI 0), .int (nI 2147483647), .int (nI 0), .int (nI 0)]) (rest := []) FX (w_act_multiplier l hfl G a ha t9 st (nI 0) (nI 2147483647) (nI 0) (nI 0) hO) (vx_cwSW 6 hts gL_refuses_L_act rfl rfl rfl (by decide +kernel) ⟨Nat.le_of_ble_eq_true rfl, Nat.le_of_ble_eq_true rfl⟩) (preW hK hNW hCW (hLow.at hS (fun q9 _ q => rng_M q9 q)) (hX.at hS (fun q9 _ q => rng_M q9 q)) hNC) rfl rfl hl.1 rfl (lv_room (Nat.le_of_ble_eq_true rfl)) dL_refuses_297 (rmx (m := 1200) (n := 7200) (by omega) (by omega)))) hS (fun q h => h) (fun r _ H locs hp hCW hk hS => ?_)
  refine lv_as (y := -7000002) (hp.2.2.1 hC) ?_
  rw [stN_n hC (by decide)] at hCW
  have hCW : CW G a st H := hCW
  refine lv_ldc (v := -7000002) hx hb hown (hts (.constant RL 78 (-7000002)) (List.mem_of_getElem? (i := 6) (by decide +kernel))) dL_refuses_300 ?_
  refine lv_icmp_ne (tgt := 589) hx hb dL_refuses_302 (by decide) (fun c => absurd c (by decide)) (fun _ => ?_)
  refine lv_aload_n hx hb dL_refuses_305 rfl (lv_at hl 4 rfl) ?_
  refine lv_iconst (v := nI 5) hx hb dL_refuses_306 (by decide) ?_
  refine lv_iload hx hb dL_refuses_307 (lv_at hl 2 rfl) ?_
  refine lv_iconst (v := nI 0) hx hb dL_refuses_309 (by decide) ?_
  refine lv_iconst (v := nI 0) hx hb dL_refuses_310 (by decide) ?_
  refine lv_iconst (v := nI 0) hx hb dL_refuses_311 (by decide) ?_
  have hC : cCl (nI 2147483647) = 1 := by decide
  refine wr_i (vx_run0 (vx_runSX (As := [.ref (a 0), .int (nI 5), .int (nI 2147483647), .int (nI 0), .int (nI 0), .int (nI 0)]) (rest := []) FX (w_act_clear l hfl G a ha t9 st (nI 2147483647) (nI 0) (nI 0) (nI 0) hO) (vx_cwSW 6 hts gL_refuses_L_act rfl rfl rfl (by decide +kernel) ⟨Nat.le_of_ble_eq_true rfl, Nat.le_of_ble_eq_true rfl⟩) (preW hK hNW hCW (hLow.at hS (fun q9 _ q => rng_M q9 q)) (hX.at hS (fun q9 _ q => rng_M q9 q)) hNC) rfl rfl hl.1 rfl (lv_room (Nat.le_of_ble_eq_true rfl)) dL_refuses_312 (rmx (m := 1200) (n := 7200) (by omega) (by omega)))) hS (fun q h => h) (fun r _ H locs hp hCW hk hS => ?_)
  refine lv_as (y := -7000001) (hp.2.1 hC) ?_
  rw [stN_n hC (by decide)] at hCW
  have hCW : CW G a st H := hCW
  refine lv_ldc (v := -7000001) hx hb hown (hts (.constant RL 75 (-7000001)) (List.mem_of_getElem? (i := 5) (by decide +kernel))) dL_refuses_315 ?_
  refine lv_icmp_ne (tgt := 589) hx hb dL_refuses_317 (by decide) (fun c => absurd c (by decide)) (fun _ => ?_)
  refine lv_aload_n hx hb dL_refuses_320 rfl (lv_at hl 4 rfl) ?_
  refine lv_bipush (v := nI 6) hx hb dL_refuses_321 (by decide) ?_
  refine lv_iload hx hb dL_refuses_323 (lv_at hl 2 rfl) ?_
  refine lv_iconst (v := nI 0) hx hb dL_refuses_325 (by decide) ?_
  refine lv_bipush (v := nI 100) hx hb dL_refuses_326 (by decide) ?_
  refine lv_iconst (v := nI 0) hx hb dL_refuses_328 (by decide) ?_
  have hC : cCo (nI 2147483647) (nI 0) (nI 100) = 1 := by decide
  refine wr_i (vx_run0 (vx_runSX (As := [.ref (a 0), .int (nI 6), .int (nI 2147483647), .int (nI 0), .int (nI 100), .int (nI 0)]) (rest := []) FX (w_act_cost l hfl G a ha t9 st (nI 2147483647) (nI 0) (nI 100) (nI 0) hO) (vx_cwSW 6 hts gL_refuses_L_act rfl rfl rfl (by decide +kernel) ⟨Nat.le_of_ble_eq_true rfl, Nat.le_of_ble_eq_true rfl⟩) (preW hK hNW hCW (hLow.at hS (fun q9 _ q => rng_M q9 q)) (hX.at hS (fun q9 _ q => rng_M q9 q)) hNC) rfl rfl hl.1 rfl (lv_room (Nat.le_of_ble_eq_true rfl)) dL_refuses_329 (rmx (m := 1200) (n := 7200) (by omega) (by omega)))) hS (fun q h => h) (fun r _ H locs hp hCW hk hS => ?_)
  refine lv_as (y := -7000001) (hp.2.1 hC) ?_
  rw [stN_n hC (by decide), stN_n hC (by decide)] at hCW
  have hCW : CW G a st H := hCW
  refine lv_ldc (v := -7000001) hx hb hown (hts (.constant RL 75 (-7000001)) (List.mem_of_getElem? (i := 5) (by decide +kernel))) dL_refuses_332 ?_
  refine lv_icmp_ne (tgt := 589) hx hb dL_refuses_334 (by decide) (fun c => absurd c (by decide)) (fun _ => ?_)
  refine lv_aload_n hx hb dL_refuses_337 rfl (lv_at hl 4 rfl) ?_
  refine lv_bipush (v := nI 6) hx hb dL_refuses_338 (by decide) ?_
  refine lv_iconst (v := nI 0) hx hb dL_refuses_340 (by decide) ?_
  refine lv_iload_n hx hb dL_refuses_341 rfl (lv_at hl 7 rfl) ?_
  refine lv_if_ne (tgt := 349) hx hb dL_refuses_342 (by decide) (fun _ => ?_) (fun c => absurd c (by decide))
  refine lv_iload_n hx hb dL_refuses_349 rfl (lv_at hl 7 rfl) ?_
  refine lv_iconst (v := nI 1) hx hb dL_refuses_350 (by decide) ?_
  refine lv_icmp_ne (tgt := 359) hx hb dL_refuses_351 (by decide) (fun _ => ?_) (fun c => absurd c (by decide))
  refine lv_iload hx hb dL_refuses_359 (lv_at hl 3 rfl) ?_
  refine lv_iconst (v := nI 1) hx hb dL_refuses_361 (by decide) ?_
  refine lv_iconst (v := nI 0) hx hb dL_refuses_362 (by decide) ?_
  have hC : cCo (nI 0) (nI 2147483647) (nI 1) = 2 := by decide
  refine wr_i (vx_run0 (vx_runSX (As := [.ref (a 0), .int (nI 6), .int (nI 0), .int (nI 2147483647), .int (nI 1), .int (nI 0)]) (rest := []) FX (w_act_cost l hfl G a ha t9 st (nI 0) (nI 2147483647) (nI 1) (nI 0) hO) (vx_cwSW 6 hts gL_refuses_L_act rfl rfl rfl (by decide +kernel) ⟨Nat.le_of_ble_eq_true rfl, Nat.le_of_ble_eq_true rfl⟩) (preW hK hNW hCW (hLow.at hS (fun q9 _ q => rng_M q9 q)) (hX.at hS (fun q9 _ q => rng_M q9 q)) hNC) rfl rfl hl.1 rfl (lv_room (Nat.le_of_ble_eq_true rfl)) dL_refuses_363 (rmx (m := 1200) (n := 7200) (by omega) (by omega)))) hS (fun q h => h) (fun r _ H locs hp hCW hk hS => ?_)
  refine lv_as (y := -7000002) (hp.2.2.1 hC) ?_
  rw [stN_n hC (by decide), stN_n hC (by decide)] at hCW
  have hCW : CW G a st H := hCW
  refine lv_ldc (v := -7000002) hx hb hown (hts (.constant RL 78 (-7000002)) (List.mem_of_getElem? (i := 6) (by decide +kernel))) dL_refuses_366 ?_
  refine lv_icmp_ne (tgt := 589) hx hb dL_refuses_368 (by decide) (fun c => absurd c (by decide)) (fun _ => ?_)
  refine lv_aload_n hx hb dL_refuses_371 rfl (lv_at hl 4 rfl) ?_
  refine lv_bipush (v := nI 6) hx hb dL_refuses_372 (by decide) ?_
  refine lv_iconst (v := nI 0) hx hb dL_refuses_374 (by decide) ?_
  refine lv_iconst (v := nI 1) hx hb dL_refuses_375 (by decide) ?_
  refine lv_iload_n hx hb dL_refuses_376 rfl (lv_at hl 7 rfl) ?_
  refine lv_iconst (v := nI 1) hx hb dL_refuses_377 (by decide) ?_
  refine lv_icmp_ne (tgt := 386) hx hb dL_refuses_378 (by decide) (fun _ => ?_) (fun c => absurd c (by decide))
  refine lv_iload hx hb dL_refuses_386 (lv_at hl 3 rfl) ?_
  refine lv_iconst (v := nI 0) hx hb dL_refuses_388 (by decide) ?_
  have hC : cCo (nI 0) (nI 1) (nI 2147483647) = 2 := by decide
  refine wr_i (vx_run0 (vx_runSX (As := [.ref (a 0), .int (nI 6), .int (nI 0), .int (nI 1), .int (nI 2147483647), .int (nI 0)]) (rest := []) FX (w_act_cost l hfl G a ha t9 st (nI 0) (nI 1) (nI 2147483647) (nI 0) hO) (vx_cwSW 6 hts gL_refuses_L_act rfl rfl rfl (by decide +kernel) ⟨Nat.le_of_ble_eq_true rfl, Nat.le_of_ble_eq_true rfl⟩) (preW hK hNW hCW (hLow.at hS (fun q9 _ q => rng_M q9 q)) (hX.at hS (fun q9 _ q => rng_M q9 q)) hNC) rfl rfl hl.1 rfl (lv_room (Nat.le_of_ble_eq_true rfl)) dL_refuses_389 (rmx (m := 1200) (n := 7200) (by omega) (by omega)))) hS (fun q h => h) (fun r _ H locs hp hCW hk hS => ?_)
  refine lv_as (y := -7000002) (hp.2.2.1 hC) ?_
  rw [stN_n hC (by decide), stN_n hC (by decide)] at hCW
  have hCW : CW G a st H := hCW
  refine lv_ldc (v := -7000002) hx hb hown (hts (.constant RL 78 (-7000002)) (List.mem_of_getElem? (i := 6) (by decide +kernel))) dL_refuses_392 ?_
  refine lv_icmp_ne (tgt := 589) hx hb dL_refuses_394 (by decide) (fun c => absurd c (by decide)) (fun _ => ?_)
  refine lv_aload_n hx hb dL_refuses_397 rfl (lv_at hl 4 rfl) ?_
  refine lv_bipush (v := nI 7) hx hb dL_refuses_398 (by decide) ?_
  refine lv_iload hx hb dL_refuses_400 (lv_at hl 2 rfl) ?_
  refine lv_iconst (v := nI 0) hx hb dL_refuses_402 (by decide) ?_
  refine lv_bipush (v := nI 9) hx hb dL_refuses_403 (by decide) ?_
  refine lv_iconst (v := nI 0) hx hb dL_refuses_405 (by decide) ?_
  have hC : cSt st.1 (nI 2147483647) (nI 0) (nI 9) = 1 := rc_st (by decide)
  refine wr_i (vx_run0 (vx_runSX (As := [.ref (a 0), .int (nI 7), .int (nI 2147483647), .int (nI 0), .int (nI 9), .int (nI 0)]) (rest := []) FX (w_act_stick l hfl G a ha t9 st (nI 2147483647) (nI 0) (nI 9) (nI 0) hO) (vx_cwSW 6 hts gL_refuses_L_act rfl rfl rfl (by decide +kernel) ⟨Nat.le_of_ble_eq_true rfl, Nat.le_of_ble_eq_true rfl⟩) (preW hK hNW hCW (hLow.at hS (fun q9 _ q => rng_M q9 q)) (hX.at hS (fun q9 _ q => rng_M q9 q)) hNC) rfl rfl hl.1 rfl (lv_room (Nat.le_of_ble_eq_true rfl)) dL_refuses_406 (rmx (m := 1200) (n := 7200) (by omega) (by omega)))) hS (fun q h => h) (fun r _ H locs hp hCW hk hS => ?_)
  refine lv_as (y := -7000001) (hp.2.1 hC) ?_
  rw [stN_n hC (by decide)] at hCW
  have hCW : CW G a st H := hCW
  refine lv_ldc (v := -7000001) hx hb hown (hts (.constant RL 75 (-7000001)) (List.mem_of_getElem? (i := 5) (by decide +kernel))) dL_refuses_409 ?_
  refine lv_icmp_ne (tgt := 589) hx hb dL_refuses_411 (by decide) (fun c => absurd c (by decide)) (fun _ => ?_)
  refine lv_aload_n hx hb dL_refuses_414 rfl (lv_at hl 4 rfl) ?_
  refine lv_bipush (v := nI 8) hx hb dL_refuses_415 (by decide) ?_
  refine lv_iload hx hb dL_refuses_417 (lv_at hl 2 rfl) ?_
  refine lv_iconst (v := nI 0) hx hb dL_refuses_419 (by decide) ?_
  refine lv_iconst (v := -1) hx hb dL_refuses_420 (by decide) ?_
  refine lv_iconst (v := nI 0) hx hb dL_refuses_421 (by decide) ?_
  have hC : cBi st.1 (nI 2147483647) (nI 0) (-1) = 1 := rc_bi (by decide)
  refine wr_i (vx_run0 (vx_runSX (As := [.ref (a 0), .int (nI 8), .int (nI 2147483647), .int (nI 0), .int (-1), .int (nI 0)]) (rest := []) FX (w_act_bit l hfl G a ha t9 st (nI 2147483647) (nI 0) (-1) (nI 0) hO) (vx_cwSW 6 hts gL_refuses_L_act rfl rfl rfl (by decide +kernel) ⟨Nat.le_of_ble_eq_true rfl, Nat.le_of_ble_eq_true rfl⟩) (preW hK hNW hCW (hLow.at hS (fun q9 _ q => rng_M q9 q)) (hX.at hS (fun q9 _ q => rng_M q9 q)) hNC) rfl rfl hl.1 rfl (lv_room (Nat.le_of_ble_eq_true rfl)) dL_refuses_422 (rmx (m := 1200) (n := 7200) (by omega) (by omega)))) hS (fun q h => h) (fun r _ H locs hp hCW hk hS => ?_)
  refine lv_as (y := -7000001) (hp.2.1 hC) ?_
  have hCW : CW G a st H := hCW
  refine lv_ldc (v := -7000001) hx hb hown (hts (.constant RL 75 (-7000001)) (List.mem_of_getElem? (i := 5) (by decide +kernel))) dL_refuses_425 ?_
  refine lv_icmp_ne (tgt := 589) hx hb dL_refuses_427 (by decide) (fun c => absurd c (by decide)) (fun _ => ?_)
  refine lv_aload_n hx hb dL_refuses_430 rfl (lv_at hl 4 rfl) ?_
  refine lv_bipush (v := nI 9) hx hb dL_refuses_431 (by decide) ?_
  refine lv_iload hx hb dL_refuses_433 (lv_at hl 2 rfl) ?_
  refine lv_iconst (v := -1) hx hb dL_refuses_435 (by decide) ?_
  refine lv_iconst (v := nI 0) hx hb dL_refuses_436 (by decide) ?_
  refine lv_iconst (v := nI 0) hx hb dL_refuses_437 (by decide) ?_
  have hC : cVa (nI 2147483647) (-1) = 1 := by decide
  refine wr_i (vx_run0 (vx_runSX (As := [.ref (a 0), .int (nI 9), .int (nI 2147483647), .int (-1), .int (nI 0), .int (nI 0)]) (rest := []) FX (w_act_value l hfl G a ha t9 st (nI 2147483647) (-1) (nI 0) (nI 0) hO) (vx_cwSW 6 hts gL_refuses_L_act rfl rfl rfl (by decide +kernel) ⟨Nat.le_of_ble_eq_true rfl, Nat.le_of_ble_eq_true rfl⟩) (preW hK hNW hCW (hLow.at hS (fun q9 _ q => rng_M q9 q)) (hX.at hS (fun q9 _ q => rng_M q9 q)) hNC) rfl rfl hl.1 rfl (lv_room (Nat.le_of_ble_eq_true rfl)) dL_refuses_438 (rmx (m := 1200) (n := 7200) (by omega) (by omega)))) hS (fun q h => h) (fun r _ H locs hp hCW hk hS => ?_)
  refine lv_as (y := -7000001) (hp.2.1 hC) ?_
  have hCW : CW G a st H := hCW
  refine lv_ldc (v := -7000001) hx hb hown (hts (.constant RL 75 (-7000001)) (List.mem_of_getElem? (i := 5) (by decide +kernel))) dL_refuses_441 ?_
  refine lv_icmp_ne (tgt := 589) hx hb dL_refuses_443 (by decide) (fun c => absurd c (by decide)) (fun _ => ?_)
  refine lv_aload_n hx hb dL_refuses_446 rfl (lv_at hl 4 rfl) ?_
  refine lv_bipush (v := nI 9) hx hb dL_refuses_447 (by decide) ?_
  refine lv_iconst (v := nI 0) hx hb dL_refuses_449 (by decide) ?_
  refine lv_iload hx hb dL_refuses_450 (lv_at hl 1 rfl) ?_
  refine lv_iconst (v := nI 0) hx hb dL_refuses_452 (by decide) ?_
  refine lv_iconst (v := nI 0) hx hb dL_refuses_453 (by decide) ?_
  have hC : cVa (nI 0) (nI 2147483647) = 2 := by decide
  refine wr_i (vx_run0 (vx_runSX (As := [.ref (a 0), .int (nI 9), .int (nI 0), .int (nI 2147483647), .int (nI 0), .int (nI 0)]) (rest := []) FX (w_act_value l hfl G a ha t9 st (nI 0) (nI 2147483647) (nI 0) (nI 0) hO) (vx_cwSW 6 hts gL_refuses_L_act rfl rfl rfl (by decide +kernel) ⟨Nat.le_of_ble_eq_true rfl, Nat.le_of_ble_eq_true rfl⟩) (preW hK hNW hCW (hLow.at hS (fun q9 _ q => rng_M q9 q)) (hX.at hS (fun q9 _ q => rng_M q9 q)) hNC) rfl rfl hl.1 rfl (lv_room (Nat.le_of_ble_eq_true rfl)) dL_refuses_454 (rmx (m := 1200) (n := 7200) (by omega) (by omega)))) hS (fun q h => h) (fun r _ H locs hp hCW hk hS => ?_)
  refine lv_as (y := -7000002) (hp.2.2.1 hC) ?_
  have hCW : CW G a st H := hCW
  refine lv_ldc (v := -7000002) hx hb hown (hts (.constant RL 78 (-7000002)) (List.mem_of_getElem? (i := 6) (by decide +kernel))) dL_refuses_457 ?_
  refine lv_icmp_ne (tgt := 589) hx hb dL_refuses_459 (by decide) (fun c => absurd c (by decide)) (fun _ => ?_)
  refine lv_aload_n hx hb dL_refuses_462 rfl (lv_at hl 4 rfl) ?_
  refine lv_bipush (v := nI 10) hx hb dL_refuses_463 (by decide) ?_
  refine lv_iload hx hb dL_refuses_465 (lv_at hl 2 rfl) ?_
  refine lv_iconst (v := -1) hx hb dL_refuses_467 (by decide) ?_
  refine lv_iconst (v := nI 0) hx hb dL_refuses_468 (by decide) ?_
  refine lv_iconst (v := nI 0) hx hb dL_refuses_469 (by decide) ?_
  have hC : cVa (nI 2147483647) (-1) = 1 := by decide
  refine wr_i (vx_run0 (vx_runSX (As := [.ref (a 0), .int (nI 10), .int (nI 2147483647), .int (-1), .int (nI 0), .int (nI 0)]) (rest := []) FX (w_act_valueAnew l hfl G a ha t9 st (nI 2147483647) (-1) (nI 0) (nI 0) hO) (vx_cwSW 6 hts gL_refuses_L_act rfl rfl rfl (by decide +kernel) ⟨Nat.le_of_ble_eq_true rfl, Nat.le_of_ble_eq_true rfl⟩) (preW hK hNW hCW (hLow.at hS (fun q9 _ q => rng_M q9 q)) (hX.at hS (fun q9 _ q => rng_M q9 q)) hNC) rfl rfl hl.1 rfl (lv_room (Nat.le_of_ble_eq_true rfl)) dL_refuses_470 (rmx (m := 1200) (n := 7200) (by omega) (by omega)))) hS (fun q h => h) (fun r _ H locs hp hCW hk hS => ?_)
  refine lv_as (y := -7000001) (hp.2.1 hC) ?_
  have hCW : CW G a st H := hCW
  refine lv_ldc (v := -7000001) hx hb hown (hts (.constant RL 75 (-7000001)) (List.mem_of_getElem? (i := 5) (by decide +kernel))) dL_refuses_473 ?_
  refine lv_icmp_ne (tgt := 589) hx hb dL_refuses_475 (by decide) (fun c => absurd c (by decide)) (fun _ => ?_)
  refine lv_aload_n hx hb dL_refuses_478 rfl (lv_at hl 4 rfl) ?_
  refine lv_bipush (v := nI 10) hx hb dL_refuses_479 (by decide) ?_
  refine lv_iconst (v := nI 0) hx hb dL_refuses_481 (by decide) ?_
  refine lv_iload hx hb dL_refuses_482 (lv_at hl 1 rfl) ?_
  refine lv_iconst (v := nI 0) hx hb dL_refuses_484 (by decide) ?_
  refine lv_iconst (v := nI 0) hx hb dL_refuses_485 (by decide) ?_
  have hC : cVa (nI 0) (nI 2147483647) = 2 := by decide
  refine wr_i (vx_run0 (vx_runSX (As := [.ref (a 0), .int (nI 10), .int (nI 0), .int (nI 2147483647), .int (nI 0), .int (nI 0)]) (rest := []) FX (w_act_valueAnew l hfl G a ha t9 st (nI 0) (nI 2147483647) (nI 0) (nI 0) hO) (vx_cwSW 6 hts gL_refuses_L_act rfl rfl rfl (by decide +kernel) ⟨Nat.le_of_ble_eq_true rfl, Nat.le_of_ble_eq_true rfl⟩) (preW hK hNW hCW (hLow.at hS (fun q9 _ q => rng_M q9 q)) (hX.at hS (fun q9 _ q => rng_M q9 q)) hNC) rfl rfl hl.1 rfl (lv_room (Nat.le_of_ble_eq_true rfl)) dL_refuses_486 (rmx (m := 1200) (n := 7200) (by omega) (by omega)))) hS (fun q h => h) (fun r _ H locs hp hCW hk hS => ?_)
  refine lv_as (y := -7000002) (hp.2.2.1 hC) ?_
  have hCW : CW G a st H := hCW
  refine lv_ldc (v := -7000002) hx hb hown (hts (.constant RL 78 (-7000002)) (List.mem_of_getElem? (i := 6) (by decide +kernel))) dL_refuses_489 ?_
  refine lv_icmp_ne (tgt := 589) hx hb dL_refuses_491 (by decide) (fun c => absurd c (by decide)) (fun _ => ?_)
  refine lv_aload_n hx hb dL_refuses_494 rfl (lv_at hl 4 rfl) ?_
  refine lv_bipush (v := nI 11) hx hb dL_refuses_495 (by decide) ?_
  refine lv_iload hx hb dL_refuses_497 (lv_at hl 2 rfl) ?_
  refine lv_bipush (v := nI 99) hx hb dL_refuses_499 (by decide) ?_
  refine lv_iconst (v := nI 0) hx hb dL_refuses_501 (by decide) ?_
  refine lv_iconst (v := nI 0) hx hb dL_refuses_502 (by decide) ?_
  have hC : cOf (nI 2147483647) (nI 99) = 1 := by decide
  refine wr_i (vx_run0 (vx_runSX (As := [.ref (a 0), .int (nI 11), .int (nI 2147483647), .int (nI 99), .int (nI 0), .int (nI 0)]) (rest := []) FX (w_act_ofNet l hfl G a ha t9 st (nI 2147483647) (nI 99) (nI 0) (nI 0) hO) (vx_cwSW 6 hts gL_refuses_L_act rfl rfl rfl (by decide +kernel) ⟨Nat.le_of_ble_eq_true rfl, Nat.le_of_ble_eq_true rfl⟩) (preW hK hNW hCW (hLow.at hS (fun q9 _ q => rng_M q9 q)) (hX.at hS (fun q9 _ q => rng_M q9 q)) hNC) rfl rfl hl.1 rfl (lv_room (Nat.le_of_ble_eq_true rfl)) dL_refuses_503 (rmx (m := 1200) (n := 7200) (by omega) (by omega)))) hS (fun q h => h) (fun r _ H locs hp hCW hk hS => ?_)
  refine lv_as (y := -7000001) (hp.2.1 hC) ?_
  have hCW : CW G a st H := hCW
  refine lv_ldc (v := -7000001) hx hb hown (hts (.constant RL 75 (-7000001)) (List.mem_of_getElem? (i := 5) (by decide +kernel))) dL_refuses_506 ?_
  refine lv_icmp_ne (tgt := 589) hx hb dL_refuses_508 (by decide) (fun c => absurd c (by decide)) (fun _ => ?_)
  refine lv_aload_n hx hb dL_refuses_511 rfl (lv_at hl 4 rfl) ?_
  refine lv_bipush (v := nI 11) hx hb dL_refuses_512 (by decide) ?_
  refine lv_iconst (v := nI 0) hx hb dL_refuses_514 (by decide) ?_
  refine lv_iload_n hx hb dL_refuses_515 rfl (lv_at hl 7 rfl) ?_
  refine lv_iconst (v := nI 1) hx hb dL_refuses_516 (by decide) ?_
  refine lv_icmp_ne (tgt := 525) hx hb dL_refuses_517 (by decide) (fun _ => ?_) (fun c => absurd c (by decide))
  refine lv_iload hx hb dL_refuses_525 (lv_at hl 3 rfl) ?_
  refine lv_iconst (v := nI 0) hx hb dL_refuses_527 (by decide) ?_
  refine lv_iconst (v := nI 0) hx hb dL_refuses_528 (by decide) ?_
  have hC : cOf (nI 0) (nI 2147483647) = 2 := by decide
  refine wr_i (vx_run0 (vx_runSX (As := [.ref (a 0), .int (nI 11), .int (nI 0), .int (nI 2147483647), .int (nI 0), .int (nI 0)]) (rest := []) FX (w_act_ofNet l hfl G a ha t9 st (nI 0) (nI 2147483647) (nI 0) (nI 0) hO) (vx_cwSW 6 hts gL_refuses_L_act rfl rfl rfl (by decide +kernel) ⟨Nat.le_of_ble_eq_true rfl, Nat.le_of_ble_eq_true rfl⟩) (preW hK hNW hCW (hLow.at hS (fun q9 _ q => rng_M q9 q)) (hX.at hS (fun q9 _ q => rng_M q9 q)) hNC) rfl rfl hl.1 rfl (lv_room (Nat.le_of_ble_eq_true rfl)) dL_refuses_529 (rmx (m := 1200) (n := 7200) (by omega) (by omega)))) hS (fun q h => h) (fun r _ H locs hp hCW hk hS => ?_)
  refine lv_as (y := -7000002) (hp.2.2.1 hC) ?_
  have hCW : CW G a st H := hCW
  refine lv_ldc (v := -7000002) hx hb hown (hts (.constant RL 78 (-7000002)) (List.mem_of_getElem? (i := 6) (by decide +kernel))) dL_refuses_532 ?_
  refine lv_icmp_ne (tgt := 589) hx hb dL_refuses_534 (by decide) (fun c => absurd c (by decide)) (fun _ => ?_)
  refine lv_aload_n hx hb dL_refuses_537 rfl (lv_at hl 4 rfl) ?_
  refine lv_bipush (v := nI 12) hx hb dL_refuses_538 (by decide) ?_
  refine lv_iload hx hb dL_refuses_540 (lv_at hl 2 rfl) ?_
  refine lv_iconst (v := nI 0) hx hb dL_refuses_542 (by decide) ?_
  refine lv_iconst (v := nI 0) hx hb dL_refuses_543 (by decide) ?_
  refine lv_iconst (v := nI 0) hx hb dL_refuses_544 (by decide) ?_
  have hC : cTi st.1 (nI 2147483647) (nI 0) = 1 := rc_ti (by decide)
  refine wr_i (vx_run0 (vx_runSX (As := [.ref (a 0), .int (nI 12), .int (nI 2147483647), .int (nI 0), .int (nI 0), .int (nI 0)]) (rest := []) FX (w_act_time l hfl G a ha t9 st (nI 2147483647) (nI 0) (nI 0) (nI 0) hO) (vx_cwSW 6 hts gL_refuses_L_act rfl rfl rfl (by decide +kernel) ⟨Nat.le_of_ble_eq_true rfl, Nat.le_of_ble_eq_true rfl⟩) (preW hK hNW hCW (hLow.at hS (fun q9 _ q => rng_M q9 q)) (hX.at hS (fun q9 _ q => rng_M q9 q)) hNC) rfl rfl hl.1 rfl (lv_room (Nat.le_of_ble_eq_true rfl)) dL_refuses_545 (rmx (m := 1200) (n := 7200) (by omega) (by omega)))) hS (fun q h => h) (fun r _ H locs hp hCW hk hS => ?_)
  refine lv_as (y := -7000001) (hp.2.1 hC) ?_
  have hCW : CW G a st H := hCW
  refine lv_ldc (v := -7000001) hx hb hown (hts (.constant RL 75 (-7000001)) (List.mem_of_getElem? (i := 5) (by decide +kernel))) dL_refuses_548 ?_
  refine lv_icmp_ne (tgt := 589) hx hb dL_refuses_550 (by decide) (fun c => absurd c (by decide)) (fun _ => ?_)
  refine lv_aload_n hx hb dL_refuses_553 rfl (lv_at hl 4 rfl) ?_
  refine lv_bipush (v := nI 13) hx hb dL_refuses_554 (by decide) ?_
  refine lv_iload hx hb dL_refuses_556 (lv_at hl 2 rfl) ?_
  refine lv_iconst (v := nI 0) hx hb dL_refuses_558 (by decide) ?_
  refine lv_iconst (v := nI 0) hx hb dL_refuses_559 (by decide) ?_
  refine lv_iconst (v := nI 0) hx hb dL_refuses_560 (by decide) ?_
  have hC : cPa (nI 2147483647) (nI 0) = 1 := by decide
  refine wr_i (vx_run0 (vx_runSX (As := [.ref (a 0), .int (nI 13), .int (nI 2147483647), .int (nI 0), .int (nI 0), .int (nI 0)]) (rest := []) FX (w_act_path l hfl G a ha t9 st (nI 2147483647) (nI 0) (nI 0) (nI 0) hO) (vx_cwSW 6 hts gL_refuses_L_act rfl rfl rfl (by decide +kernel) ⟨Nat.le_of_ble_eq_true rfl, Nat.le_of_ble_eq_true rfl⟩) (preW hK hNW hCW (hLow.at hS (fun q9 _ q => rng_M q9 q)) (hX.at hS (fun q9 _ q => rng_M q9 q)) hNC) rfl rfl hl.1 rfl (lv_room (Nat.le_of_ble_eq_true rfl)) dL_refuses_561 (rmx (m := 1200) (n := 7200) (by omega) (by omega)))) hS (fun q h => h) (fun r _ H locs hp hCW hk hS => ?_)
  refine lv_as (y := -7000001) (hp.2.1 hC) ?_
  have hCW : CW G a st H := hCW
  refine lv_ldc (v := -7000001) hx hb hown (hts (.constant RL 75 (-7000001)) (List.mem_of_getElem? (i := 5) (by decide +kernel))) dL_refuses_564 ?_
  refine lv_icmp_ne (tgt := 589) hx hb dL_refuses_566 (by decide) (fun c => absurd c (by decide)) (fun _ => ?_)
  refine lv_aload_n hx hb dL_refuses_569 rfl (lv_at hl 4 rfl) ?_
  refine lv_bipush (v := nI 13) hx hb dL_refuses_570 (by decide) ?_
  refine lv_iconst (v := nI 0) hx hb dL_refuses_572 (by decide) ?_
  refine lv_iload hx hb dL_refuses_573 (lv_at hl 0 rfl) ?_
  refine lv_iconst (v := nI 0) hx hb dL_refuses_575 (by decide) ?_
  refine lv_iconst (v := nI 0) hx hb dL_refuses_576 (by decide) ?_
  have hC : cPa (nI 0) (-1) = 1 := by decide
  refine wr_i (vx_run0 (vx_runSX (As := [.ref (a 0), .int (nI 13), .int (nI 0), .int (-1), .int (nI 0), .int (nI 0)]) (rest := []) FX (w_act_path l hfl G a ha t9 st (nI 0) (-1) (nI 0) (nI 0) hO) (vx_cwSW 6 hts gL_refuses_L_act rfl rfl rfl (by decide +kernel) ⟨Nat.le_of_ble_eq_true rfl, Nat.le_of_ble_eq_true rfl⟩) (preW hK hNW hCW (hLow.at hS (fun q9 _ q => rng_M q9 q)) (hX.at hS (fun q9 _ q => rng_M q9 q)) hNC) rfl rfl hl.1 rfl (lv_room (Nat.le_of_ble_eq_true rfl)) dL_refuses_577 (rmx (m := 1200) (n := 7200) (by omega) (by omega)))) hS (fun q h => h) (fun r _ H locs hp hCW hk hS => ?_)
  refine lv_as (y := -7000001) (hp.2.1 hC) ?_
  have hCW : CW G a st H := hCW
  refine lv_ldc (v := -7000001) hx hb hown (hts (.constant RL 75 (-7000001)) (List.mem_of_getElem? (i := 5) (by decide +kernel))) dL_refuses_580 ?_
  refine lv_icmp_ne (tgt := 589) hx hb dL_refuses_582 (by decide) (fun c => absurd c (by decide)) (fun _ => ?_)
  refine lv_iconst (v := nI 1) hx hb dL_refuses_585 (by decide) ?_
  refine lv_goto (tgt := 590) hx hb dL_refuses_586 (by decide) ?_
  refine lv_istore (lv' := [(8, .int (nI 1)), (7, .int (-1)), (6, .int (nI 2147483647)), (5, .int (nI 2147483647)), (4, .int (nI 2147483647)), (0, .ref (a 0)), (1, .int (nI 2147483647)), (2, .int bf), (3, .int (nI 2))]) hx hb dL_refuses_590 hl (by decide) rfl (fun ls hl => ?_)
  exact wid (by omega) (by omega) (K _ _ _ hS hCW hl)
set_option maxHeartbeats 4000000 in
set_option maxRecDepth 100000 in
theorem rf_A3 {p : Program} {l : Launch} {e : Env} {s : State} {m : MethodId} {args : Array Value} {below : List Frame} {meth : Method} {c : Code} {Q : State → Prop} {G : GG} {a : Nat → Nat} {t9 : Nat} (J : LJ p l s m meth c args cL_refuses (some .boolean) 12 wsL_refuses G a t9) {st : ST} (hO : OKS st) {bf : Int32}  (c0 s0 : Nat) (hc : c0 + 67 ≤ 1200) (hs : s0 + 402 ≤ 7200) {H : Heap} {locs : List Loc} {ls : Array Slot} (hS : va_S (rng a 0 93) s.heap H locs) (hCW : CW G a st H) (hl : lv_has ls 12 [(0, .ref (a 0)), (1, .int (nI 2147483647)), (2, .int bf), (3, .int (nI 3))]) (K : ∀ (H : Heap) (locs : List Loc) (ls : Array Slot), va_S (rng a 0 93) s.heap H locs → CW G a st H → lv_has ls 12 [(8, .int (nI 1)), (7, .int (-2147483648)), (6, .int (-2147483648)), (5, .int (-2147483648)), (4, .int (-2147483648)), (0, .ref (a 0)), (1, .int (nI 2147483647)), (2, .int bf), (3, .int (nI 3))] → W p l e ({ frames := 10, cells := 1200, slots := 7200, locals := 194 } : Room) s m args below meth c H locs (c0 + 67) (s0 + 402) Q (F0 m 592 ls [])) : W p l e ({ frames := 10, cells := 1200, slots := 7200, locals := 194 } : Room) s m args below meth c H locs c0 s0 Q (F0 m 43 ls []) := by
  obtain ⟨hfl, hx, hb, hr, hml, hown, hts, hlocks, ha, hK, hNW, hLow, hX, hNC⟩ := J
  have FX : CallFix p m c cL_refuses 12 s args wsL_refuses RL := ⟨hx, hb, hml, hown, hts⟩
  refine lv_iload_n hx hb dL_refuses_43 rfl (lv_at hl 3 rfl) ?_
  refine lv_iconst (v := nI 4) hx hb dL_refuses_44 (by decide) ?_
  refine lv_icmp_ge (tgt := 1204) hx hb dL_refuses_45 (by decide) (fun c => absurd c (by decide)) (fun _ => ?_)
  refine lv_iload_n hx hb dL_refuses_48 rfl (lv_at hl 3 rfl) ?_
  refine lv_if_ne (tgt := 56) hx hb dL_refuses_49 (by decide) (fun _ => ?_) (fun c => absurd c (by decide))
  refine lv_iload_n hx hb dL_refuses_56 rfl (lv_at hl 3 rfl) ?_
  refine lv_iconst (v := nI 2) hx hb dL_refuses_57 (by decide) ?_
  refine lv_icmp_ne (tgt := 65) hx hb dL_refuses_58 (by decide) (fun _ => ?_) (fun c => absurd c (by decide))
  refine lv_iload_n hx hb dL_refuses_65 rfl (lv_at hl 1 rfl) ?_
  refine lv_ineg hx hb dL_refuses_66 ?_
  refine lv_as (y := -2147483647) (by decide) ?_
  refine lv_iconst (v := nI 1) hx hb dL_refuses_67 (by decide) ?_
  refine lv_isub hx hb dL_refuses_68 ?_
  refine lv_as (y := -2147483648) (by decide) ?_
  refine lv_istore (lv' := [(4, .int (-2147483648)), (0, .ref (a 0)), (1, .int (nI 2147483647)), (2, .int bf), (3, .int (nI 3))]) hx hb dL_refuses_69 hl (by decide) rfl (fun ls hl => ?_)
  refine lv_iload_n hx hb dL_refuses_71 rfl (lv_at hl 4 rfl) ?_
  refine lv_iconst (v := nI 1) hx hb dL_refuses_72 (by decide) ?_
  refine lv_icmp_ne (tgt := 80) hx hb dL_refuses_73 (by decide) (fun _ => ?_) (fun c => absurd c (by decide))
  refine lv_iload hx hb dL_refuses_80 (lv_at hl 0 rfl) ?_
  refine lv_istore (lv' := [(5, .int (-2147483648)), (4, .int (-2147483648)), (0, .ref (a 0)), (1, .int (nI 2147483647)), (2, .int bf), (3, .int (nI 3))]) hx hb dL_refuses_82 hl (by decide) rfl (fun ls hl => ?_)
  refine lv_iload_n hx hb dL_refuses_84 rfl (lv_at hl 5 rfl) ?_
  refine lv_iconst (v := nI 1) hx hb dL_refuses_85 (by decide) ?_
  refine lv_icmp_ne (tgt := 94) hx hb dL_refuses_86 (by decide) (fun _ => ?_) (fun c => absurd c (by decide))
  refine lv_iload hx hb dL_refuses_94 (lv_at hl 1 rfl) ?_
  refine lv_istore (lv' := [(6, .int (-2147483648)), (5, .int (-2147483648)), (4, .int (-2147483648)), (0, .ref (a 0)), (1, .int (nI 2147483647)), (2, .int bf), (3, .int (nI 3))]) hx hb dL_refuses_96 hl (by decide) rfl (fun ls hl => ?_)
  refine lv_iload_n hx hb dL_refuses_98 rfl (lv_at hl 6 rfl) ?_
  refine lv_iconst (v := nI 2) hx hb dL_refuses_99 (by decide) ?_
  refine lv_icmp_ne (tgt := 107) hx hb dL_refuses_100 (by decide) (fun _ => ?_) (fun c => absurd c (by decide))
  refine lv_iload_n hx hb dL_refuses_107 rfl (lv_at hl 6 rfl) ?_
  refine lv_iconst (v := nI 1) hx hb dL_refuses_108 (by decide) ?_
  refine lv_icmp_ne (tgt := 117) hx hb dL_refuses_109 (by decide) (fun _ => ?_) (fun c => absurd c (by decide))
  refine lv_iload_n hx hb dL_refuses_117 rfl (lv_at hl 4 rfl) ?_
  refine lv_ineg hx hb dL_refuses_118 ?_
  refine lv_as (y := -2147483647) (by decide) ?_
  refine lv_iconst (v := nI 1) hx hb dL_refuses_119 (by decide) ?_
  refine lv_isub hx hb dL_refuses_120 ?_
  refine lv_as (y := -2147483648) (by decide) ?_
  refine lv_istore (lv' := [(7, .int (-2147483648)), (6, .int (-2147483648)), (5, .int (-2147483648)), (4, .int (-2147483648)), (0, .ref (a 0)), (1, .int (nI 2147483647)), (2, .int bf), (3, .int (nI 3))]) hx hb dL_refuses_121 hl (by decide) rfl (fun ls hl => ?_)
  refine lv_aload_n hx hb dL_refuses_123 rfl (lv_at hl 4 rfl) ?_
  refine lv_iconst (v := nI 0) hx hb dL_refuses_124 (by decide) ?_
  refine lv_iload hx hb dL_refuses_125 (lv_at hl 2 rfl) ?_
  refine lv_iconst (v := nI 0) hx hb dL_refuses_127 (by decide) ?_
  refine lv_iconst (v := nI 0) hx hb dL_refuses_128 (by decide) ?_
  refine lv_iconst (v := nI 0) hx hb dL_refuses_129 (by decide) ?_
  have hC : cIn st.1 (-2147483648) = 1 := rc_in (by decide)
  refine wr_i (vx_run0 (vx_runSX (As := [.ref (a 0), .int (nI 0), .int (-2147483648), .int (nI 0), .int (nI 0), .int (nI 0)]) (rest := []) FX (w_act_input l hfl G a ha t9 st (-2147483648) (nI 0) (nI 0) (nI 0) hO) (vx_cwSW 6 hts gL_refuses_L_act rfl rfl rfl (by decide +kernel) ⟨Nat.le_of_ble_eq_true rfl, Nat.le_of_ble_eq_true rfl⟩) (preW hK hNW hCW (hLow.at hS (fun q9 _ q => rng_M q9 q)) (hX.at hS (fun q9 _ q => rng_M q9 q)) hNC) rfl rfl hl.1 rfl (lv_room (Nat.le_of_ble_eq_true rfl)) dL_refuses_130 (rmx (m := 1200) (n := 7200) (by omega) (by omega)))) hS (fun q h => h) (fun r _ H locs hp hCW hk hS => ?_)
  refine lv_as (y := -7000001) (hp.2.1 hC) ?_
  rw [stN_n hC (by decide)] at hCW
  have hCW : CW G a st H := hCW
  refine lv_ldc (v := -7000001) hx hb hown (hts (.constant RL 75 (-7000001)) (List.mem_of_getElem? (i := 5) (by decide +kernel))) dL_refuses_133 ?_
  refine lv_icmp_ne (tgt := 589) hx hb dL_refuses_135 (by decide) (fun c => absurd c (by decide)) (fun _ => ?_)
  refine lv_aload_n hx hb dL_refuses_138 rfl (lv_at hl 4 rfl) ?_
  refine lv_iconst (v := nI 1) hx hb dL_refuses_139 (by decide) ?_
  refine lv_iload hx hb dL_refuses_140 (lv_at hl 2 rfl) ?_
  refine lv_iconst (v := nI 0) hx hb dL_refuses_142 (by decide) ?_
  refine lv_iconst (v := nI 0) hx hb dL_refuses_143 (by decide) ?_
  refine lv_iconst (v := nI 0) hx hb dL_refuses_144 (by decide) ?_
  have hC : cGa st.1 (-2147483648) (nI 0) (nI 0) (nI 0) = 1 := rc_ga (by decide)
  refine wr_i (vx_run0 (vx_runSX (As := [.ref (a 0), .int (nI 1), .int (-2147483648), .int (nI 0), .int (nI 0), .int (nI 0)]) (rest := []) FX (w_act_gate l hfl G a ha t9 st (-2147483648) (nI 0) (nI 0) (nI 0) hO) (vx_cwSW 6 hts gL_refuses_L_act rfl rfl rfl (by decide +kernel) ⟨Nat.le_of_ble_eq_true rfl, Nat.le_of_ble_eq_true rfl⟩) (preW hK hNW hCW (hLow.at hS (fun q9 _ q => rng_M q9 q)) (hX.at hS (fun q9 _ q => rng_M q9 q)) hNC) rfl rfl hl.1 rfl (lv_room (Nat.le_of_ble_eq_true rfl)) dL_refuses_145 (rmx (m := 1200) (n := 7200) (by omega) (by omega)))) hS (fun q h => h) (fun r _ H locs hp hCW hk hS => ?_)
  refine lv_as (y := -7000001) (hp.2.1 hC) ?_
  rw [stN_n hC (by decide)] at hCW
  have hCW : CW G a st H := hCW
  refine lv_ldc (v := -7000001) hx hb hown (hts (.constant RL 75 (-7000001)) (List.mem_of_getElem? (i := 5) (by decide +kernel))) dL_refuses_148 ?_
  refine lv_icmp_ne (tgt := 589) hx hb dL_refuses_150 (by decide) (fun c => absurd c (by decide)) (fun _ => ?_)
  refine lv_aload_n hx hb dL_refuses_153 rfl (lv_at hl 4 rfl) ?_
  refine lv_iconst (v := nI 1) hx hb dL_refuses_154 (by decide) ?_
  refine lv_iconst (v := nI 0) hx hb dL_refuses_155 (by decide) ?_
  refine lv_iload hx hb dL_refuses_156 (lv_at hl 2 rfl) ?_
  refine lv_iconst (v := nI 0) hx hb dL_refuses_158 (by decide) ?_
  refine lv_iconst (v := nI 0) hx hb dL_refuses_159 (by decide) ?_
  have hC : cGa st.1 (nI 0) (-2147483648) (nI 0) (nI 0) = 1 := rc_gk (by decide)
  refine wr_i (vx_run0 (vx_runSX (As := [.ref (a 0), .int (nI 1), .int (nI 0), .int (-2147483648), .int (nI 0), .int (nI 0)]) (rest := []) FX (w_act_gate l hfl G a ha t9 st (nI 0) (-2147483648) (nI 0) (nI 0) hO) (vx_cwSW 6 hts gL_refuses_L_act rfl rfl rfl (by decide +kernel) ⟨Nat.le_of_ble_eq_true rfl, Nat.le_of_ble_eq_true rfl⟩) (preW hK hNW hCW (hLow.at hS (fun q9 _ q => rng_M q9 q)) (hX.at hS (fun q9 _ q => rng_M q9 q)) hNC) rfl rfl hl.1 rfl (lv_room (Nat.le_of_ble_eq_true rfl)) dL_refuses_160 (rmx (m := 1200) (n := 7200) (by omega) (by omega)))) hS (fun q h => h) (fun r _ H locs hp hCW hk hS => ?_)
  refine lv_as (y := -7000001) (hp.2.1 hC) ?_
  rw [stN_n hC (by decide)] at hCW
  have hCW : CW G a st H := hCW
  refine lv_ldc (v := -7000001) hx hb hown (hts (.constant RL 75 (-7000001)) (List.mem_of_getElem? (i := 5) (by decide +kernel))) dL_refuses_163 ?_
  refine lv_icmp_ne (tgt := 589) hx hb dL_refuses_165 (by decide) (fun c => absurd c (by decide)) (fun _ => ?_)
  refine lv_aload_n hx hb dL_refuses_168 rfl (lv_at hl 4 rfl) ?_
  refine lv_iconst (v := nI 2) hx hb dL_refuses_169 (by decide) ?_
  refine lv_iload hx hb dL_refuses_170 (lv_at hl 2 rfl) ?_
  refine lv_iconst (v := nI 0) hx hb dL_refuses_172 (by decide) ?_
  refine lv_iconst (v := nI 0) hx hb dL_refuses_173 (by decide) ?_
  refine lv_iconst (v := nI 0) hx hb dL_refuses_174 (by decide) ?_
  have hC : cOu st.1 (-2147483648) (nI 0) = 1 := rc_ou (by decide)
  refine wr_i (vx_run0 (vx_runSX (As := [.ref (a 0), .int (nI 2), .int (-2147483648), .int (nI 0), .int (nI 0), .int (nI 0)]) (rest := []) FX (w_act_out l hfl G a ha t9 st (-2147483648) (nI 0) (nI 0) (nI 0) hO) (vx_cwSW 6 hts gL_refuses_L_act rfl rfl rfl (by decide +kernel) ⟨Nat.le_of_ble_eq_true rfl, Nat.le_of_ble_eq_true rfl⟩) (preW hK hNW hCW (hLow.at hS (fun q9 _ q => rng_M q9 q)) (hX.at hS (fun q9 _ q => rng_M q9 q)) hNC) rfl rfl hl.1 rfl (lv_room (Nat.le_of_ble_eq_true rfl)) dL_refuses_175 (rmx (m := 1200) (n := 7200) (by omega) (by omega)))) hS (fun q h => h) (fun r _ H locs hp hCW hk hS => ?_)
  refine lv_as (y := -7000001) (hp.2.1 hC) ?_
  rw [stN_n hC (by decide)] at hCW
  have hCW : CW G a st H := hCW
  refine lv_ldc (v := -7000001) hx hb hown (hts (.constant RL 75 (-7000001)) (List.mem_of_getElem? (i := 5) (by decide +kernel))) dL_refuses_178 ?_
  refine lv_icmp_ne (tgt := 589) hx hb dL_refuses_180 (by decide) (fun c => absurd c (by decide)) (fun _ => ?_)
  refine lv_aload_n hx hb dL_refuses_183 rfl (lv_at hl 4 rfl) ?_
  refine lv_iconst (v := nI 3) hx hb dL_refuses_184 (by decide) ?_
  refine lv_iload hx hb dL_refuses_185 (lv_at hl 2 rfl) ?_
  refine lv_bipush (v := nI 9) hx hb dL_refuses_187 (by decide) ?_
  refine lv_bipush (v := nI 9) hx hb dL_refuses_189 (by decide) ?_
  refine lv_iconst (v := nI 0) hx hb dL_refuses_191 (by decide) ?_
  have hC : cAd st.1 (-2147483648) (nI 9) (nI 9) = 1 := rc_ad (by decide)
  refine wr_i (vx_run0 (vx_runSX (As := [.ref (a 0), .int (nI 3), .int (-2147483648), .int (nI 9), .int (nI 9), .int (nI 0)]) (rest := []) FX (w_act_adder l hfl G a ha t9 st (-2147483648) (nI 9) (nI 9) (nI 0) hO) (vx_cwSW 6 hts gL_refuses_L_act rfl rfl rfl (by decide +kernel) ⟨Nat.le_of_ble_eq_true rfl, Nat.le_of_ble_eq_true rfl⟩) (preW hK hNW hCW (hLow.at hS (fun q9 _ q => rng_M q9 q)) (hX.at hS (fun q9 _ q => rng_M q9 q)) hNC) rfl rfl hl.1 rfl (lv_room (Nat.le_of_ble_eq_true rfl)) dL_refuses_192 (rmx (m := 1200) (n := 7200) (by omega) (by omega)))) hS (fun q h => h) (fun r _ H locs hp hCW hk hS => ?_)
  refine lv_as (y := -7000001) (hp.2.1 hC) ?_
  rw [stN_n hC (by decide)] at hCW
  have hCW : CW G a st H := hCW
  refine lv_ldc (v := -7000001) hx hb hown (hts (.constant RL 75 (-7000001)) (List.mem_of_getElem? (i := 5) (by decide +kernel))) dL_refuses_195 ?_
  refine lv_icmp_ne (tgt := 589) hx hb dL_refuses_197 (by decide) (fun c => absurd c (by decide)) (fun _ => ?_)
  refine lv_aload_n hx hb dL_refuses_200 rfl (lv_at hl 4 rfl) ?_
  refine lv_iconst (v := nI 3) hx hb dL_refuses_201 (by decide) ?_
  refine lv_iconst (v := nI 0) hx hb dL_refuses_202 (by decide) ?_
  refine lv_iload_n hx hb dL_refuses_203 rfl (lv_at hl 7 rfl) ?_
  refine lv_iconst (v := nI 1) hx hb dL_refuses_204 (by decide) ?_
  refine lv_icmp_ne (tgt := 212) hx hb dL_refuses_205 (by decide) (fun _ => ?_) (fun c => absurd c (by decide))
  refine lv_iload hx hb dL_refuses_212 (lv_at hl 3 rfl) ?_
  refine lv_iconst (v := nI 1) hx hb dL_refuses_214 (by decide) ?_
  refine lv_iconst (v := nI 0) hx hb dL_refuses_215 (by decide) ?_
  have hC : cAd st.1 (nI 0) (-2147483648) (nI 1) = 2 := rc_af (by decide) (by decide)
  refine wr_i (vx_run0 (vx_runSX (As := [.ref (a 0), .int (nI 3), .int (nI 0), .int (-2147483648), .int (nI 1), .int (nI 0)]) (rest := []) FX (w_act_adder l hfl G a ha t9 st (nI 0) (-2147483648) (nI 1) (nI 0) hO) (vx_cwSW 6 hts gL_refuses_L_act rfl rfl rfl (by decide +kernel) ⟨Nat.le_of_ble_eq_true rfl, Nat.le_of_ble_eq_true rfl⟩) (preW hK hNW hCW (hLow.at hS (fun q9 _ q => rng_M q9 q)) (hX.at hS (fun q9 _ q => rng_M q9 q)) hNC) rfl rfl hl.1 rfl (lv_room (Nat.le_of_ble_eq_true rfl)) dL_refuses_216 (rmx (m := 1200) (n := 7200) (by omega) (by omega)))) hS (fun q h => h) (fun r _ H locs hp hCW hk hS => ?_)
  refine lv_as (y := -7000002) (hp.2.2.1 hC) ?_
  rw [stN_n hC (by decide)] at hCW
  have hCW : CW G a st H := hCW
  refine lv_ldc (v := -7000002) hx hb hown (hts (.constant RL 78 (-7000002)) (List.mem_of_getElem? (i := 6) (by decide +kernel))) dL_refuses_219 ?_
  refine lv_icmp_ne (tgt := 589) hx hb dL_refuses_221 (by decide) (fun c => absurd c (by decide)) (fun _ => ?_)
  refine lv_aload_n hx hb dL_refuses_224 rfl (lv_at hl 4 rfl) ?_
  refine lv_iconst (v := nI 3) hx hb dL_refuses_225 (by decide) ?_
  refine lv_iconst (v := nI 0) hx hb dL_refuses_226 (by decide) ?_
  refine lv_iconst (v := nI 0) hx hb dL_refuses_227 (by decide) ?_
  refine lv_iload_n hx hb dL_refuses_228 rfl (lv_at hl 7 rfl) ?_
  refine lv_if_ne (tgt := 236) hx hb dL_refuses_229 (by decide) (fun _ => ?_) (fun c => absurd c (by decide))
  refine lv_iload_n hx hb dL_refuses_236 rfl (lv_at hl 7 rfl) ?_
  refine lv_iconst (v := nI 1) hx hb dL_refuses_237 (by decide) ?_
  refine lv_icmp_ne (tgt := 246) hx hb dL_refuses_238 (by decide) (fun _ => ?_) (fun c => absurd c (by decide))
  refine lv_iload hx hb dL_refuses_246 (lv_at hl 3 rfl) ?_
  refine lv_iconst (v := nI 0) hx hb dL_refuses_248 (by decide) ?_
  have hC : cAd st.1 (nI 0) (nI 0) (-2147483648) = 2 := rc_aw (by decide) (by decide)
  refine wr_i (vx_run0 (vx_runSX (As := [.ref (a 0), .int (nI 3), .int (nI 0), .int (nI 0), .int (-2147483648), .int (nI 0)]) (rest := []) FX (w_act_adder l hfl G a ha t9 st (nI 0) (nI 0) (-2147483648) (nI 0) hO) (vx_cwSW 6 hts gL_refuses_L_act rfl rfl rfl (by decide +kernel) ⟨Nat.le_of_ble_eq_true rfl, Nat.le_of_ble_eq_true rfl⟩) (preW hK hNW hCW (hLow.at hS (fun q9 _ q => rng_M q9 q)) (hX.at hS (fun q9 _ q => rng_M q9 q)) hNC) rfl rfl hl.1 rfl (lv_room (Nat.le_of_ble_eq_true rfl)) dL_refuses_249 (rmx (m := 1200) (n := 7200) (by omega) (by omega)))) hS (fun q h => h) (fun r _ H locs hp hCW hk hS => ?_)
  refine lv_as (y := -7000002) (hp.2.2.1 hC) ?_
  rw [stN_n hC (by decide)] at hCW
  have hCW : CW G a st H := hCW
  refine lv_ldc (v := -7000002) hx hb hown (hts (.constant RL 78 (-7000002)) (List.mem_of_getElem? (i := 6) (by decide +kernel))) dL_refuses_252 ?_
  refine lv_icmp_ne (tgt := 589) hx hb dL_refuses_254 (by decide) (fun c => absurd c (by decide)) (fun _ => ?_)
  refine lv_aload_n hx hb dL_refuses_257 rfl (lv_at hl 4 rfl) ?_
  refine lv_iconst (v := nI 4) hx hb dL_refuses_258 (by decide) ?_
  refine lv_iload hx hb dL_refuses_259 (lv_at hl 2 rfl) ?_
  refine lv_bipush (v := nI 9) hx hb dL_refuses_261 (by decide) ?_
  refine lv_iconst (v := nI 0) hx hb dL_refuses_263 (by decide) ?_
  refine lv_iconst (v := nI 0) hx hb dL_refuses_264 (by decide) ?_
  have hC : cMu st.1 (-2147483648) (nI 9) = 1 := rc_mu (by decide)
  refine wr_i (vx_run0 (vx_runSX (As := [.ref (a 0), .int (nI 4), .int (-2147483648), .int (nI 9), .int (nI 0), .int (nI 0)]) (rest := []) FX (w_act_multiplier l hfl G a ha t9 st (-2147483648) (nI 9) (nI 0) (nI 0) hO) (vx_cwSW 6 hts gL_refuses_L_act rfl rfl rfl (by decide +kernel) ⟨Nat.le_of_ble_eq_true rfl, Nat.le_of_ble_eq_true rfl⟩) (preW hK hNW hCW (hLow.at hS (fun q9 _ q => rng_M q9 q)) (hX.at hS (fun q9 _ q => rng_M q9 q)) hNC) rfl rfl hl.1 rfl (lv_room (Nat.le_of_ble_eq_true rfl)) dL_refuses_265 (rmx (m := 1200) (n := 7200) (by omega) (by omega)))) hS (fun q h => h) (fun r _ H locs hp hCW hk hS => ?_)
  refine lv_as (y := -7000001) (hp.2.1 hC) ?_
  rw [stN_n hC (by decide)] at hCW
  have hCW : CW G a st H := hCW
  refine lv_ldc (v := -7000001) hx hb hown (hts (.constant RL 75 (-7000001)) (List.mem_of_getElem? (i := 5) (by decide +kernel))) dL_refuses_268 ?_
  refine lv_icmp_ne (tgt := 589) hx hb dL_refuses_270 (by decide) (fun c => absurd c (by decide)) (fun _ => ?_)
  refine lv_aload_n hx hb dL_refuses_273 rfl (lv_at hl 4 rfl) ?_
  refine lv_iconst (v := nI 4) hx hb dL_refuses_274 (by decide) ?_
  refine lv_iconst (v := nI 0) hx hb dL_refuses_275 (by decide) ?_
  refine lv_iload_n hx hb dL_refuses_276 rfl (lv_at hl 7 rfl) ?_
  refine lv_if_ne (tgt := 284) hx hb dL_refuses_277 (by decide) (fun _ => ?_) (fun c => absurd c (by decide))
  refine lv_iload_n hx hb dL_refuses_284 rfl (lv_at hl 7 rfl) ?_
  refine lv_iconst (v := nI 1) hx hb dL_refuses_285 (by decide) ?_
  refine lv_icmp_ne (tgt := 293) hx hb dL_refuses_286 (by decide) (fun _ => ?_) (fun c => absurd c (by decide))
  refine lv_iload hx hb dL_refuses_293 (lv_at hl 3 rfl) ?_
  refine lv_iconst (v := nI 0) hx hb dL_refuses_295 (by decide) ?_
  refine lv_iconst (v := nI 0) hx hb dL_refuses_296 (by decide) ?_
  have hC : cMu st.1 (nI 0) (-2147483648) = 2 := rc_mw (by decide) (by decide)
  refine wr_i (vx_run0 (vx_runSX (As := [.ref (a 0), .int (nI 4), .int (nI 0), .int (-2147483648), .int (nI 0), .int (nI 0)]) (rest := []) FX (w_act_multiplier l hfl G a ha t9 st (nI 0) (-2147483648) (nI 0) (nI 0) hO) (vx_cwSW 6 hts gL_refuses_L_act rfl rfl rfl (by decide +kernel) ⟨Nat.le_of_ble_eq_true rfl, Nat.le_of_ble_eq_true rfl⟩) (preW hK hNW hCW (hLow.at hS (fun q9 _ q => rng_M q9 q)) (hX.at hS (fun q9 _ q => rng_M q9 q)) hNC) rfl rfl hl.1 rfl (lv_room (Nat.le_of_ble_eq_true rfl)) dL_refuses_297 (rmx (m := 1200) (n := 7200) (by omega) (by omega)))) hS (fun q h => h) (fun r _ H locs hp hCW hk hS => ?_)
  refine lv_as (y := -7000002) (hp.2.2.1 hC) ?_
  rw [stN_n hC (by decide)] at hCW
  have hCW : CW G a st H := hCW
  refine lv_ldc (v := -7000002) hx hb hown (hts (.constant RL 78 (-7000002)) (List.mem_of_getElem? (i := 6) (by decide +kernel))) dL_refuses_300 ?_
  refine lv_icmp_ne (tgt := 589) hx hb dL_refuses_302 (by decide) (fun c => absurd c (by decide)) (fun _ => ?_)
  refine lv_aload_n hx hb dL_refuses_305 rfl (lv_at hl 4 rfl) ?_
  refine lv_iconst (v := nI 5) hx hb dL_refuses_306 (by decide) ?_
  refine lv_iload hx hb dL_refuses_307 (lv_at hl 2 rfl) ?_
  refine lv_iconst (v := nI 0) hx hb dL_refuses_309 (by decide) ?_
  refine lv_iconst (v := nI 0) hx hb dL_refuses_310 (by decide) ?_
  refine lv_iconst (v := nI 0) hx hb dL_refuses_311 (by decide) ?_
  have hC : cCl (-2147483648) = 1 := by decide
  refine wr_i (vx_run0 (vx_runSX (As := [.ref (a 0), .int (nI 5), .int (-2147483648), .int (nI 0), .int (nI 0), .int (nI 0)]) (rest := []) FX (w_act_clear l hfl G a ha t9 st (-2147483648) (nI 0) (nI 0) (nI 0) hO) (vx_cwSW 6 hts gL_refuses_L_act rfl rfl rfl (by decide +kernel) ⟨Nat.le_of_ble_eq_true rfl, Nat.le_of_ble_eq_true rfl⟩) (preW hK hNW hCW (hLow.at hS (fun q9 _ q => rng_M q9 q)) (hX.at hS (fun q9 _ q => rng_M q9 q)) hNC) rfl rfl hl.1 rfl (lv_room (Nat.le_of_ble_eq_true rfl)) dL_refuses_312 (rmx (m := 1200) (n := 7200) (by omega) (by omega)))) hS (fun q h => h) (fun r _ H locs hp hCW hk hS => ?_)
  refine lv_as (y := -7000001) (hp.2.1 hC) ?_
  rw [stN_n hC (by decide)] at hCW
  have hCW : CW G a st H := hCW
  refine lv_ldc (v := -7000001) hx hb hown (hts (.constant RL 75 (-7000001)) (List.mem_of_getElem? (i := 5) (by decide +kernel))) dL_refuses_315 ?_
  refine lv_icmp_ne (tgt := 589) hx hb dL_refuses_317 (by decide) (fun c => absurd c (by decide)) (fun _ => ?_)
  refine lv_aload_n hx hb dL_refuses_320 rfl (lv_at hl 4 rfl) ?_
  refine lv_bipush (v := nI 6) hx hb dL_refuses_321 (by decide) ?_
  refine lv_iload hx hb dL_refuses_323 (lv_at hl 2 rfl) ?_
  refine lv_iconst (v := nI 0) hx hb dL_refuses_325 (by decide) ?_
  refine lv_bipush (v := nI 100) hx hb dL_refuses_326 (by decide) ?_
  refine lv_iconst (v := nI 0) hx hb dL_refuses_328 (by decide) ?_
  have hC : cCo (-2147483648) (nI 0) (nI 100) = 1 := by decide
  refine wr_i (vx_run0 (vx_runSX (As := [.ref (a 0), .int (nI 6), .int (-2147483648), .int (nI 0), .int (nI 100), .int (nI 0)]) (rest := []) FX (w_act_cost l hfl G a ha t9 st (-2147483648) (nI 0) (nI 100) (nI 0) hO) (vx_cwSW 6 hts gL_refuses_L_act rfl rfl rfl (by decide +kernel) ⟨Nat.le_of_ble_eq_true rfl, Nat.le_of_ble_eq_true rfl⟩) (preW hK hNW hCW (hLow.at hS (fun q9 _ q => rng_M q9 q)) (hX.at hS (fun q9 _ q => rng_M q9 q)) hNC) rfl rfl hl.1 rfl (lv_room (Nat.le_of_ble_eq_true rfl)) dL_refuses_329 (rmx (m := 1200) (n := 7200) (by omega) (by omega)))) hS (fun q h => h) (fun r _ H locs hp hCW hk hS => ?_)
  refine lv_as (y := -7000001) (hp.2.1 hC) ?_
  rw [stN_n hC (by decide), stN_n hC (by decide)] at hCW
  have hCW : CW G a st H := hCW
  refine lv_ldc (v := -7000001) hx hb hown (hts (.constant RL 75 (-7000001)) (List.mem_of_getElem? (i := 5) (by decide +kernel))) dL_refuses_332 ?_
  refine lv_icmp_ne (tgt := 589) hx hb dL_refuses_334 (by decide) (fun c => absurd c (by decide)) (fun _ => ?_)
  refine lv_aload_n hx hb dL_refuses_337 rfl (lv_at hl 4 rfl) ?_
  refine lv_bipush (v := nI 6) hx hb dL_refuses_338 (by decide) ?_
  refine lv_iconst (v := nI 0) hx hb dL_refuses_340 (by decide) ?_
  refine lv_iload_n hx hb dL_refuses_341 rfl (lv_at hl 7 rfl) ?_
  refine lv_if_ne (tgt := 349) hx hb dL_refuses_342 (by decide) (fun _ => ?_) (fun c => absurd c (by decide))
  refine lv_iload_n hx hb dL_refuses_349 rfl (lv_at hl 7 rfl) ?_
  refine lv_iconst (v := nI 1) hx hb dL_refuses_350 (by decide) ?_
  refine lv_icmp_ne (tgt := 359) hx hb dL_refuses_351 (by decide) (fun _ => ?_) (fun c => absurd c (by decide))
  refine lv_iload hx hb dL_refuses_359 (lv_at hl 3 rfl) ?_
  refine lv_iconst (v := nI 1) hx hb dL_refuses_361 (by decide) ?_
  refine lv_iconst (v := nI 0) hx hb dL_refuses_362 (by decide) ?_
  have hC : cCo (nI 0) (-2147483648) (nI 1) = 2 := by decide
  refine wr_i (vx_run0 (vx_runSX (As := [.ref (a 0), .int (nI 6), .int (nI 0), .int (-2147483648), .int (nI 1), .int (nI 0)]) (rest := []) FX (w_act_cost l hfl G a ha t9 st (nI 0) (-2147483648) (nI 1) (nI 0) hO) (vx_cwSW 6 hts gL_refuses_L_act rfl rfl rfl (by decide +kernel) ⟨Nat.le_of_ble_eq_true rfl, Nat.le_of_ble_eq_true rfl⟩) (preW hK hNW hCW (hLow.at hS (fun q9 _ q => rng_M q9 q)) (hX.at hS (fun q9 _ q => rng_M q9 q)) hNC) rfl rfl hl.1 rfl (lv_room (Nat.le_of_ble_eq_true rfl)) dL_refuses_363 (rmx (m := 1200) (n := 7200) (by omega) (by omega)))) hS (fun q h => h) (fun r _ H locs hp hCW hk hS => ?_)
  refine lv_as (y := -7000002) (hp.2.2.1 hC) ?_
  rw [stN_n hC (by decide), stN_n hC (by decide)] at hCW
  have hCW : CW G a st H := hCW
  refine lv_ldc (v := -7000002) hx hb hown (hts (.constant RL 78 (-7000002)) (List.mem_of_getElem? (i := 6) (by decide +kernel))) dL_refuses_366 ?_
  refine lv_icmp_ne (tgt := 589) hx hb dL_refuses_368 (by decide) (fun c => absurd c (by decide)) (fun _ => ?_)
  refine lv_aload_n hx hb dL_refuses_371 rfl (lv_at hl 4 rfl) ?_
  refine lv_bipush (v := nI 6) hx hb dL_refuses_372 (by decide) ?_
  refine lv_iconst (v := nI 0) hx hb dL_refuses_374 (by decide) ?_
  refine lv_iconst (v := nI 1) hx hb dL_refuses_375 (by decide) ?_
  refine lv_iload_n hx hb dL_refuses_376 rfl (lv_at hl 7 rfl) ?_
  refine lv_iconst (v := nI 1) hx hb dL_refuses_377 (by decide) ?_
  refine lv_icmp_ne (tgt := 386) hx hb dL_refuses_378 (by decide) (fun _ => ?_) (fun c => absurd c (by decide))
  refine lv_iload hx hb dL_refuses_386 (lv_at hl 3 rfl) ?_
  refine lv_iconst (v := nI 0) hx hb dL_refuses_388 (by decide) ?_
  have hC : cCo (nI 0) (nI 1) (-2147483648) = 2 := by decide
  refine wr_i (vx_run0 (vx_runSX (As := [.ref (a 0), .int (nI 6), .int (nI 0), .int (nI 1), .int (-2147483648), .int (nI 0)]) (rest := []) FX (w_act_cost l hfl G a ha t9 st (nI 0) (nI 1) (-2147483648) (nI 0) hO) (vx_cwSW 6 hts gL_refuses_L_act rfl rfl rfl (by decide +kernel) ⟨Nat.le_of_ble_eq_true rfl, Nat.le_of_ble_eq_true rfl⟩) (preW hK hNW hCW (hLow.at hS (fun q9 _ q => rng_M q9 q)) (hX.at hS (fun q9 _ q => rng_M q9 q)) hNC) rfl rfl hl.1 rfl (lv_room (Nat.le_of_ble_eq_true rfl)) dL_refuses_389 (rmx (m := 1200) (n := 7200) (by omega) (by omega)))) hS (fun q h => h) (fun r _ H locs hp hCW hk hS => ?_)
  refine lv_as (y := -7000002) (hp.2.2.1 hC) ?_
  rw [stN_n hC (by decide), stN_n hC (by decide)] at hCW
  have hCW : CW G a st H := hCW
  refine lv_ldc (v := -7000002) hx hb hown (hts (.constant RL 78 (-7000002)) (List.mem_of_getElem? (i := 6) (by decide +kernel))) dL_refuses_392 ?_
  refine lv_icmp_ne (tgt := 589) hx hb dL_refuses_394 (by decide) (fun c => absurd c (by decide)) (fun _ => ?_)
  refine lv_aload_n hx hb dL_refuses_397 rfl (lv_at hl 4 rfl) ?_
  refine lv_bipush (v := nI 7) hx hb dL_refuses_398 (by decide) ?_
  refine lv_iload hx hb dL_refuses_400 (lv_at hl 2 rfl) ?_
  refine lv_iconst (v := nI 0) hx hb dL_refuses_402 (by decide) ?_
  refine lv_bipush (v := nI 9) hx hb dL_refuses_403 (by decide) ?_
  refine lv_iconst (v := nI 0) hx hb dL_refuses_405 (by decide) ?_
  have hC : cSt st.1 (-2147483648) (nI 0) (nI 9) = 1 := rc_st (by decide)
  refine wr_i (vx_run0 (vx_runSX (As := [.ref (a 0), .int (nI 7), .int (-2147483648), .int (nI 0), .int (nI 9), .int (nI 0)]) (rest := []) FX (w_act_stick l hfl G a ha t9 st (-2147483648) (nI 0) (nI 9) (nI 0) hO) (vx_cwSW 6 hts gL_refuses_L_act rfl rfl rfl (by decide +kernel) ⟨Nat.le_of_ble_eq_true rfl, Nat.le_of_ble_eq_true rfl⟩) (preW hK hNW hCW (hLow.at hS (fun q9 _ q => rng_M q9 q)) (hX.at hS (fun q9 _ q => rng_M q9 q)) hNC) rfl rfl hl.1 rfl (lv_room (Nat.le_of_ble_eq_true rfl)) dL_refuses_406 (rmx (m := 1200) (n := 7200) (by omega) (by omega)))) hS (fun q h => h) (fun r _ H locs hp hCW hk hS => ?_)
  refine lv_as (y := -7000001) (hp.2.1 hC) ?_
  rw [stN_n hC (by decide)] at hCW
  have hCW : CW G a st H := hCW
  refine lv_ldc (v := -7000001) hx hb hown (hts (.constant RL 75 (-7000001)) (List.mem_of_getElem? (i := 5) (by decide +kernel))) dL_refuses_409 ?_
  refine lv_icmp_ne (tgt := 589) hx hb dL_refuses_411 (by decide) (fun c => absurd c (by decide)) (fun _ => ?_)
  refine lv_aload_n hx hb dL_refuses_414 rfl (lv_at hl 4 rfl) ?_
  refine lv_bipush (v := nI 8) hx hb dL_refuses_415 (by decide) ?_
  refine lv_iload hx hb dL_refuses_417 (lv_at hl 2 rfl) ?_
  refine lv_iconst (v := nI 0) hx hb dL_refuses_419 (by decide) ?_
  refine lv_iconst (v := -1) hx hb dL_refuses_420 (by decide) ?_
  refine lv_iconst (v := nI 0) hx hb dL_refuses_421 (by decide) ?_
  have hC : cBi st.1 (-2147483648) (nI 0) (-1) = 1 := rc_bi (by decide)
  refine wr_i (vx_run0 (vx_runSX (As := [.ref (a 0), .int (nI 8), .int (-2147483648), .int (nI 0), .int (-1), .int (nI 0)]) (rest := []) FX (w_act_bit l hfl G a ha t9 st (-2147483648) (nI 0) (-1) (nI 0) hO) (vx_cwSW 6 hts gL_refuses_L_act rfl rfl rfl (by decide +kernel) ⟨Nat.le_of_ble_eq_true rfl, Nat.le_of_ble_eq_true rfl⟩) (preW hK hNW hCW (hLow.at hS (fun q9 _ q => rng_M q9 q)) (hX.at hS (fun q9 _ q => rng_M q9 q)) hNC) rfl rfl hl.1 rfl (lv_room (Nat.le_of_ble_eq_true rfl)) dL_refuses_422 (rmx (m := 1200) (n := 7200) (by omega) (by omega)))) hS (fun q h => h) (fun r _ H locs hp hCW hk hS => ?_)
  refine lv_as (y := -7000001) (hp.2.1 hC) ?_
  have hCW : CW G a st H := hCW
  refine lv_ldc (v := -7000001) hx hb hown (hts (.constant RL 75 (-7000001)) (List.mem_of_getElem? (i := 5) (by decide +kernel))) dL_refuses_425 ?_
  refine lv_icmp_ne (tgt := 589) hx hb dL_refuses_427 (by decide) (fun c => absurd c (by decide)) (fun _ => ?_)
  refine lv_aload_n hx hb dL_refuses_430 rfl (lv_at hl 4 rfl) ?_
  refine lv_bipush (v := nI 9) hx hb dL_refuses_431 (by decide) ?_
  refine lv_iload hx hb dL_refuses_433 (lv_at hl 2 rfl) ?_
  refine lv_iconst (v := -1) hx hb dL_refuses_435 (by decide) ?_
  refine lv_iconst (v := nI 0) hx hb dL_refuses_436 (by decide) ?_
  refine lv_iconst (v := nI 0) hx hb dL_refuses_437 (by decide) ?_
  have hC : cVa (-2147483648) (-1) = 1 := by decide
  refine wr_i (vx_run0 (vx_runSX (As := [.ref (a 0), .int (nI 9), .int (-2147483648), .int (-1), .int (nI 0), .int (nI 0)]) (rest := []) FX (w_act_value l hfl G a ha t9 st (-2147483648) (-1) (nI 0) (nI 0) hO) (vx_cwSW 6 hts gL_refuses_L_act rfl rfl rfl (by decide +kernel) ⟨Nat.le_of_ble_eq_true rfl, Nat.le_of_ble_eq_true rfl⟩) (preW hK hNW hCW (hLow.at hS (fun q9 _ q => rng_M q9 q)) (hX.at hS (fun q9 _ q => rng_M q9 q)) hNC) rfl rfl hl.1 rfl (lv_room (Nat.le_of_ble_eq_true rfl)) dL_refuses_438 (rmx (m := 1200) (n := 7200) (by omega) (by omega)))) hS (fun q h => h) (fun r _ H locs hp hCW hk hS => ?_)
  refine lv_as (y := -7000001) (hp.2.1 hC) ?_
  have hCW : CW G a st H := hCW
  refine lv_ldc (v := -7000001) hx hb hown (hts (.constant RL 75 (-7000001)) (List.mem_of_getElem? (i := 5) (by decide +kernel))) dL_refuses_441 ?_
  refine lv_icmp_ne (tgt := 589) hx hb dL_refuses_443 (by decide) (fun c => absurd c (by decide)) (fun _ => ?_)
  refine lv_aload_n hx hb dL_refuses_446 rfl (lv_at hl 4 rfl) ?_
  refine lv_bipush (v := nI 9) hx hb dL_refuses_447 (by decide) ?_
  refine lv_iconst (v := nI 0) hx hb dL_refuses_449 (by decide) ?_
  refine lv_iload hx hb dL_refuses_450 (lv_at hl 1 rfl) ?_
  refine lv_iconst (v := nI 0) hx hb dL_refuses_452 (by decide) ?_
  refine lv_iconst (v := nI 0) hx hb dL_refuses_453 (by decide) ?_
  have hC : cVa (nI 0) (-2147483648) = 2 := by decide
  refine wr_i (vx_run0 (vx_runSX (As := [.ref (a 0), .int (nI 9), .int (nI 0), .int (-2147483648), .int (nI 0), .int (nI 0)]) (rest := []) FX (w_act_value l hfl G a ha t9 st (nI 0) (-2147483648) (nI 0) (nI 0) hO) (vx_cwSW 6 hts gL_refuses_L_act rfl rfl rfl (by decide +kernel) ⟨Nat.le_of_ble_eq_true rfl, Nat.le_of_ble_eq_true rfl⟩) (preW hK hNW hCW (hLow.at hS (fun q9 _ q => rng_M q9 q)) (hX.at hS (fun q9 _ q => rng_M q9 q)) hNC) rfl rfl hl.1 rfl (lv_room (Nat.le_of_ble_eq_true rfl)) dL_refuses_454 (rmx (m := 1200) (n := 7200) (by omega) (by omega)))) hS (fun q h => h) (fun r _ H locs hp hCW hk hS => ?_)
  refine lv_as (y := -7000002) (hp.2.2.1 hC) ?_
  have hCW : CW G a st H := hCW
  refine lv_ldc (v := -7000002) hx hb hown (hts (.constant RL 78 (-7000002)) (List.mem_of_getElem? (i := 6) (by decide +kernel))) dL_refuses_457 ?_
  refine lv_icmp_ne (tgt := 589) hx hb dL_refuses_459 (by decide) (fun c => absurd c (by decide)) (fun _ => ?_)
  refine lv_aload_n hx hb dL_refuses_462 rfl (lv_at hl 4 rfl) ?_
  refine lv_bipush (v := nI 10) hx hb dL_refuses_463 (by decide) ?_
  refine lv_iload hx hb dL_refuses_465 (lv_at hl 2 rfl) ?_
  refine lv_iconst (v := -1) hx hb dL_refuses_467 (by decide) ?_
  refine lv_iconst (v := nI 0) hx hb dL_refuses_468 (by decide) ?_
  refine lv_iconst (v := nI 0) hx hb dL_refuses_469 (by decide) ?_
  have hC : cVa (-2147483648) (-1) = 1 := by decide
  refine wr_i (vx_run0 (vx_runSX (As := [.ref (a 0), .int (nI 10), .int (-2147483648), .int (-1), .int (nI 0), .int (nI 0)]) (rest := []) FX (w_act_valueAnew l hfl G a ha t9 st (-2147483648) (-1) (nI 0) (nI 0) hO) (vx_cwSW 6 hts gL_refuses_L_act rfl rfl rfl (by decide +kernel) ⟨Nat.le_of_ble_eq_true rfl, Nat.le_of_ble_eq_true rfl⟩) (preW hK hNW hCW (hLow.at hS (fun q9 _ q => rng_M q9 q)) (hX.at hS (fun q9 _ q => rng_M q9 q)) hNC) rfl rfl hl.1 rfl (lv_room (Nat.le_of_ble_eq_true rfl)) dL_refuses_470 (rmx (m := 1200) (n := 7200) (by omega) (by omega)))) hS (fun q h => h) (fun r _ H locs hp hCW hk hS => ?_)
  refine lv_as (y := -7000001) (hp.2.1 hC) ?_
  have hCW : CW G a st H := hCW
  refine lv_ldc (v := -7000001) hx hb hown (hts (.constant RL 75 (-7000001)) (List.mem_of_getElem? (i := 5) (by decide +kernel))) dL_refuses_473 ?_
  refine lv_icmp_ne (tgt := 589) hx hb dL_refuses_475 (by decide) (fun c => absurd c (by decide)) (fun _ => ?_)
  refine lv_aload_n hx hb dL_refuses_478 rfl (lv_at hl 4 rfl) ?_
  refine lv_bipush (v := nI 10) hx hb dL_refuses_479 (by decide) ?_
  refine lv_iconst (v := nI 0) hx hb dL_refuses_481 (by decide) ?_
  refine lv_iload hx hb dL_refuses_482 (lv_at hl 1 rfl) ?_
  refine lv_iconst (v := nI 0) hx hb dL_refuses_484 (by decide) ?_
  refine lv_iconst (v := nI 0) hx hb dL_refuses_485 (by decide) ?_
  have hC : cVa (nI 0) (-2147483648) = 2 := by decide
  refine wr_i (vx_run0 (vx_runSX (As := [.ref (a 0), .int (nI 10), .int (nI 0), .int (-2147483648), .int (nI 0), .int (nI 0)]) (rest := []) FX (w_act_valueAnew l hfl G a ha t9 st (nI 0) (-2147483648) (nI 0) (nI 0) hO) (vx_cwSW 6 hts gL_refuses_L_act rfl rfl rfl (by decide +kernel) ⟨Nat.le_of_ble_eq_true rfl, Nat.le_of_ble_eq_true rfl⟩) (preW hK hNW hCW (hLow.at hS (fun q9 _ q => rng_M q9 q)) (hX.at hS (fun q9 _ q => rng_M q9 q)) hNC) rfl rfl hl.1 rfl (lv_room (Nat.le_of_ble_eq_true rfl)) dL_refuses_486 (rmx (m := 1200) (n := 7200) (by omega) (by omega)))) hS (fun q h => h) (fun r _ H locs hp hCW hk hS => ?_)
  refine lv_as (y := -7000002) (hp.2.2.1 hC) ?_
  have hCW : CW G a st H := hCW
  refine lv_ldc (v := -7000002) hx hb hown (hts (.constant RL 78 (-7000002)) (List.mem_of_getElem? (i := 6) (by decide +kernel))) dL_refuses_489 ?_
  refine lv_icmp_ne (tgt := 589) hx hb dL_refuses_491 (by decide) (fun c => absurd c (by decide)) (fun _ => ?_)
  refine lv_aload_n hx hb dL_refuses_494 rfl (lv_at hl 4 rfl) ?_
  refine lv_bipush (v := nI 11) hx hb dL_refuses_495 (by decide) ?_
  refine lv_iload hx hb dL_refuses_497 (lv_at hl 2 rfl) ?_
  refine lv_bipush (v := nI 99) hx hb dL_refuses_499 (by decide) ?_
  refine lv_iconst (v := nI 0) hx hb dL_refuses_501 (by decide) ?_
  refine lv_iconst (v := nI 0) hx hb dL_refuses_502 (by decide) ?_
  have hC : cOf (-2147483648) (nI 99) = 1 := by decide
  refine wr_i (vx_run0 (vx_runSX (As := [.ref (a 0), .int (nI 11), .int (-2147483648), .int (nI 99), .int (nI 0), .int (nI 0)]) (rest := []) FX (w_act_ofNet l hfl G a ha t9 st (-2147483648) (nI 99) (nI 0) (nI 0) hO) (vx_cwSW 6 hts gL_refuses_L_act rfl rfl rfl (by decide +kernel) ⟨Nat.le_of_ble_eq_true rfl, Nat.le_of_ble_eq_true rfl⟩) (preW hK hNW hCW (hLow.at hS (fun q9 _ q => rng_M q9 q)) (hX.at hS (fun q9 _ q => rng_M q9 q)) hNC) rfl rfl hl.1 rfl (lv_room (Nat.le_of_ble_eq_true rfl)) dL_refuses_503 (rmx (m := 1200) (n := 7200) (by omega) (by omega)))) hS (fun q h => h) (fun r _ H locs hp hCW hk hS => ?_)
  refine lv_as (y := -7000001) (hp.2.1 hC) ?_
  have hCW : CW G a st H := hCW
  refine lv_ldc (v := -7000001) hx hb hown (hts (.constant RL 75 (-7000001)) (List.mem_of_getElem? (i := 5) (by decide +kernel))) dL_refuses_506 ?_
  refine lv_icmp_ne (tgt := 589) hx hb dL_refuses_508 (by decide) (fun c => absurd c (by decide)) (fun _ => ?_)
  refine lv_aload_n hx hb dL_refuses_511 rfl (lv_at hl 4 rfl) ?_
  refine lv_bipush (v := nI 11) hx hb dL_refuses_512 (by decide) ?_
  refine lv_iconst (v := nI 0) hx hb dL_refuses_514 (by decide) ?_
  refine lv_iload_n hx hb dL_refuses_515 rfl (lv_at hl 7 rfl) ?_
  refine lv_iconst (v := nI 1) hx hb dL_refuses_516 (by decide) ?_
  refine lv_icmp_ne (tgt := 525) hx hb dL_refuses_517 (by decide) (fun _ => ?_) (fun c => absurd c (by decide))
  refine lv_iload hx hb dL_refuses_525 (lv_at hl 3 rfl) ?_
  refine lv_iconst (v := nI 0) hx hb dL_refuses_527 (by decide) ?_
  refine lv_iconst (v := nI 0) hx hb dL_refuses_528 (by decide) ?_
  have hC : cOf (nI 0) (-2147483648) = 2 := by decide
  refine wr_i (vx_run0 (vx_runSX (As := [.ref (a 0), .int (nI 11), .int (nI 0), .int (-2147483648), .int (nI 0), .int (nI 0)]) (rest := []) FX (w_act_ofNet l hfl G a ha t9 st (nI 0) (-2147483648) (nI 0) (nI 0) hO) (vx_cwSW 6 hts gL_refuses_L_act rfl rfl rfl (by decide +kernel) ⟨Nat.le_of_ble_eq_true rfl, Nat.le_of_ble_eq_true rfl⟩) (preW hK hNW hCW (hLow.at hS (fun q9 _ q => rng_M q9 q)) (hX.at hS (fun q9 _ q => rng_M q9 q)) hNC) rfl rfl hl.1 rfl (lv_room (Nat.le_of_ble_eq_true rfl)) dL_refuses_529 (rmx (m := 1200) (n := 7200) (by omega) (by omega)))) hS (fun q h => h) (fun r _ H locs hp hCW hk hS => ?_)
  refine lv_as (y := -7000002) (hp.2.2.1 hC) ?_
  have hCW : CW G a st H := hCW
  refine lv_ldc (v := -7000002) hx hb hown (hts (.constant RL 78 (-7000002)) (List.mem_of_getElem? (i := 6) (by decide +kernel))) dL_refuses_532 ?_
  refine lv_icmp_ne (tgt := 589) hx hb dL_refuses_534 (by decide) (fun c => absurd c (by decide)) (fun _ => ?_)
  refine lv_aload_n hx hb dL_refuses_537 rfl (lv_at hl 4 rfl) ?_
  refine lv_bipush (v := nI 12) hx hb dL_refuses_538 (by decide) ?_
  refine lv_iload hx hb dL_refuses_540 (lv_at hl 2 rfl) ?_
  refine lv_iconst (v := nI 0) hx hb dL_refuses_542 (by decide) ?_
  refine lv_iconst (v := nI 0) hx hb dL_refuses_543 (by decide) ?_
  refine lv_iconst (v := nI 0) hx hb dL_refuses_544 (by decide) ?_
  have hC : cTi st.1 (-2147483648) (nI 0) = 1 := rc_ti (by decide)
  refine wr_i (vx_run0 (vx_runSX (As := [.ref (a 0), .int (nI 12), .int (-2147483648), .int (nI 0), .int (nI 0), .int (nI 0)]) (rest := []) FX (w_act_time l hfl G a ha t9 st (-2147483648) (nI 0) (nI 0) (nI 0) hO) (vx_cwSW 6 hts gL_refuses_L_act rfl rfl rfl (by decide +kernel) ⟨Nat.le_of_ble_eq_true rfl, Nat.le_of_ble_eq_true rfl⟩) (preW hK hNW hCW (hLow.at hS (fun q9 _ q => rng_M q9 q)) (hX.at hS (fun q9 _ q => rng_M q9 q)) hNC) rfl rfl hl.1 rfl (lv_room (Nat.le_of_ble_eq_true rfl)) dL_refuses_545 (rmx (m := 1200) (n := 7200) (by omega) (by omega)))) hS (fun q h => h) (fun r _ H locs hp hCW hk hS => ?_)
  refine lv_as (y := -7000001) (hp.2.1 hC) ?_
  have hCW : CW G a st H := hCW
  refine lv_ldc (v := -7000001) hx hb hown (hts (.constant RL 75 (-7000001)) (List.mem_of_getElem? (i := 5) (by decide +kernel))) dL_refuses_548 ?_
  refine lv_icmp_ne (tgt := 589) hx hb dL_refuses_550 (by decide) (fun c => absurd c (by decide)) (fun _ => ?_)
  refine lv_aload_n hx hb dL_refuses_553 rfl (lv_at hl 4 rfl) ?_
  refine lv_bipush (v := nI 13) hx hb dL_refuses_554 (by decide) ?_
  refine lv_iload hx hb dL_refuses_556 (lv_at hl 2 rfl) ?_
  refine lv_iconst (v := nI 0) hx hb dL_refuses_558 (by decide) ?_
  refine lv_iconst (v := nI 0) hx hb dL_refuses_559 (by decide) ?_
  refine lv_iconst (v := nI 0) hx hb dL_refuses_560 (by decide) ?_
  have hC : cPa (-2147483648) (nI 0) = 1 := by decide
  refine wr_i (vx_run0 (vx_runSX (As := [.ref (a 0), .int (nI 13), .int (-2147483648), .int (nI 0), .int (nI 0), .int (nI 0)]) (rest := []) FX (w_act_path l hfl G a ha t9 st (-2147483648) (nI 0) (nI 0) (nI 0) hO) (vx_cwSW 6 hts gL_refuses_L_act rfl rfl rfl (by decide +kernel) ⟨Nat.le_of_ble_eq_true rfl, Nat.le_of_ble_eq_true rfl⟩) (preW hK hNW hCW (hLow.at hS (fun q9 _ q => rng_M q9 q)) (hX.at hS (fun q9 _ q => rng_M q9 q)) hNC) rfl rfl hl.1 rfl (lv_room (Nat.le_of_ble_eq_true rfl)) dL_refuses_561 (rmx (m := 1200) (n := 7200) (by omega) (by omega)))) hS (fun q h => h) (fun r _ H locs hp hCW hk hS => ?_)
  refine lv_as (y := -7000001) (hp.2.1 hC) ?_
  have hCW : CW G a st H := hCW
  refine lv_ldc (v := -7000001) hx hb hown (hts (.constant RL 75 (-7000001)) (List.mem_of_getElem? (i := 5) (by decide +kernel))) dL_refuses_564 ?_
  refine lv_icmp_ne (tgt := 589) hx hb dL_refuses_566 (by decide) (fun c => absurd c (by decide)) (fun _ => ?_)
  refine lv_aload_n hx hb dL_refuses_569 rfl (lv_at hl 4 rfl) ?_
  refine lv_bipush (v := nI 13) hx hb dL_refuses_570 (by decide) ?_
  refine lv_iconst (v := nI 0) hx hb dL_refuses_572 (by decide) ?_
  refine lv_iload hx hb dL_refuses_573 (lv_at hl 0 rfl) ?_
  refine lv_iconst (v := nI 0) hx hb dL_refuses_575 (by decide) ?_
  refine lv_iconst (v := nI 0) hx hb dL_refuses_576 (by decide) ?_
  have hC : cPa (nI 0) (-2147483648) = 1 := by decide
  refine wr_i (vx_run0 (vx_runSX (As := [.ref (a 0), .int (nI 13), .int (nI 0), .int (-2147483648), .int (nI 0), .int (nI 0)]) (rest := []) FX (w_act_path l hfl G a ha t9 st (nI 0) (-2147483648) (nI 0) (nI 0) hO) (vx_cwSW 6 hts gL_refuses_L_act rfl rfl rfl (by decide +kernel) ⟨Nat.le_of_ble_eq_true rfl, Nat.le_of_ble_eq_true rfl⟩) (preW hK hNW hCW (hLow.at hS (fun q9 _ q => rng_M q9 q)) (hX.at hS (fun q9 _ q => rng_M q9 q)) hNC) rfl rfl hl.1 rfl (lv_room (Nat.le_of_ble_eq_true rfl)) dL_refuses_577 (rmx (m := 1200) (n := 7200) (by omega) (by omega)))) hS (fun q h => h) (fun r _ H locs hp hCW hk hS => ?_)
  refine lv_as (y := -7000001) (hp.2.1 hC) ?_
  have hCW : CW G a st H := hCW
  refine lv_ldc (v := -7000001) hx hb hown (hts (.constant RL 75 (-7000001)) (List.mem_of_getElem? (i := 5) (by decide +kernel))) dL_refuses_580 ?_
  refine lv_icmp_ne (tgt := 589) hx hb dL_refuses_582 (by decide) (fun c => absurd c (by decide)) (fun _ => ?_)
  refine lv_iconst (v := nI 1) hx hb dL_refuses_585 (by decide) ?_
  refine lv_goto (tgt := 590) hx hb dL_refuses_586 (by decide) ?_
  refine lv_istore (lv' := [(8, .int (nI 1)), (7, .int (-2147483648)), (6, .int (-2147483648)), (5, .int (-2147483648)), (4, .int (-2147483648)), (0, .ref (a 0)), (1, .int (nI 2147483647)), (2, .int bf), (3, .int (nI 3))]) hx hb dL_refuses_590 hl (by decide) rfl (fun ls hl => ?_)
  exact wid (by omega) (by omega) (K _ _ _ hS hCW hl)
