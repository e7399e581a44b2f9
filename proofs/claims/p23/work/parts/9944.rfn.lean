/-! refuses: what there is not is refused, nothing changes -/
set_option maxHeartbeats 4000000 in
set_option maxRecDepth 100000 in
theorem rf_N0 {p : Program} {l : Launch} {e : Env} {s : State} {m : MethodId} {args : Array Value} {below : List Frame} {meth : Method} {c : Code} {Q : State → Prop} {G : GG} {a : Nat → Nat} {t9 : Nat} (J : LJ p l s m meth c args cL_refuses (some .boolean) 12 wsL_refuses G a t9) {st : ST} (hO : OKS st) {bf : Int32} {n : Nat} (hn : n < 4) (c0 s0 : Nat) (hc : c0 + 41 ≤ 1200) (hs : s0 + 246 ≤ 7200) {H : Heap} {locs : List Loc} {ls : Array Slot} (hS : va_S (rng a 0 93) s.heap H locs) (hCW : CW G a st H) (hl : lv_has ls 12 [(0, .ref (a 0)), (1, .int (nI 2147483647)), (2, .int bf), (3, .int (nI 0)), (4, .int (-1)), (5, .int (-1)), (6, .int (-1)), (7, .int (-2147483648)), (8, .int (nI 1)), (9, .int (nI n))]) (K : ∀ (H : Heap) (locs : List Loc) (ls : Array Slot), va_S (rng a 0 93) s.heap H locs → CW G a st H → lv_has ls 12 [(9, .int (nI (n + 1))), (8, .int (nI 1)), (11, .int (-1)), (10, .int (nI (nG (st.1 n)))), (0, .ref (a 0)), (1, .int (nI 2147483647)), (2, .int bf), (3, .int (nI 0)), (4, .int (-1)), (5, .int (-1)), (6, .int (-1)), (7, .int (-2147483648))] → W p l e ({ frames := 10, cells := 1200, slots := 7200, locals := 194 } : Room) s m args below meth c H locs (c0 + 41) (s0 + 246) Q (F0 m 941 ls [])) : W p l e ({ frames := 10, cells := 1200, slots := 7200, locals := 194 } : Room) s m args below meth c H locs c0 s0 Q (F0 m 941 ls []) := by
  obtain ⟨hfl, hx, hb, hr, hml, hown, hts, hlocks, ha, hK, hNW, hLow, hX, hNC⟩ := J
  have FX : CallFix p m c cL_refuses 12 s args wsL_refuses RL := ⟨hx, hb, hml, hown, hts⟩
  have hG := (hO.1 n hn).g
  have e4 : ix (nI n) = n := ix_nI (by omega)
  have hn4 : inBd (nI n) 4 := bd4 hn (by omega)
  have hgb : ¬ inBd (-1) (nG (st.1 (ix (nI n)))) := fun h => h.1 (by decide)
  refine lv_iload hx hb dL_refuses_941 (lv_at hl 9 rfl) ?_
  refine lv_iconst (v := nI 4) hx hb dL_refuses_943 (by decide) ?_
  refine lv_icmp_ge (tgt := 1191) hx hb dL_refuses_944 (by decide) (fun c => absurd (cv_le (by omega) (by omega) c) (by omega)) (fun _ => ?_)
  refine lv_iload hx hb dL_refuses_947 (lv_at hl 8 rfl) ?_
  refine lv_if_eq (tgt := 1191) hx hb dL_refuses_949 (by decide) (fun c => absurd c (by decide)) (fun _ => ?_)
  refine lv_aload_n hx hb dL_refuses_952 rfl (lv_at hl 0 rfl) ?_
  refine lv_iload hx hb dL_refuses_953 (lv_at hl 9 rfl) ?_
  refine lv_iconst (v := nI 0) hx hb dL_refuses_955 (by decide) ?_
  refine wr_i (va_runV (As := [.int (nI n), .int (nI 0)]) (rest := []) FX (n_ofNet l hfl G a ha t9 st n 0 hO hn (by decide)) (cwV 2 hts gL_refuses_X11_ofNet rfl rfl rfl (by decide +kernel) ⟨Nat.le_of_ble_eq_true rfl, Nat.le_of_ble_eq_true rfl⟩) (preVX hK hNW hCW (hLow.at hS (fun q9 _ q => rng_M q9 q)) (hX.at hS (fun q9 _ q => rng_M q9 q)) (cw_recv hK hCW)) rfl rfl hl.1 rfl (lv_room (Nat.le_of_ble_eq_true rfl)) dL_refuses_956 (rmx (m := 1200) (n := 7200) (by omega) (by omega))) hS (fun q h => h) (fun r _ H locs hp hCW hk hS => ?_)
  refine lv_as (y := nI (nG (st.1 n))) (hp.trans (of_0 rfl)) ?_
  refine lv_istore (lv' := [(10, .int (nI (nG (st.1 n)))), (0, .ref (a 0)), (1, .int (nI 2147483647)), (2, .int bf), (3, .int (nI 0)), (4, .int (-1)), (5, .int (-1)), (6, .int (-1)), (7, .int (-2147483648)), (8, .int (nI 1)), (9, .int (nI n))]) hx hb dL_refuses_959 hl (by decide) rfl (fun ls hl => ?_)
  refine lv_iload_n hx hb dL_refuses_961 rfl (lv_at hl 4 rfl) ?_
  refine lv_iconst (v := nI 1) hx hb dL_refuses_962 (by decide) ?_
  refine lv_icmp_ne (tgt := 971) hx hb dL_refuses_963 (by decide) (fun _ => ?_) (fun c => absurd c (by decide))
  refine lv_iload hx hb dL_refuses_971 (lv_at hl 5 rfl) ?_
  refine lv_istore (lv' := [(11, .int (-1)), (10, .int (nI (nG (st.1 n)))), (0, .ref (a 0)), (1, .int (nI 2147483647)), (2, .int bf), (3, .int (nI 0)), (4, .int (-1)), (5, .int (-1)), (6, .int (-1)), (7, .int (-2147483648)), (8, .int (nI 1)), (9, .int (nI n))]) hx hb dL_refuses_973 hl (by decide) rfl (fun ls hl => ?_)
  refine lv_aload_n hx hb dL_refuses_975 rfl (lv_at hl 2 rfl) ?_
  refine lv_iconst (v := nI 1) hx hb dL_refuses_976 (by decide) ?_
  refine lv_iload hx hb dL_refuses_977 (lv_at hl 11 rfl) ?_
  refine lv_iconst (v := nI 0) hx hb dL_refuses_979 (by decide) ?_
  refine lv_iload hx hb dL_refuses_980 (lv_at hl 0 rfl) ?_
  refine lv_iconst (v := nI 0) hx hb dL_refuses_982 (by decide) ?_
  have hC : cGa st.1 (nI n) (nI 0) (-1) (nI 0) = 1 := rc_gf hgb
  refine wr_i (vx_run0 (vx_runSX (As := [.ref (a 0), .int (nI 1), .int (nI n), .int (nI 0), .int (-1), .int (nI 0)]) (rest := []) FX (w_act_gate l hfl G a ha t9 st (nI n) (nI 0) (-1) (nI 0) hO) (vx_cwSW 6 hts gL_refuses_L_act rfl rfl rfl (by decide +kernel) ⟨Nat.le_of_ble_eq_true rfl, Nat.le_of_ble_eq_true rfl⟩) (preW hK hNW hCW (hLow.at hS (fun q9 _ q => rng_M q9 q)) (hX.at hS (fun q9 _ q => rng_M q9 q)) hNC) rfl rfl hl.1 rfl (lv_room (Nat.le_of_ble_eq_true rfl)) dL_refuses_983 (rmx (m := 1200) (n := 7200) (by omega) (by omega)))) hS (fun q h => h) (fun r _ H locs hp hCW hk hS => ?_)
  refine lv_as (y := -7000001) (hp.2.1 hC) ?_
  rw [stN_n hC (by decide)] at hCW
  have hCW : CW G a st H := hCW
  refine lv_ldc (v := -7000001) hx hb hown (hts (.constant RL 75 (-7000001)) (List.mem_of_getElem? (i := 5) (by decide +kernel))) dL_refuses_986 ?_
  refine lv_icmp_ne (tgt := 1182) hx hb dL_refuses_988 (by decide) (fun c => absurd c (by decide)) (fun _ => ?_)
  refine lv_aload_n hx hb dL_refuses_991 rfl (lv_at hl 2 rfl) ?_
  refine lv_iconst (v := nI 1) hx hb dL_refuses_992 (by decide) ?_
  refine lv_iload hx hb dL_refuses_993 (lv_at hl 11 rfl) ?_
  refine lv_iconst (v := nI 0) hx hb dL_refuses_995 (by decide) ?_
  refine lv_iconst (v := nI 0) hx hb dL_refuses_996 (by decide) ?_
  refine lv_iload hx hb dL_refuses_997 (lv_at hl 0 rfl) ?_
  have hC : cGa st.1 (nI n) (nI 0) (nI 0) (-1) = 1 := rc_gs (by decide) hgb
  refine wr_i (vx_run0 (vx_runSX (As := [.ref (a 0), .int (nI 1), .int (nI n), .int (nI 0), .int (nI 0), .int (-1)]) (rest := []) FX (w_act_gate l hfl G a ha t9 st (nI n) (nI 0) (nI 0) (-1) hO) (vx_cwSW 6 hts gL_refuses_L_act rfl rfl rfl (by decide +kernel) ⟨Nat.le_of_ble_eq_true rfl, Nat.le_of_ble_eq_true rfl⟩) (preW hK hNW hCW (hLow.at hS (fun q9 _ q => rng_M q9 q)) (hX.at hS (fun q9 _ q => rng_M q9 q)) hNC) rfl rfl hl.1 rfl (lv_room (Nat.le_of_ble_eq_true rfl)) dL_refuses_999 (rmx (m := 1200) (n := 7200) (by omega) (by omega)))) hS (fun q h => h) (fun r _ H locs hp hCW hk hS => ?_)
  refine lv_as (y := -7000001) (hp.2.1 hC) ?_
  rw [stN_n hC (by decide)] at hCW
  have hCW : CW G a st H := hCW
  refine lv_ldc (v := -7000001) hx hb hown (hts (.constant RL 75 (-7000001)) (List.mem_of_getElem? (i := 5) (by decide +kernel))) dL_refuses_1002 ?_
  refine lv_icmp_ne (tgt := 1182) hx hb dL_refuses_1004 (by decide) (fun c => absurd c (by decide)) (fun _ => ?_)
  refine lv_aload_n hx hb dL_refuses_1007 rfl (lv_at hl 2 rfl) ?_
  refine lv_iconst (v := nI 1) hx hb dL_refuses_1008 (by decide) ?_
  refine lv_iload hx hb dL_refuses_1009 (lv_at hl 11 rfl) ?_
  refine lv_iconst (v := nI 3) hx hb dL_refuses_1011 (by decide) ?_
  refine lv_iload hx hb dL_refuses_1012 (lv_at hl 0 rfl) ?_
  refine lv_iconst (v := nI 0) hx hb dL_refuses_1014 (by decide) ?_
  have hC : cGa st.1 (nI n) (nI 3) (-1) (nI 0) = 1 := rc_gf hgb
  refine wr_i (vx_run0 (vx_runSX (As := [.ref (a 0), .int (nI 1), .int (nI n), .int (nI 3), .int (-1), .int (nI 0)]) (rest := []) FX (w_act_gate l hfl G a ha t9 st (nI n) (nI 3) (-1) (nI 0) hO) (vx_cwSW 6 hts gL_refuses_L_act rfl rfl rfl (by decide +kernel) ⟨Nat.le_of_ble_eq_true rfl, Nat.le_of_ble_eq_true rfl⟩) (preW hK hNW hCW (hLow.at hS (fun q9 _ q => rng_M q9 q)) (hX.at hS (fun q9 _ q => rng_M q9 q)) hNC) rfl rfl hl.1 rfl (lv_room (Nat.le_of_ble_eq_true rfl)) dL_refuses_1015 (rmx (m := 1200) (n := 7200) (by omega) (by omega)))) hS (fun q h => h) (fun r _ H locs hp hCW hk hS => ?_)
  refine lv_as (y := -7000001) (hp.2.1 hC) ?_
  rw [stN_n hC (by decide)] at hCW
  have hCW : CW G a st H := hCW
  refine lv_ldc (v := -7000001) hx hb hown (hts (.constant RL 75 (-7000001)) (List.mem_of_getElem? (i := 5) (by decide +kernel))) dL_refuses_1018 ?_
  refine lv_icmp_ne (tgt := 1182) hx hb dL_refuses_1020 (by decide) (fun c => absurd c (by decide)) (fun _ => ?_)
  refine lv_aload_n hx hb dL_refuses_1023 rfl (lv_at hl 2 rfl) ?_
  refine lv_iconst (v := nI 2) hx hb dL_refuses_1024 (by decide) ?_
  refine lv_iload hx hb dL_refuses_1025 (lv_at hl 11 rfl) ?_
  refine lv_iload hx hb dL_refuses_1027 (lv_at hl 0 rfl) ?_
  refine lv_iconst (v := nI 0) hx hb dL_refuses_1029 (by decide) ?_
  refine lv_iconst (v := nI 0) hx hb dL_refuses_1030 (by decide) ?_
  have hC : cOu st.1 (nI n) (-1) = 1 := rc_og hgb
  refine wr_i (vx_run0 (vx_runSX (As := [.ref (a 0), .int (nI 2), .int (nI n), .int (-1), .int (nI 0), .int (nI 0)]) (rest := []) FX (w_act_out l hfl G a ha t9 st (nI n) (-1) (nI 0) (nI 0) hO) (vx_cwSW 6 hts gL_refuses_L_act rfl rfl rfl (by decide +kernel) ⟨Nat.le_of_ble_eq_true rfl, Nat.le_of_ble_eq_true rfl⟩) (preW hK hNW hCW (hLow.at hS (fun q9 _ q => rng_M q9 q)) (hX.at hS (fun q9 _ q => rng_M q9 q)) hNC) rfl rfl hl.1 rfl (lv_room (Nat.le_of_ble_eq_true rfl)) dL_refuses_1031 (rmx (m := 1200) (n := 7200) (by omega) (by omega)))) hS (fun q h => h) (fun r _ H locs hp hCW hk hS => ?_)
  refine lv_as (y := -7000001) (hp.2.1 hC) ?_
  rw [stN_n hC (by decide)] at hCW
  have hCW : CW G a st H := hCW
  refine lv_ldc (v := -7000001) hx hb hown (hts (.constant RL 75 (-7000001)) (List.mem_of_getElem? (i := 5) (by decide +kernel))) dL_refuses_1034 ?_
  refine lv_icmp_ne (tgt := 1182) hx hb dL_refuses_1036 (by decide) (fun c => absurd c (by decide)) (fun _ => ?_)
  refine lv_aload_n hx hb dL_refuses_1039 rfl (lv_at hl 2 rfl) ?_
  refine lv_bipush (v := nI 7) hx hb dL_refuses_1040 (by decide) ?_
  refine lv_iload hx hb dL_refuses_1042 (lv_at hl 11 rfl) ?_
  refine lv_iload hx hb dL_refuses_1044 (lv_at hl 0 rfl) ?_
  refine lv_bipush (v := nI 9) hx hb dL_refuses_1046 (by decide) ?_
  refine lv_iconst (v := nI 0) hx hb dL_refuses_1048 (by decide) ?_
  have hC : cSt st.1 (nI n) (-1) (nI 9) = 1 := rc_sg hgb
  refine wr_i (vx_run0 (vx_runSX (As := [.ref (a 0), .int (nI 7), .int (nI n), .int (-1), .int (nI 9), .int (nI 0)]) (rest := []) FX (w_act_stick l hfl G a ha t9 st (nI n) (-1) (nI 9) (nI 0) hO) (vx_cwSW 6 hts gL_refuses_L_act rfl rfl rfl (by decide +kernel) ⟨Nat.le_of_ble_eq_true rfl, Nat.le_of_ble_eq_true rfl⟩) (preW hK hNW hCW (hLow.at hS (fun q9 _ q => rng_M q9 q)) (hX.at hS (fun q9 _ q => rng_M q9 q)) hNC) rfl rfl hl.1 rfl (lv_room (Nat.le_of_ble_eq_true rfl)) dL_refuses_1049 (rmx (m := 1200) (n := 7200) (by omega) (by omega)))) hS (fun q h => h) (fun r _ H locs hp hCW hk hS => ?_)
  refine lv_as (y := -7000001) (hp.2.1 hC) ?_
  rw [stN_n hC (by decide)] at hCW
  have hCW : CW G a st H := hCW
  refine lv_ldc (v := -7000001) hx hb hown (hts (.constant RL 75 (-7000001)) (List.mem_of_getElem? (i := 5) (by decide +kernel))) dL_refuses_1052 ?_
  refine lv_icmp_ne (tgt := 1182) hx hb dL_refuses_1054 (by decide) (fun c => absurd c (by decide)) (fun _ => ?_)
  refine lv_aload_n hx hb dL_refuses_1057 rfl (lv_at hl 2 rfl) ?_
  refine lv_bipush (v := nI 8) hx hb dL_refuses_1058 (by decide) ?_
  refine lv_iload hx hb dL_refuses_1060 (lv_at hl 11 rfl) ?_
  refine lv_iload hx hb dL_refuses_1062 (lv_at hl 0 rfl) ?_
  refine lv_iconst (v := -1) hx hb dL_refuses_1064 (by decide) ?_
  refine lv_iconst (v := nI 0) hx hb dL_refuses_1065 (by decide) ?_
  have hC : cBi st.1 (nI n) (-1) (-1) = 1 := rc_bg hgb
  refine wr_i (vx_run0 (vx_runSX (As := [.ref (a 0), .int (nI 8), .int (nI n), .int (-1), .int (-1), .int (nI 0)]) (rest := []) FX (w_act_bit l hfl G a ha t9 st (nI n) (-1) (-1) (nI 0) hO) (vx_cwSW 6 hts gL_refuses_L_act rfl rfl rfl (by decide +kernel) ⟨Nat.le_of_ble_eq_true rfl, Nat.le_of_ble_eq_true rfl⟩) (preW hK hNW hCW (hLow.at hS (fun q9 _ q => rng_M q9 q)) (hX.at hS (fun q9 _ q => rng_M q9 q)) hNC) rfl rfl hl.1 rfl (lv_room (Nat.le_of_ble_eq_true rfl)) dL_refuses_1066 (rmx (m := 1200) (n := 7200) (by omega) (by omega)))) hS (fun q h => h) (fun r _ H locs hp hCW hk hS => ?_)
  refine lv_as (y := -7000001) (hp.2.1 hC) ?_
  have hCW : CW G a st H := hCW
  refine lv_ldc (v := -7000001) hx hb hown (hts (.constant RL 75 (-7000001)) (List.mem_of_getElem? (i := 5) (by decide +kernel))) dL_refuses_1069 ?_
  refine lv_icmp_ne (tgt := 1182) hx hb dL_refuses_1071 (by decide) (fun c => absurd c (by decide)) (fun _ => ?_)
  refine lv_aload_n hx hb dL_refuses_1074 rfl (lv_at hl 2 rfl) ?_
  refine lv_bipush (v := nI 12) hx hb dL_refuses_1075 (by decide) ?_
  refine lv_iload hx hb dL_refuses_1077 (lv_at hl 11 rfl) ?_
  refine lv_iload hx hb dL_refuses_1079 (lv_at hl 0 rfl) ?_
  refine lv_iconst (v := nI 0) hx hb dL_refuses_1081 (by decide) ?_
  refine lv_iconst (v := nI 0) hx hb dL_refuses_1082 (by decide) ?_
  have hC : cTi st.1 (nI n) (-1) = 1 := rc_tg hgb
  refine wr_i (vx_run0 (vx_runSX (As := [.ref (a 0), .int (nI 12), .int (nI n), .int (-1), .int (nI 0), .int (nI 0)]) (rest := []) FX (w_act_time l hfl G a ha t9 st (nI n) (-1) (nI 0) (nI 0) hO) (vx_cwSW 6 hts gL_refuses_L_act rfl rfl rfl (by decide +kernel) ⟨Nat.le_of_ble_eq_true rfl, Nat.le_of_ble_eq_true rfl⟩) (preW hK hNW hCW (hLow.at hS (fun q9 _ q => rng_M q9 q)) (hX.at hS (fun q9 _ q => rng_M q9 q)) hNC) rfl rfl hl.1 rfl (lv_room (Nat.le_of_ble_eq_true rfl)) dL_refuses_1083 (rmx (m := 1200) (n := 7200) (by omega) (by omega)))) hS (fun q h => h) (fun r _ H locs hp hCW hk hS => ?_)
  refine lv_as (y := -7000001) (hp.2.1 hC) ?_
  have hCW : CW G a st H := hCW
  refine lv_ldc (v := -7000001) hx hb hown (hts (.constant RL 75 (-7000001)) (List.mem_of_getElem? (i := 5) (by decide +kernel))) dL_refuses_1086 ?_
  refine lv_icmp_ne (tgt := 1182) hx hb dL_refuses_1088 (by decide) (fun c => absurd c (by decide)) (fun _ => ?_)
  refine lv_iload hx hb dL_refuses_1091 (lv_at hl 1 rfl) ?_
  refine lv_if_eq (tgt := 1178) hx hb dL_refuses_1093 (by decide) (fun _ => ?_) (fun c9 => ?_)
  · skip
    refine lv_iconst (v := nI 1) hx hb dL_refuses_1178 (by decide) ?_
    refine lv_goto (tgt := 1183) hx hb dL_refuses_1179 (by decide) ?_
    refine lv_istore (lv' := [(8, .int (nI 1)), (11, .int (-1)), (10, .int (nI (nG (st.1 n)))), (0, .ref (a 0)), (1, .int (nI 2147483647)), (2, .int bf), (3, .int (nI 0)), (4, .int (-1)), (5, .int (-1)), (6, .int (-1)), (7, .int (-2147483648)), (9, .int (nI n))]) hx hb dL_refuses_1183 hl (by decide) rfl (fun ls hl => ?_)
    refine lv_iinc (v := nI (n + 1)) (lv' := [(9, .int (nI (n + 1))), (8, .int (nI 1)), (11, .int (-1)), (10, .int (nI (nG (st.1 n)))), (0, .ref (a 0)), (1, .int (nI 2147483647)), (2, .int bf), (3, .int (nI 0)), (4, .int (-1)), (5, .int (-1)), (6, .int (-1)), (7, .int (-2147483648))]) hx hb dL_refuses_1185 hl (k := 11) rfl (nI_add _ 1) (by decide) rfl (fun ls hl => ?_)
    refine lv_goto (tgt := 941) hx hb dL_refuses_1188 (by decide) ?_
    exact wid (by omega) (by omega) (K _ _ _ hS hCW hl)
  have hg0 : ¬ nG (st.1 (ix (nI n))) = 0 := by rw [e4]; exact fun h => c9 (by rw [h]; rfl)
  have hg1 : inBd (nI 0) (nG (st.1 (ix (nI n)))) := bd4 (Nat.pos_of_ne_zero hg0) (by rw [e4]; omega)
  refine lv_aload_n hx hb dL_refuses_1096 rfl (lv_at hl 2 rfl) ?_
  refine lv_bipush (v := nI 7) hx hb dL_refuses_1097 (by decide) ?_
  refine lv_iload hx hb dL_refuses_1099 (lv_at hl 11 rfl) ?_
  refine lv_iconst (v := nI 0) hx hb dL_refuses_1101 (by decide) ?_
  refine lv_iload_n hx hb dL_refuses_1102 rfl (lv_at hl 5 rfl) ?_
  refine lv_if_ne (tgt := 1111) hx hb dL_refuses_1103 (by decide) (fun c => absurd c (by decide)) (fun _ => ?_)
  refine lv_bipush (v := -2) hx hb dL_refuses_1106 (by decide) ?_
  refine lv_goto (tgt := 1122) hx hb dL_refuses_1108 (by decide) ?_
  refine lv_iconst (v := nI 0) hx hb dL_refuses_1122 (by decide) ?_
  have hC : cSt st.1 (nI n) (nI 0) (-2) = 2 := rc_sb hn4 hg1 (by decide)
  refine wr_i (vx_run0 (vx_runSX (As := [.ref (a 0), .int (nI 7), .int (nI n), .int (nI 0), .int (-2), .int (nI 0)]) (rest := []) FX (w_act_stick l hfl G a ha t9 st (nI n) (nI 0) (-2) (nI 0) hO) (vx_cwSW 6 hts gL_refuses_L_act rfl rfl rfl (by decide +kernel) ⟨Nat.le_of_ble_eq_true rfl, Nat.le_of_ble_eq_true rfl⟩) (preW hK hNW hCW (hLow.at hS (fun q9 _ q => rng_M q9 q)) (hX.at hS (fun q9 _ q => rng_M q9 q)) hNC) rfl rfl hl.1 rfl (lv_room (Nat.le_of_ble_eq_true rfl)) dL_refuses_1123 (rmx (m := 1200) (n := 7200) (by omega) (by omega)))) hS (fun q h => h) (fun r _ H locs hp hCW hk hS => ?_)
  refine lv_as (y := -7000002) (hp.2.2.1 hC) ?_
  rw [stN_n hC (by decide)] at hCW
  have hCW : CW G a st H := hCW
  refine lv_ldc (v := -7000002) hx hb hown (hts (.constant RL 78 (-7000002)) (List.mem_of_getElem? (i := 6) (by decide +kernel))) dL_refuses_1126 ?_
  refine lv_icmp_ne (tgt := 1182) hx hb dL_refuses_1128 (by decide) (fun c => absurd c (by decide)) (fun _ => ?_)
  refine lv_aload_n hx hb dL_refuses_1131 rfl (lv_at hl 2 rfl) ?_
  refine lv_bipush (v := nI 8) hx hb dL_refuses_1132 (by decide) ?_
  refine lv_iload hx hb dL_refuses_1134 (lv_at hl 11 rfl) ?_
  refine lv_iconst (v := nI 0) hx hb dL_refuses_1136 (by decide) ?_
  refine lv_iload hx hb dL_refuses_1137 (lv_at hl 8 rfl) ?_
  refine lv_iconst (v := nI 0) hx hb dL_refuses_1139 (by decide) ?_
  have hC : cBi st.1 (nI n) (nI 0) (-1) = 2 := rc_bx hn4 hg1 (by decide)
  refine wr_i (vx_run0 (vx_runSX (As := [.ref (a 0), .int (nI 8), .int (nI n), .int (nI 0), .int (-1), .int (nI 0)]) (rest := []) FX (w_act_bit l hfl G a ha t9 st (nI n) (nI 0) (-1) (nI 0) hO) (vx_cwSW 6 hts gL_refuses_L_act rfl rfl rfl (by decide +kernel) ⟨Nat.le_of_ble_eq_true rfl, Nat.le_of_ble_eq_true rfl⟩) (preW hK hNW hCW (hLow.at hS (fun q9 _ q => rng_M q9 q)) (hX.at hS (fun q9 _ q => rng_M q9 q)) hNC) rfl rfl hl.1 rfl (lv_room (Nat.le_of_ble_eq_true rfl)) dL_refuses_1140 (rmx (m := 1200) (n := 7200) (by omega) (by omega)))) hS (fun q h => h) (fun r _ H locs hp hCW hk hS => ?_)
  refine lv_as (y := -7000002) (hp.2.2.1 hC) ?_
  have hCW : CW G a st H := hCW
  refine lv_ldc (v := -7000002) hx hb hown (hts (.constant RL 78 (-7000002)) (List.mem_of_getElem? (i := 6) (by decide +kernel))) dL_refuses_1143 ?_
  refine lv_icmp_ne (tgt := 1182) hx hb dL_refuses_1145 (by decide) (fun c => absurd c (by decide)) (fun _ => ?_)
  refine lv_aload_n hx hb dL_refuses_1148 rfl (lv_at hl 2 rfl) ?_
  refine lv_iconst (v := nI 3) hx hb dL_refuses_1149 (by decide) ?_
  refine lv_iload hx hb dL_refuses_1150 (lv_at hl 11 rfl) ?_
  refine lv_iconst (v := nI 0) hx hb dL_refuses_1152 (by decide) ?_
  refine lv_iconst (v := nI 1) hx hb dL_refuses_1153 (by decide) ?_
  refine lv_iconst (v := nI 0) hx hb dL_refuses_1154 (by decide) ?_
  have hC : cAd st.1 (nI n) (nI 0) (nI 1) = 3 := rc_an hn4 (by decide) (by decide) hg0
  refine wr_i (vx_run0 (vx_runSX (As := [.ref (a 0), .int (nI 3), .int (nI n), .int (nI 0), .int (nI 1), .int (nI 0)]) (rest := []) FX (w_act_adder l hfl G a ha t9 st (nI n) (nI 0) (nI 1) (nI 0) hO) (vx_cwSW 6 hts gL_refuses_L_act rfl rfl rfl (by decide +kernel) ⟨Nat.le_of_ble_eq_true rfl, Nat.le_of_ble_eq_true rfl⟩) (preW hK hNW hCW (hLow.at hS (fun q9 _ q => rng_M q9 q)) (hX.at hS (fun q9 _ q => rng_M q9 q)) hNC) rfl rfl hl.1 rfl (lv_room (Nat.le_of_ble_eq_true rfl)) dL_refuses_1155 (rmx (m := 1200) (n := 7200) (by omega) (by omega)))) hS (fun q h => h) (fun r _ H locs hp hCW hk hS => ?_)
  refine lv_as (y := -7000003) (hp.2.2.2 hC) ?_
  rw [stN_n hC (by decide)] at hCW
  have hCW : CW G a st H := hCW
  refine lv_ldc (v := -7000003) hx hb hown (hts (.constant RL 81 (-7000003)) (List.mem_of_getElem? (i := 7) (by decide +kernel))) dL_refuses_1158 ?_
  refine lv_icmp_ne (tgt := 1182) hx hb dL_refuses_1160 (by decide) (fun c => absurd c (by decide)) (fun _ => ?_)
  refine lv_aload_n hx hb dL_refuses_1163 rfl (lv_at hl 2 rfl) ?_
  refine lv_iconst (v := nI 4) hx hb dL_refuses_1164 (by decide) ?_
  refine lv_iload hx hb dL_refuses_1165 (lv_at hl 11 rfl) ?_
  refine lv_iconst (v := nI 1) hx hb dL_refuses_1167 (by decide) ?_
  refine lv_iconst (v := nI 0) hx hb dL_refuses_1168 (by decide) ?_
  refine lv_iconst (v := nI 0) hx hb dL_refuses_1169 (by decide) ?_
  have hC : cMu st.1 (nI n) (nI 1) = 3 := rc_mn hn4 (by decide) hg0
  refine wr_i (vx_run0 (vx_runSX (As := [.ref (a 0), .int (nI 4), .int (nI n), .int (nI 1), .int (nI 0), .int (nI 0)]) (rest := []) FX (w_act_multiplier l hfl G a ha t9 st (nI n) (nI 1) (nI 0) (nI 0) hO) (vx_cwSW 6 hts gL_refuses_L_act rfl rfl rfl (by decide +kernel) ⟨Nat.le_of_ble_eq_true rfl, Nat.le_of_ble_eq_true rfl⟩) (preW hK hNW hCW (hLow.at hS (fun q9 _ q => rng_M q9 q)) (hX.at hS (fun q9 _ q => rng_M q9 q)) hNC) rfl rfl hl.1 rfl (lv_room (Nat.le_of_ble_eq_true rfl)) dL_refuses_1170 (rmx (m := 1200) (n := 7200) (by omega) (by omega)))) hS (fun q h => h) (fun r _ H locs hp hCW hk hS => ?_)
  refine lv_as (y := -7000003) (hp.2.2.2 hC) ?_
  rw [stN_n hC (by decide)] at hCW
  have hCW : CW G a st H := hCW
  refine lv_ldc (v := -7000003) hx hb hown (hts (.constant RL 81 (-7000003)) (List.mem_of_getElem? (i := 7) (by decide +kernel))) dL_refuses_1173 ?_
  refine lv_icmp_ne (tgt := 1182) hx hb dL_refuses_1175 (by decide) (fun c => absurd c (by decide)) (fun _ => ?_)
  refine lv_iconst (v := nI 1) hx hb dL_refuses_1178 (by decide) ?_
  refine lv_goto (tgt := 1183) hx hb dL_refuses_1179 (by decide) ?_
  refine lv_istore (lv' := [(8, .int (nI 1)), (11, .int (-1)), (10, .int (nI (nG (st.1 n)))), (0, .ref (a 0)), (1, .int (nI 2147483647)), (2, .int bf), (3, .int (nI 0)), (4, .int (-1)), (5, .int (-1)), (6, .int (-1)), (7, .int (-2147483648)), (9, .int (nI n))]) hx hb dL_refuses_1183 hl (by decide) rfl (fun ls hl => ?_)
  refine lv_iinc (v := nI (n + 1)) (lv' := [(9, .int (nI (n + 1))), (8, .int (nI 1)), (11, .int (-1)), (10, .int (nI (nG (st.1 n)))), (0, .ref (a 0)), (1, .int (nI 2147483647)), (2, .int bf), (3, .int (nI 0)), (4, .int (-1)), (5, .int (-1)), (6, .int (-1)), (7, .int (-2147483648))]) hx hb dL_refuses_1185 hl (k := 11) rfl (nI_add _ 1) (by decide) rfl (fun ls hl => ?_)
  refine lv_goto (tgt := 941) hx hb dL_refuses_1188 (by decide) ?_
  exact wid (by omega) (by omega) (K _ _ _ hS hCW hl)
set_option maxHeartbeats 4000000 in
set_option maxRecDepth 100000 in
theorem rf_N1 {p : Program} {l : Launch} {e : Env} {s : State} {m : MethodId} {args : Array Value} {below : List Frame} {meth : Method} {c : Code} {Q : State → Prop} {G : GG} {a : Nat → Nat} {t9 : Nat} (J : LJ p l s m meth c args cL_refuses (some .boolean) 12 wsL_refuses G a t9) {st : ST} (hO : OKS st) {bf : Int32} {n : Nat} (hn : n < 4) (c0 s0 : Nat) (hc : c0 + 41 ≤ 1200) (hs : s0 + 246 ≤ 7200) {H : Heap} {locs : List Loc} {ls : Array Slot} (hS : va_S (rng a 0 93) s.heap H locs) (hCW : CW G a st H) (hl : lv_has ls 12 [(0, .ref (a 0)), (1, .int (nI 2147483647)), (2, .int bf), (3, .int (nI 1)), (4, .int (-2147483648)), (5, .int (nI 4)), (6, .int (nI 1073741824)), (7, .int (-2)), (8, .int (nI 1)), (9, .int (nI n))]) (K : ∀ (H : Heap) (locs : List Loc) (ls : Array Slot), va_S (rng a 0 93) s.heap H locs → CW G a st H → lv_has ls 12 [(9, .int (nI (n + 1))), (8, .int (nI 1)), (11, .int (nI (nG (st.1 n)))), (10, .int (nI (nG (st.1 n)))), (0, .ref (a 0)), (1, .int (nI 2147483647)), (2, .int bf), (3, .int (nI 1)), (4, .int (-2147483648)), (5, .int (nI 4)), (6, .int (nI 1073741824)), (7, .int (-2))] → W p l e ({ frames := 10, cells := 1200, slots := 7200, locals := 194 } : Room) s m args below meth c H locs (c0 + 41) (s0 + 246) Q (F0 m 941 ls [])) : W p l e ({ frames := 10, cells := 1200, slots := 7200, locals := 194 } : Room) s m args below meth c H locs c0 s0 Q (F0 m 941 ls []) := by
  obtain ⟨hfl, hx, hb, hr, hml, hown, hts, hlocks, ha, hK, hNW, hLow, hX, hNC⟩ := J
  have FX : CallFix p m c cL_refuses 12 s args wsL_refuses RL := ⟨hx, hb, hml, hown, hts⟩
  have hG := (hO.1 n hn).g
  have e4 : ix (nI n) = n := ix_nI (by omega)
  have hn4 : inBd (nI n) 4 := bd4 hn (by omega)
  have hgb : ¬ inBd (nI (nG (st.1 n))) (nG (st.1 (ix (nI n)))) := by rw [e4]; exact fun h => absurd ((nI_ltI (by omega) (by omega)).mp h.2) (Nat.lt_irrefl _)
  refine lv_iload hx hb dL_refuses_941 (lv_at hl 9 rfl) ?_
  refine lv_iconst (v := nI 4) hx hb dL_refuses_943 (by decide) ?_
  refine lv_icmp_ge (tgt := 1191) hx hb dL_refuses_944 (by decide) (fun c => absurd (cv_le (by omega) (by omega) c) (by omega)) (fun _ => ?_)
  refine lv_iload hx hb dL_refuses_947 (lv_at hl 8 rfl) ?_
  refine lv_if_eq (tgt := 1191) hx hb dL_refuses_949 (by decide) (fun c => absurd c (by decide)) (fun _ => ?_)
  refine lv_aload_n hx hb dL_refuses_952 rfl (lv_at hl 0 rfl) ?_
  refine lv_iload hx hb dL_refuses_953 (lv_at hl 9 rfl) ?_
  refine lv_iconst (v := nI 0) hx hb dL_refuses_955 (by decide) ?_
  refine wr_i (va_runV (As := [.int (nI n), .int (nI 0)]) (rest := []) FX (n_ofNet l hfl G a ha t9 st n 0 hO hn (by decide)) (cwV 2 hts gL_refuses_X11_ofNet rfl rfl rfl (by decide +kernel) ⟨Nat.le_of_ble_eq_true rfl, Nat.le_of_ble_eq_true rfl⟩) (preVX hK hNW hCW (hLow.at hS (fun q9 _ q => rng_M q9 q)) (hX.at hS (fun q9 _ q => rng_M q9 q)) (cw_recv hK hCW)) rfl rfl hl.1 rfl (lv_room (Nat.le_of_ble_eq_true rfl)) dL_refuses_956 (rmx (m := 1200) (n := 7200) (by omega) (by omega))) hS (fun q h => h) (fun r _ H locs hp hCW hk hS => ?_)
  refine lv_as (y := nI (nG (st.1 n))) (hp.trans (of_0 rfl)) ?_
  refine lv_istore (lv' := [(10, .int (nI (nG (st.1 n)))), (0, .ref (a 0)), (1, .int (nI 2147483647)), (2, .int bf), (3, .int (nI 1)), (4, .int (-2147483648)), (5, .int (nI 4)), (6, .int (nI 1073741824)), (7, .int (-2)), (8, .int (nI 1)), (9, .int (nI n))]) hx hb dL_refuses_959 hl (by decide) rfl (fun ls hl => ?_)
  refine lv_iload_n hx hb dL_refuses_961 rfl (lv_at hl 4 rfl) ?_
  refine lv_iconst (v := nI 1) hx hb dL_refuses_962 (by decide) ?_
  refine lv_icmp_ne (tgt := 971) hx hb dL_refuses_963 (by decide) (fun c => absurd c (by decide)) (fun _ => ?_)
  refine lv_iload hx hb dL_refuses_966 (lv_at hl 0 rfl) ?_
  refine lv_goto (tgt := 973) hx hb dL_refuses_968 (by decide) ?_
  refine lv_istore (lv' := [(11, .int (nI (nG (st.1 n)))), (10, .int (nI (nG (st.1 n)))), (0, .ref (a 0)), (1, .int (nI 2147483647)), (2, .int bf), (3, .int (nI 1)), (4, .int (-2147483648)), (5, .int (nI 4)), (6, .int (nI 1073741824)), (7, .int (-2)), (8, .int (nI 1)), (9, .int (nI n))]) hx hb dL_refuses_973 hl (by decide) rfl (fun ls hl => ?_)
  refine lv_aload_n hx hb dL_refuses_975 rfl (lv_at hl 2 rfl) ?_
  refine lv_iconst (v := nI 1) hx hb dL_refuses_976 (by decide) ?_
  refine lv_iload hx hb dL_refuses_977 (lv_at hl 11 rfl) ?_
  refine lv_iconst (v := nI 0) hx hb dL_refuses_979 (by decide) ?_
  refine lv_iload hx hb dL_refuses_980 (lv_at hl 0 rfl) ?_
  refine lv_iconst (v := nI 0) hx hb dL_refuses_982 (by decide) ?_
  have hC : cGa st.1 (nI n) (nI 0) (nI (nG (st.1 n))) (nI 0) = 1 := rc_gf hgb
  refine wr_i (vx_run0 (vx_runSX (As := [.ref (a 0), .int (nI 1), .int (nI n), .int (nI 0), .int (nI (nG (st.1 n))), .int (nI 0)]) (rest := []) FX (w_act_gate l hfl G a ha t9 st (nI n) (nI 0) (nI (nG (st.1 n))) (nI 0) hO) (vx_cwSW 6 hts gL_refuses_L_act rfl rfl rfl (by decide +kernel) ⟨Nat.le_of_ble_eq_true rfl, Nat.le_of_ble_eq_true rfl⟩) (preW hK hNW hCW (hLow.at hS (fun q9 _ q => rng_M q9 q)) (hX.at hS (fun q9 _ q => rng_M q9 q)) hNC) rfl rfl hl.1 rfl (lv_room (Nat.le_of_ble_eq_true rfl)) dL_refuses_983 (rmx (m := 1200) (n := 7200) (by omega) (by omega)))) hS (fun q h => h) (fun r _ H locs hp hCW hk hS => ?_)
  refine lv_as (y := -7000001) (hp.2.1 hC) ?_
  rw [stN_n hC (by decide)] at hCW
  have hCW : CW G a st H := hCW
  refine lv_ldc (v := -7000001) hx hb hown (hts (.constant RL 75 (-7000001)) (List.mem_of_getElem? (i := 5) (by decide +kernel))) dL_refuses_986 ?_
  refine lv_icmp_ne (tgt := 1182) hx hb dL_refuses_988 (by decide) (fun c => absurd c (by decide)) (fun _ => ?_)
  refine lv_aload_n hx hb dL_refuses_991 rfl (lv_at hl 2 rfl) ?_
  refine lv_iconst (v := nI 1) hx hb dL_refuses_992 (by decide) ?_
  refine lv_iload hx hb dL_refuses_993 (lv_at hl 11 rfl) ?_
  refine lv_iconst (v := nI 0) hx hb dL_refuses_995 (by decide) ?_
  refine lv_iconst (v := nI 0) hx hb dL_refuses_996 (by decide) ?_
  refine lv_iload hx hb dL_refuses_997 (lv_at hl 0 rfl) ?_
  have hC : cGa st.1 (nI n) (nI 0) (nI 0) (nI (nG (st.1 n))) = 1 := rc_gs (by decide) hgb
  refine wr_i (vx_run0 (vx_runSX (As := [.ref (a 0), .int (nI 1), .int (nI n), .int (nI 0), .int (nI 0), .int (nI (nG (st.1 n)))]) (rest := []) FX (w_act_gate l hfl G a ha t9 st (nI n) (nI 0) (nI 0) (nI (nG (st.1 n))) hO) (vx_cwSW 6 hts gL_refuses_L_act rfl rfl rfl (by decide +kernel) ⟨Nat.le_of_ble_eq_true rfl, Nat.le_of_ble_eq_true rfl⟩) (preW hK hNW hCW (hLow.at hS (fun q9 _ q => rng_M q9 q)) (hX.at hS (fun q9 _ q => rng_M q9 q)) hNC) rfl rfl hl.1 rfl (lv_room (Nat.le_of_ble_eq_true rfl)) dL_refuses_999 (rmx (m := 1200) (n := 7200) (by omega) (by omega)))) hS (fun q h => h) (fun r _ H locs hp hCW hk hS => ?_)
  refine lv_as (y := -7000001) (hp.2.1 hC) ?_
  rw [stN_n hC (by decide)] at hCW
  have hCW : CW G a st H := hCW
  refine lv_ldc (v := -7000001) hx hb hown (hts (.constant RL 75 (-7000001)) (List.mem_of_getElem? (i := 5) (by decide +kernel))) dL_refuses_1002 ?_
  refine lv_icmp_ne (tgt := 1182) hx hb dL_refuses_1004 (by decide) (fun c => absurd c (by decide)) (fun _ => ?_)
  refine lv_aload_n hx hb dL_refuses_1007 rfl (lv_at hl 2 rfl) ?_
  refine lv_iconst (v := nI 1) hx hb dL_refuses_1008 (by decide) ?_
  refine lv_iload hx hb dL_refuses_1009 (lv_at hl 11 rfl) ?_
  refine lv_iconst (v := nI 3) hx hb dL_refuses_1011 (by decide) ?_
  refine lv_iload hx hb dL_refuses_1012 (lv_at hl 0 rfl) ?_
  refine lv_iconst (v := nI 0) hx hb dL_refuses_1014 (by decide) ?_
  have hC : cGa st.1 (nI n) (nI 3) (nI (nG (st.1 n))) (nI 0) = 1 := rc_gf hgb
  refine wr_i (vx_run0 (vx_runSX (As := [.ref (a 0), .int (nI 1), .int (nI n), .int (nI 3), .int (nI (nG (st.1 n))), .int (nI 0)]) (rest := []) FX (w_act_gate l hfl G a ha t9 st (nI n) (nI 3) (nI (nG (st.1 n))) (nI 0) hO) (vx_cwSW 6 hts gL_refuses_L_act rfl rfl rfl (by decide +kernel) ⟨Nat.le_of_ble_eq_true rfl, Nat.le_of_ble_eq_true rfl⟩) (preW hK hNW hCW (hLow.at hS (fun q9 _ q => rng_M q9 q)) (hX.at hS (fun q9 _ q => rng_M q9 q)) hNC) rfl rfl hl.1 rfl (lv_room (Nat.le_of_ble_eq_true rfl)) dL_refuses_1015 (rmx (m := 1200) (n := 7200) (by omega) (by omega)))) hS (fun q h => h) (fun r _ H locs hp hCW hk hS => ?_)
  refine lv_as (y := -7000001) (hp.2.1 hC) ?_
  rw [stN_n hC (by decide)] at hCW
  have hCW : CW G a st H := hCW
  refine lv_ldc (v := -7000001) hx hb hown (hts (.constant RL 75 (-7000001)) (List.mem_of_getElem? (i := 5) (by decide +kernel))) dL_refuses_1018 ?_
  refine lv_icmp_ne (tgt := 1182) hx hb dL_refuses_1020 (by decide) (fun c => absurd c (by decide)) (fun _ => ?_)
  refine lv_aload_n hx hb dL_refuses_1023 rfl (lv_at hl 2 rfl) ?_
  refine lv_iconst (v := nI 2) hx hb dL_refuses_1024 (by decide) ?_
  refine lv_iload hx hb dL_refuses_1025 (lv_at hl 11 rfl) ?_
  refine lv_iload hx hb dL_refuses_1027 (lv_at hl 0 rfl) ?_
  refine lv_iconst (v := nI 0) hx hb dL_refuses_1029 (by decide) ?_
  refine lv_iconst (v := nI 0) hx hb dL_refuses_1030 (by decide) ?_
  have hC : cOu st.1 (nI n) (nI (nG (st.1 n))) = 1 := rc_og hgb
  refine wr_i (vx_run0 (vx_runSX (As := [.ref (a 0), .int (nI 2), .int (nI n), .int (nI (nG (st.1 n))), .int (nI 0), .int (nI 0)]) (rest := []) FX (w_act_out l hfl G a ha t9 st (nI n) (nI (nG (st.1 n))) (nI 0) (nI 0) hO) (vx_cwSW 6 hts gL_refuses_L_act rfl rfl rfl (by decide +kernel) ⟨Nat.le_of_ble_eq_true rfl, Nat.le_of_ble_eq_true rfl⟩) (preW hK hNW hCW (hLow.at hS (fun q9 _ q => rng_M q9 q)) (hX.at hS (fun q9 _ q => rng_M q9 q)) hNC) rfl rfl hl.1 rfl (lv_room (Nat.le_of_ble_eq_true rfl)) dL_refuses_1031 (rmx (m := 1200) (n := 7200) (by omega) (by omega)))) hS (fun q h => h) (fun r _ H locs hp hCW hk hS => ?_)
  refine lv_as (y := -7000001) (hp.2.1 hC) ?_
  rw [stN_n hC (by decide)] at hCW
  have hCW : CW G a st H := hCW
  refine lv_ldc (v := -7000001) hx hb hown (hts (.constant RL 75 (-7000001)) (List.mem_of_getElem? (i := 5) (by decide +kernel))) dL_refuses_1034 ?_
  refine lv_icmp_ne (tgt := 1182) hx hb dL_refuses_1036 (by decide) (fun c => absurd c (by decide)) (fun _ => ?_)
  refine lv_aload_n hx hb dL_refuses_1039 rfl (lv_at hl 2 rfl) ?_
  refine lv_bipush (v := nI 7) hx hb dL_refuses_1040 (by decide) ?_
  refine lv_iload hx hb dL_refuses_1042 (lv_at hl 11 rfl) ?_
  refine lv_iload hx hb dL_refuses_1044 (lv_at hl 0 rfl) ?_
  refine lv_bipush (v := nI 9) hx hb dL_refuses_1046 (by decide) ?_
  refine lv_iconst (v := nI 0) hx hb dL_refuses_1048 (by decide) ?_
  have hC : cSt st.1 (nI n) (nI (nG (st.1 n))) (nI 9) = 1 := rc_sg hgb
  refine wr_i (vx_run0 (vx_runSX (As := [.ref (a 0), .int (nI 7), .int (nI n), .int (nI (nG (st.1 n))), .int (nI 9), .int (nI 0)]) (rest := []) FX (w_act_stick l hfl G a ha t9 st (nI n) (nI (nG (st.1 n))) (nI 9) (nI 0) hO) (vx_cwSW 6 hts gL_refuses_L_act rfl rfl rfl (by decide +kernel) ⟨Nat.le_of_ble_eq_true rfl, Nat.le_of_ble_eq_true rfl⟩) (preW hK hNW hCW (hLow.at hS (fun q9 _ q => rng_M q9 q)) (hX.at hS (fun q9 _ q => rng_M q9 q)) hNC) rfl rfl hl.1 rfl (lv_room (Nat.le_of_ble_eq_true rfl)) dL_refuses_1049 (rmx (m := 1200) (n := 7200) (by omega) (by omega)))) hS (fun q h => h) (fun r _ H locs hp hCW hk hS => ?_)
  refine lv_as (y := -7000001) (hp.2.1 hC) ?_
  rw [stN_n hC (by decide)] at hCW
  have hCW : CW G a st H := hCW
  refine lv_ldc (v := -7000001) hx hb hown (hts (.constant RL 75 (-7000001)) (List.mem_of_getElem? (i := 5) (by decide +kernel))) dL_refuses_1052 ?_
  refine lv_icmp_ne (tgt := 1182) hx hb dL_refuses_1054 (by decide) (fun c => absurd c (by decide)) (fun _ => ?_)
  refine lv_aload_n hx hb dL_refuses_1057 rfl (lv_at hl 2 rfl) ?_
  refine lv_bipush (v := nI 8) hx hb dL_refuses_1058 (by decide) ?_
  refine lv_iload hx hb dL_refuses_1060 (lv_at hl 11 rfl) ?_
  refine lv_iload hx hb dL_refuses_1062 (lv_at hl 0 rfl) ?_
  refine lv_iconst (v := -1) hx hb dL_refuses_1064 (by decide) ?_
  refine lv_iconst (v := nI 0) hx hb dL_refuses_1065 (by decide) ?_
  have hC : cBi st.1 (nI n) (nI (nG (st.1 n))) (-1) = 1 := rc_bg hgb
  refine wr_i (vx_run0 (vx_runSX (As := [.ref (a 0), .int (nI 8), .int (nI n), .int (nI (nG (st.1 n))), .int (-1), .int (nI 0)]) (rest := []) FX (w_act_bit l hfl G a ha t9 st (nI n) (nI (nG (st.1 n))) (-1) (nI 0) hO) (vx_cwSW 6 hts gL_refuses_L_act rfl rfl rfl (by decide +kernel) ⟨Nat.le_of_ble_eq_true rfl, Nat.le_of_ble_eq_true rfl⟩) (preW hK hNW hCW (hLow.at hS (fun q9 _ q => rng_M q9 q)) (hX.at hS (fun q9 _ q => rng_M q9 q)) hNC) rfl rfl hl.1 rfl (lv_room (Nat.le_of_ble_eq_true rfl)) dL_refuses_1066 (rmx (m := 1200) (n := 7200) (by omega) (by omega)))) hS (fun q h => h) (fun r _ H locs hp hCW hk hS => ?_)
  refine lv_as (y := -7000001) (hp.2.1 hC) ?_
  have hCW : CW G a st H := hCW
  refine lv_ldc (v := -7000001) hx hb hown (hts (.constant RL 75 (-7000001)) (List.mem_of_getElem? (i := 5) (by decide +kernel))) dL_refuses_1069 ?_
  refine lv_icmp_ne (tgt := 1182) hx hb dL_refuses_1071 (by decide) (fun c => absurd c (by decide)) (fun _ => ?_)
  refine lv_aload_n hx hb dL_refuses_1074 rfl (lv_at hl 2 rfl) ?_
  refine lv_bipush (v := nI 12) hx hb dL_refuses_1075 (by decide) ?_
  refine lv_iload hx hb dL_refuses_1077 (lv_at hl 11 rfl) ?_
  refine lv_iload hx hb dL_refuses_1079 (lv_at hl 0 rfl) ?_
  refine lv_iconst (v := nI 0) hx hb dL_refuses_1081 (by decide) ?_
  refine lv_iconst (v := nI 0) hx hb dL_refuses_1082 (by decide) ?_
  have hC : cTi st.1 (nI n) (nI (nG (st.1 n))) = 1 := rc_tg hgb
  refine wr_i (vx_run0 (vx_runSX (As := [.ref (a 0), .int (nI 12), .int (nI n), .int (nI (nG (st.1 n))), .int (nI 0), .int (nI 0)]) (rest := []) FX (w_act_time l hfl G a ha t9 st (nI n) (nI (nG (st.1 n))) (nI 0) (nI 0) hO) (vx_cwSW 6 hts gL_refuses_L_act rfl rfl rfl (by decide +kernel) ⟨Nat.le_of_ble_eq_true rfl, Nat.le_of_ble_eq_true rfl⟩) (preW hK hNW hCW (hLow.at hS (fun q9 _ q => rng_M q9 q)) (hX.at hS (fun q9 _ q => rng_M q9 q)) hNC) rfl rfl hl.1 rfl (lv_room (Nat.le_of_ble_eq_true rfl)) dL_refuses_1083 (rmx (m := 1200) (n := 7200) (by omega) (by omega)))) hS (fun q h => h) (fun r _ H locs hp hCW hk hS => ?_)
  refine lv_as (y := -7000001) (hp.2.1 hC) ?_
  have hCW : CW G a st H := hCW
  refine lv_ldc (v := -7000001) hx hb hown (hts (.constant RL 75 (-7000001)) (List.mem_of_getElem? (i := 5) (by decide +kernel))) dL_refuses_1086 ?_
  refine lv_icmp_ne (tgt := 1182) hx hb dL_refuses_1088 (by decide) (fun c => absurd c (by decide)) (fun _ => ?_)
  refine lv_iload hx hb dL_refuses_1091 (lv_at hl 1 rfl) ?_
  refine lv_if_eq (tgt := 1178) hx hb dL_refuses_1093 (by decide) (fun _ => ?_) (fun c9 => ?_)
  · skip
    refine lv_iconst (v := nI 1) hx hb dL_refuses_1178 (by decide) ?_
    refine lv_goto (tgt := 1183) hx hb dL_refuses_1179 (by decide) ?_
    refine lv_istore (lv' := [(8, .int (nI 1)), (11, .int (nI (nG (st.1 n)))), (10, .int (nI (nG (st.1 n)))), (0, .ref (a 0)), (1, .int (nI 2147483647)), (2, .int bf), (3, .int (nI 1)), (4, .int (-2147483648)), (5, .int (nI 4)), (6, .int (nI 1073741824)), (7, .int (-2)), (9, .int (nI n))]) hx hb dL_refuses_1183 hl (by decide) rfl (fun ls hl => ?_)
    refine lv_iinc (v := nI (n + 1)) (lv' := [(9, .int (nI (n + 1))), (8, .int (nI 1)), (11, .int (nI (nG (st.1 n)))), (10, .int (nI (nG (st.1 n)))), (0, .ref (a 0)), (1, .int (nI 2147483647)), (2, .int bf), (3, .int (nI 1)), (4, .int (-2147483648)), (5, .int (nI 4)), (6, .int (nI 1073741824)), (7, .int (-2))]) hx hb dL_refuses_1185 hl (k := 11) rfl (nI_add _ 1) (by decide) rfl (fun ls hl => ?_)
    refine lv_goto (tgt := 941) hx hb dL_refuses_1188 (by decide) ?_
    exact wid (by omega) (by omega) (K _ _ _ hS hCW hl)
  have hg0 : ¬ nG (st.1 (ix (nI n))) = 0 := by rw [e4]; exact fun h => c9 (by rw [h]; rfl)
  have hg1 : inBd (nI 0) (nG (st.1 (ix (nI n)))) := bd4 (Nat.pos_of_ne_zero hg0) (by rw [e4]; omega)
  refine lv_aload_n hx hb dL_refuses_1096 rfl (lv_at hl 2 rfl) ?_
  refine lv_bipush (v := nI 7) hx hb dL_refuses_1097 (by decide) ?_
  refine lv_iload hx hb dL_refuses_1099 (lv_at hl 11 rfl) ?_
  refine lv_iconst (v := nI 0) hx hb dL_refuses_1101 (by decide) ?_
  refine lv_iload_n hx hb dL_refuses_1102 rfl (lv_at hl 5 rfl) ?_
  refine lv_if_ne (tgt := 1111) hx hb dL_refuses_1103 (by decide) (fun _ => ?_) (fun c => absurd c (by decide))
  refine lv_iload_n hx hb dL_refuses_1111 rfl (lv_at hl 5 rfl) ?_
  refine lv_iconst (v := nI 1) hx hb dL_refuses_1112 (by decide) ?_
  refine lv_icmp_ne (tgt := 1120) hx hb dL_refuses_1113 (by decide) (fun c => absurd c (by decide)) (fun _ => ?_)
  refine lv_iconst (v := nI 2) hx hb dL_refuses_1116 (by decide) ?_
  refine lv_goto (tgt := 1122) hx hb dL_refuses_1117 (by decide) ?_
  refine lv_iconst (v := nI 0) hx hb dL_refuses_1122 (by decide) ?_
  have hC : cSt st.1 (nI n) (nI 0) (nI 2) = 2 := rc_sb hn4 hg1 (by decide)
  refine wr_i (vx_run0 (vx_runSX (As := [.ref (a 0), .int (nI 7), .int (nI n), .int (nI 0), .int (nI 2), .int (nI 0)]) (rest := []) FX (w_act_stick l hfl G a ha t9 st (nI n) (nI 0) (nI 2) (nI 0) hO) (vx_cwSW 6 hts gL_refuses_L_act rfl rfl rfl (by decide +kernel) ⟨Nat.le_of_ble_eq_true rfl, Nat.le_of_ble_eq_true rfl⟩) (preW hK hNW hCW (hLow.at hS (fun q9 _ q => rng_M q9 q)) (hX.at hS (fun q9 _ q => rng_M q9 q)) hNC) rfl rfl hl.1 rfl (lv_room (Nat.le_of_ble_eq_true rfl)) dL_refuses_1123 (rmx (m := 1200) (n := 7200) (by omega) (by omega)))) hS (fun q h => h) (fun r _ H locs hp hCW hk hS => ?_)
  refine lv_as (y := -7000002) (hp.2.2.1 hC) ?_
  rw [stN_n hC (by decide)] at hCW
  have hCW : CW G a st H := hCW
  refine lv_ldc (v := -7000002) hx hb hown (hts (.constant RL 78 (-7000002)) (List.mem_of_getElem? (i := 6) (by decide +kernel))) dL_refuses_1126 ?_
  refine lv_icmp_ne (tgt := 1182) hx hb dL_refuses_1128 (by decide) (fun c => absurd c (by decide)) (fun _ => ?_)
  refine lv_aload_n hx hb dL_refuses_1131 rfl (lv_at hl 2 rfl) ?_
  refine lv_bipush (v := nI 8) hx hb dL_refuses_1132 (by decide) ?_
  refine lv_iload hx hb dL_refuses_1134 (lv_at hl 11 rfl) ?_
  refine lv_iconst (v := nI 0) hx hb dL_refuses_1136 (by decide) ?_
  refine lv_iload hx hb dL_refuses_1137 (lv_at hl 8 rfl) ?_
  refine lv_iconst (v := nI 0) hx hb dL_refuses_1139 (by decide) ?_
  have hC : cBi st.1 (nI n) (nI 0) (nI 1073741824) = 2 := rc_bx hn4 hg1 (by decide)
  refine wr_i (vx_run0 (vx_runSX (As := [.ref (a 0), .int (nI 8), .int (nI n), .int (nI 0), .int (nI 1073741824), .int (nI 0)]) (rest := []) FX (w_act_bit l hfl G a ha t9 st (nI n) (nI 0) (nI 1073741824) (nI 0) hO) (vx_cwSW 6 hts gL_refuses_L_act rfl rfl rfl (by decide +kernel) ⟨Nat.le_of_ble_eq_true rfl, Nat.le_of_ble_eq_true rfl⟩) (preW hK hNW hCW (hLow.at hS (fun q9 _ q => rng_M q9 q)) (hX.at hS (fun q9 _ q => rng_M q9 q)) hNC) rfl rfl hl.1 rfl (lv_room (Nat.le_of_ble_eq_true rfl)) dL_refuses_1140 (rmx (m := 1200) (n := 7200) (by omega) (by omega)))) hS (fun q h => h) (fun r _ H locs hp hCW hk hS => ?_)
  refine lv_as (y := -7000002) (hp.2.2.1 hC) ?_
  have hCW : CW G a st H := hCW
  refine lv_ldc (v := -7000002) hx hb hown (hts (.constant RL 78 (-7000002)) (List.mem_of_getElem? (i := 6) (by decide +kernel))) dL_refuses_1143 ?_
  refine lv_icmp_ne (tgt := 1182) hx hb dL_refuses_1145 (by decide) (fun c => absurd c (by decide)) (fun _ => ?_)
  refine lv_aload_n hx hb dL_refuses_1148 rfl (lv_at hl 2 rfl) ?_
  refine lv_iconst (v := nI 3) hx hb dL_refuses_1149 (by decide) ?_
  refine lv_iload hx hb dL_refuses_1150 (lv_at hl 11 rfl) ?_
  refine lv_iconst (v := nI 0) hx hb dL_refuses_1152 (by decide) ?_
  refine lv_iconst (v := nI 1) hx hb dL_refuses_1153 (by decide) ?_
  refine lv_iconst (v := nI 0) hx hb dL_refuses_1154 (by decide) ?_
  have hC : cAd st.1 (nI n) (nI 0) (nI 1) = 3 := rc_an hn4 (by decide) (by decide) hg0
  refine wr_i (vx_run0 (vx_runSX (As := [.ref (a 0), .int (nI 3), .int (nI n), .int (nI 0), .int (nI 1), .int (nI 0)]) (rest := []) FX (w_act_adder l hfl G a ha t9 st (nI n) (nI 0) (nI 1) (nI 0) hO) (vx_cwSW 6 hts gL_refuses_L_act rfl rfl rfl (by decide +kernel) ⟨Nat.le_of_ble_eq_true rfl, Nat.le_of_ble_eq_true rfl⟩) (preW hK hNW hCW (hLow.at hS (fun q9 _ q => rng_M q9 q)) (hX.at hS (fun q9 _ q => rng_M q9 q)) hNC) rfl rfl hl.1 rfl (lv_room (Nat.le_of_ble_eq_true rfl)) dL_refuses_1155 (rmx (m := 1200) (n := 7200) (by omega) (by omega)))) hS (fun q h => h) (fun r _ H locs hp hCW hk hS => ?_)
  refine lv_as (y := -7000003) (hp.2.2.2 hC) ?_
  rw [stN_n hC (by decide)] at hCW
  have hCW : CW G a st H := hCW
  refine lv_ldc (v := -7000003) hx hb hown (hts (.constant RL 81 (-7000003)) (List.mem_of_getElem? (i := 7) (by decide +kernel))) dL_refuses_1158 ?_
  refine lv_icmp_ne (tgt := 1182) hx hb dL_refuses_1160 (by decide) (fun c => absurd c (by decide)) (fun _ => ?_)
  refine lv_aload_n hx hb dL_refuses_1163 rfl (lv_at hl 2 rfl) ?_
  refine lv_iconst (v := nI 4) hx hb dL_refuses_1164 (by decide) ?_
  refine lv_iload hx hb dL_refuses_1165 (lv_at hl 11 rfl) ?_
  refine lv_iconst (v := nI 1) hx hb dL_refuses_1167 (by decide) ?_
  refine lv_iconst (v := nI 0) hx hb dL_refuses_1168 (by decide) ?_
  refine lv_iconst (v := nI 0) hx hb dL_refuses_1169 (by decide) ?_
  have hC : cMu st.1 (nI n) (nI 1) = 3 := rc_mn hn4 (by decide) hg0
  refine wr_i (vx_run0 (vx_runSX (As := [.ref (a 0), .int (nI 4), .int (nI n), .int (nI 1), .int (nI 0), .int (nI 0)]) (rest := []) FX (w_act_multiplier l hfl G a ha t9 st (nI n) (nI 1) (nI 0) (nI 0) hO) (vx_cwSW 6 hts gL_refuses_L_act rfl rfl rfl (by decide +kernel) ⟨Nat.le_of_ble_eq_true rfl, Nat.le_of_ble_eq_true rfl⟩) (preW hK hNW hCW (hLow.at hS (fun q9 _ q => rng_M q9 q)) (hX.at hS (fun q9 _ q => rng_M q9 q)) hNC) rfl rfl hl.1 rfl (lv_room (Nat.le_of_ble_eq_true rfl)) dL_refuses_1170 (rmx (m := 1200) (n := 7200) (by omega) (by omega)))) hS (fun q h => h) (fun r _ H locs hp hCW hk hS => ?_)
  refine lv_as (y := -7000003) (hp.2.2.2 hC) ?_
  rw [stN_n hC (by decide)] at hCW
  have hCW : CW G a st H := hCW
  refine lv_ldc (v := -7000003) hx hb hown (hts (.constant RL 81 (-7000003)) (List.mem_of_getElem? (i := 7) (by decide +kernel))) dL_refuses_1173 ?_
  refine lv_icmp_ne (tgt := 1182) hx hb dL_refuses_1175 (by decide) (fun c => absurd c (by decide)) (fun _ => ?_)
  refine lv_iconst (v := nI 1) hx hb dL_refuses_1178 (by decide) ?_
  refine lv_goto (tgt := 1183) hx hb dL_refuses_1179 (by decide) ?_
  refine lv_istore (lv' := [(8, .int (nI 1)), (11, .int (nI (nG (st.1 n)))), (10, .int (nI (nG (st.1 n)))), (0, .ref (a 0)), (1, .int (nI 2147483647)), (2, .int bf), (3, .int (nI 1)), (4, .int (-2147483648)), (5, .int (nI 4)), (6, .int (nI 1073741824)), (7, .int (-2)), (9, .int (nI n))]) hx hb dL_refuses_1183 hl (by decide) rfl (fun ls hl => ?_)
  refine lv_iinc (v := nI (n + 1)) (lv' := [(9, .int (nI (n + 1))), (8, .int (nI 1)), (11, .int (nI (nG (st.1 n)))), (10, .int (nI (nG (st.1 n)))), (0, .ref (a 0)), (1, .int (nI 2147483647)), (2, .int bf), (3, .int (nI 1)), (4, .int (-2147483648)), (5, .int (nI 4)), (6, .int (nI 1073741824)), (7, .int (-2))]) hx hb dL_refuses_1185 hl (k := 11) rfl (nI_add _ 1) (by decide) rfl (fun ls hl => ?_)
  refine lv_goto (tgt := 941) hx hb dL_refuses_1188 (by decide) ?_
  exact wid (by omega) (by omega) (K _ _ _ hS hCW hl)
set_option maxHeartbeats 4000000 in
set_option maxRecDepth 100000 in
theorem rf_N2 {p : Program} {l : Launch} {e : Env} {s : State} {m : MethodId} {args : Array Value} {below : List Frame} {meth : Method} {c : Code} {Q : State → Prop} {G : GG} {a : Nat → Nat} {t9 : Nat} (J : LJ p l s m meth c args cL_refuses (some .boolean) 12 wsL_refuses G a t9) {st : ST} (hO : OKS st) {bf : Int32} {n : Nat} (hn : n < 4) (c0 s0 : Nat) (hc : c0 + 41 ≤ 1200) (hs : s0 + 246 ≤ 7200) {H : Heap} {locs : List Loc} {ls : Array Slot} (hS : va_S (rng a 0 93) s.heap H locs) (hCW : CW G a st H) (hl : lv_has ls 12 [(0, .ref (a 0)), (1, .int (nI 2147483647)), (2, .int bf), (3, .int (nI 2)), (4, .int (nI 2147483647)), (5, .int (nI 2147483647)), (6, .int (nI 2147483647)), (7, .int (-1)), (8, .int (nI 1)), (9, .int (nI n))]) (K : ∀ (H : Heap) (locs : List Loc) (ls : Array Slot), va_S (rng a 0 93) s.heap H locs → CW G a st H → lv_has ls 12 [(9, .int (nI (n + 1))), (8, .int (nI 1)), (11, .int (nI 2147483647)), (10, .int (nI (nG (st.1 n)))), (0, .ref (a 0)), (1, .int (nI 2147483647)), (2, .int bf), (3, .int (nI 2)), (4, .int (nI 2147483647)), (5, .int (nI 2147483647)), (6, .int (nI 2147483647)), (7, .int (-1))] → W p l e ({ frames := 10, cells := 1200, slots := 7200, locals := 194 } : Room) s m args below meth c H locs (c0 + 41) (s0 + 246) Q (F0 m 941 ls [])) : W p l e ({ frames := 10, cells := 1200, slots := 7200, locals := 194 } : Room) s m args below meth c H locs c0 s0 Q (F0 m 941 ls []) := by
  obtain ⟨hfl, hx, hb, hr, hml, hown, hts, hlocks, ha, hK, hNW, hLow, hX, hNC⟩ := J
  have FX : CallFix p m c cL_refuses 12 s args wsL_refuses RL := ⟨hx, hb, hml, hown, hts⟩
  have hG := (hO.1 n hn).g
  have e4 : ix (nI n) = n := ix_nI (by omega)
  have hn4 : inBd (nI n) 4 := bd4 hn (by omega)
  have hgb : ¬ inBd (nI 2147483647) (nG (st.1 (ix (nI n)))) := by rw [e4]; exact fun h => absurd ((nI_ltI (by omega) (by omega)).mp h.2) (by omega)
  refine lv_iload hx hb dL_refuses_941 (lv_at hl 9 rfl) ?_
  refine lv_iconst (v := nI 4) hx hb dL_refuses_943 (by decide) ?_
  refine lv_icmp_ge (tgt := 1191) hx hb dL_refuses_944 (by decide) (fun c => absurd (cv_le (by omega) (by omega) c) (by omega)) (fun _ => ?_)
  refine lv_iload hx hb dL_refuses_947 (lv_at hl 8 rfl) ?_
  refine lv_if_eq (tgt := 1191) hx hb dL_refuses_949 (by decide) (fun c => absurd c (by decide)) (fun _ => ?_)
  refine lv_aload_n hx hb dL_refuses_952 rfl (lv_at hl 0 rfl) ?_
  refine lv_iload hx hb dL_refuses_953 (lv_at hl 9 rfl) ?_
  refine lv_iconst (v := nI 0) hx hb dL_refuses_955 (by decide) ?_
  refine wr_i (va_runV (As := [.int (nI n), .int (nI 0)]) (rest := []) FX (n_ofNet l hfl G a ha t9 st n 0 hO hn (by decide)) (cwV 2 hts gL_refuses_X11_ofNet rfl rfl rfl (by decide +kernel) ⟨Nat.le_of_ble_eq_true rfl, Nat.le_of_ble_eq_true rfl⟩) (preVX hK hNW hCW (hLow.at hS (fun q9 _ q => rng_M q9 q)) (hX.at hS (fun q9 _ q => rng_M q9 q)) (cw_recv hK hCW)) rfl rfl hl.1 rfl (lv_room (Nat.le_of_ble_eq_true rfl)) dL_refuses_956 (rmx (m := 1200) (n := 7200) (by omega) (by omega))) hS (fun q h => h) (fun r _ H locs hp hCW hk hS => ?_)
  refine lv_as (y := nI (nG (st.1 n))) (hp.trans (of_0 rfl)) ?_
  refine lv_istore (lv' := [(10, .int (nI (nG (st.1 n)))), (0, .ref (a 0)), (1, .int (nI 2147483647)), (2, .int bf), (3, .int (nI 2)), (4, .int (nI 2147483647)), (5, .int (nI 2147483647)), (6, .int (nI 2147483647)), (7, .int (-1)), (8, .int (nI 1)), (9, .int (nI n))]) hx hb dL_refuses_959 hl (by decide) rfl (fun ls hl => ?_)
  refine lv_iload_n hx hb dL_refuses_961 rfl (lv_at hl 4 rfl) ?_
  refine lv_iconst (v := nI 1) hx hb dL_refuses_962 (by decide) ?_
  refine lv_icmp_ne (tgt := 971) hx hb dL_refuses_963 (by decide) (fun _ => ?_) (fun c => absurd c (by decide))
  refine lv_iload hx hb dL_refuses_971 (lv_at hl 5 rfl) ?_
  refine lv_istore (lv' := [(11, .int (nI 2147483647)), (10, .int (nI (nG (st.1 n)))), (0, .ref (a 0)), (1, .int (nI 2147483647)), (2, .int bf), (3, .int (nI 2)), (4, .int (nI 2147483647)), (5, .int (nI 2147483647)), (6, .int (nI 2147483647)), (7, .int (-1)), (8, .int (nI 1)), (9, .int (nI n))]) hx hb dL_refuses_973 hl (by decide) rfl (fun ls hl => ?_)
  refine lv_aload_n hx hb dL_refuses_975 rfl (lv_at hl 2 rfl) ?_
  refine lv_iconst (v := nI 1) hx hb dL_refuses_976 (by decide) ?_
  refine lv_iload hx hb dL_refuses_977 (lv_at hl 11 rfl) ?_
  refine lv_iconst (v := nI 0) hx hb dL_refuses_979 (by decide) ?_
  refine lv_iload hx hb dL_refuses_980 (lv_at hl 0 rfl) ?_
  refine lv_iconst (v := nI 0) hx hb dL_refuses_982 (by decide) ?_
  have hC : cGa st.1 (nI n) (nI 0) (nI 2147483647) (nI 0) = 1 := rc_gf hgb
  refine wr_i (vx_run0 (vx_runSX (As := [.ref (a 0), .int (nI 1), .int (nI n), .int (nI 0), .int (nI 2147483647), .int (nI 0)]) (rest := []) FX (w_act_gate l hfl G a ha t9 st (nI n) (nI 0) (nI 2147483647) (nI 0) hO) (vx_cwSW 6 hts gL_refuses_L_act rfl rfl rfl (by decide +kernel) ⟨Nat.le_of_ble_eq_true rfl, Nat.le_of_ble_eq_true rfl⟩) (preW hK hNW hCW (hLow.at hS (fun q9 _ q => rng_M q9 q)) (hX.at hS (fun q9 _ q => rng_M q9 q)) hNC) rfl rfl hl.1 rfl (lv_room (Nat.le_of_ble_eq_true rfl)) dL_refuses_983 (rmx (m := 1200) (n := 7200) (by omega) (by omega)))) hS (fun q h => h) (fun r _ H locs hp hCW hk hS => ?_)
  refine lv_as (y := -7000001) (hp.2.1 hC) ?_
  rw [stN_n hC (by decide)] at hCW
  have hCW : CW G a st H := hCW
  refine lv_ldc (v := -7000001) hx hb hown (hts (.constant RL 75 (-7000001)) (List.mem_of_getElem? (i := 5) (by decide +kernel))) dL_refuses_986 ?_
  refine lv_icmp_ne (tgt := 1182) hx hb dL_refuses_988 (by decide) (fun c => absurd c (by decide)) (fun _ => ?_)
  refine lv_aload_n hx hb dL_refuses_991 rfl (lv_at hl 2 rfl) ?_
  refine lv_iconst (v := nI 1) hx hb dL_refuses_992 (by decide) ?_
  refine lv_iload hx hb dL_refuses_993 (lv_at hl 11 rfl) ?_
  refine lv_iconst (v := nI 0) hx hb dL_refuses_995 (by decide) ?_
  refine lv_iconst (v := nI 0) hx hb dL_refuses_996 (by decide) ?_
  refine lv_iload hx hb dL_refuses_997 (lv_at hl 0 rfl) ?_
  have hC : cGa st.1 (nI n) (nI 0) (nI 0) (nI 2147483647) = 1 := rc_gs (by decide) hgb
  refine wr_i (vx_run0 (vx_runSX (As := [.ref (a 0), .int (nI 1), .int (nI n), .int (nI 0), .int (nI 0), .int (nI 2147483647)]) (rest := []) FX (w_act_gate l hfl G a ha t9 st (nI n) (nI 0) (nI 0) (nI 2147483647) hO) (vx_cwSW 6 hts gL_refuses_L_act rfl rfl rfl (by decide +kernel) ⟨Nat.le_of_ble_eq_true rfl, Nat.le_of_ble_eq_true rfl⟩) (preW hK hNW hCW (hLow.at hS (fun q9 _ q => rng_M q9 q)) (hX.at hS (fun q9 _ q => rng_M q9 q)) hNC) rfl rfl hl.1 rfl (lv_room (Nat.le_of_ble_eq_true rfl)) dL_refuses_999 (rmx (m := 1200) (n := 7200) (by omega) (by omega)))) hS (fun q h => h) (fun r _ H locs hp hCW hk hS => ?_)
  refine lv_as (y := -7000001) (hp.2.1 hC) ?_
  rw [stN_n hC (by decide)] at hCW
  have hCW : CW G a st H := hCW
  refine lv_ldc (v := -7000001) hx hb hown (hts (.constant RL 75 (-7000001)) (List.mem_of_getElem? (i := 5) (by decide +kernel))) dL_refuses_1002 ?_
  refine lv_icmp_ne (tgt := 1182) hx hb dL_refuses_1004 (by decide) (fun c => absurd c (by decide)) (fun _ => ?_)
  refine lv_aload_n hx hb dL_refuses_1007 rfl (lv_at hl 2 rfl) ?_
  refine lv_iconst (v := nI 1) hx hb dL_refuses_1008 (by decide) ?_
  refine lv_iload hx hb dL_refuses_1009 (lv_at hl 11 rfl) ?_
  refine lv_iconst (v := nI 3) hx hb dL_refuses_1011 (by decide) ?_
  refine lv_iload hx hb dL_refuses_1012 (lv_at hl 0 rfl) ?_
  refine lv_iconst (v := nI 0) hx hb dL_refuses_1014 (by decide) ?_
  have hC : cGa st.1 (nI n) (nI 3) (nI 2147483647) (nI 0) = 1 := rc_gf hgb
  refine wr_i (vx_run0 (vx_runSX (As := [.ref (a 0), .int (nI 1), .int (nI n), .int (nI 3), .int (nI 2147483647), .int (nI 0)]) (rest := []) FX (w_act_gate l hfl G a ha t9 st (nI n) (nI 3) (nI 2147483647) (nI 0) hO) (vx_cwSW 6 hts gL_refuses_L_act rfl rfl rfl (by decide +kernel) ⟨Nat.le_of_ble_eq_true rfl, Nat.le_of_ble_eq_true rfl⟩) (preW hK hNW hCW (hLow.at hS (fun q9 _ q => rng_M q9 q)) (hX.at hS (fun q9 _ q => rng_M q9 q)) hNC) rfl rfl hl.1 rfl (lv_room (Nat.le_of_ble_eq_true rfl)) dL_refuses_1015 (rmx (m := 1200) (n := 7200) (by omega) (by omega)))) hS (fun q h => h) (fun r _ H locs hp hCW hk hS => ?_)
  refine lv_as (y := -7000001) (hp.2.1 hC) ?_
  rw [stN_n hC (by decide)] at hCW
  have hCW : CW G a st H := hCW
  refine lv_ldc (v := -7000001) hx hb hown (hts (.constant RL 75 (-7000001)) (List.mem_of_getElem? (i := 5) (by decide +kernel))) dL_refuses_1018 ?_
  refine lv_icmp_ne (tgt := 1182) hx hb dL_refuses_1020 (by decide) (fun c => absurd c (by decide)) (fun _ => ?_)
  refine lv_aload_n hx hb dL_refuses_1023 rfl (lv_at hl 2 rfl) ?_
  refine lv_iconst (v := nI 2) hx hb dL_refuses_1024 (by decide) ?_
  refine lv_iload hx hb dL_refuses_1025 (lv_at hl 11 rfl) ?_
  refine lv_iload hx hb dL_refuses_1027 (lv_at hl 0 rfl) ?_
  refine lv_iconst (v := nI 0) hx hb dL_refuses_1029 (by decide) ?_
  refine lv_iconst (v := nI 0) hx hb dL_refuses_1030 (by decide) ?_
  have hC : cOu st.1 (nI n) (nI 2147483647) = 1 := rc_og hgb
  refine wr_i (vx_run0 (vx_runSX (As := [.ref (a 0), .int (nI 2), .int (nI n), .int (nI 2147483647), .int (nI 0), .int (nI 0)]) (rest := []) FX (w_act_out l hfl G a ha t9 st (nI n) (nI 2147483647) (nI 0) (nI 0) hO) (vx_cwSW 6 hts gL_refuses_L_act rfl rfl rfl (by decide +kernel) ⟨Nat.le_of_ble_eq_true rfl, Nat.le_of_ble_eq_true rfl⟩) (preW hK hNW hCW (hLow.at hS (fun q9 _ q => rng_M q9 q)) (hX.at hS (fun q9 _ q => rng_M q9 q)) hNC) rfl rfl hl.1 rfl (lv_room (Nat.le_of_ble_eq_true rfl)) dL_refuses_1031 (rmx (m := 1200) (n := 7200) (by omega) (by omega)))) hS (fun q h => h) (fun r _ H locs hp hCW hk hS => ?_)
  refine lv_as (y := -7000001) (hp.2.1 hC) ?_
  rw [stN_n hC (by decide)] at hCW
  have hCW : CW G a st H := hCW
  refine lv_ldc (v := -7000001) hx hb hown (hts (.constant RL 75 (-7000001)) (List.mem_of_getElem? (i := 5) (by decide +kernel))) dL_refuses_1034 ?_
  refine lv_icmp_ne (tgt := 1182) hx hb dL_refuses_1036 (by decide) (fun c => absurd c (by decide)) (fun _ => ?_)
  refine lv_aload_n hx hb dL_refuses_1039 rfl (lv_at hl 2 rfl) ?_
  refine lv_bipush (v := nI 7) hx hb dL_refuses_1040 (by decide) ?_
  refine lv_iload hx hb dL_refuses_1042 (lv_at hl 11 rfl) ?_
  refine lv_iload hx hb dL_refuses_1044 (lv_at hl 0 rfl) ?_
  refine lv_bipush (v := nI 9) hx hb dL_refuses_1046 (by decide) ?_
  refine lv_iconst (v := nI 0) hx hb dL_refuses_1048 (by decide) ?_
  have hC : cSt st.1 (nI n) (nI 2147483647) (nI 9) = 1 := rc_sg hgb
  refine wr_i (vx_run0 (vx_runSX (As := [.ref (a 0), .int (nI 7), .int (nI n), .int (nI 2147483647), .int (nI 9), .int (nI 0)]) (rest := []) FX (w_act_stick l hfl G a ha t9 st (nI n) (nI 2147483647) (nI 9) (nI 0) hO) (vx_cwSW 6 hts gL_refuses_L_act rfl rfl rfl (by decide +kernel) ⟨Nat.le_of_ble_eq_true rfl, Nat.le_of_ble_eq_true rfl⟩) (preW hK hNW hCW (hLow.at hS (fun q9 _ q => rng_M q9 q)) (hX.at hS (fun q9 _ q => rng_M q9 q)) hNC) rfl rfl hl.1 rfl (lv_room (Nat.le_of_ble_eq_true rfl)) dL_refuses_1049 (rmx (m := 1200) (n := 7200) (by omega) (by omega)))) hS (fun q h => h) (fun r _ H locs hp hCW hk hS => ?_)
  refine lv_as (y := -7000001) (hp.2.1 hC) ?_
  rw [stN_n hC (by decide)] at hCW
  have hCW : CW G a st H := hCW
  refine lv_ldc (v := -7000001) hx hb hown (hts (.constant RL 75 (-7000001)) (List.mem_of_getElem? (i := 5) (by decide +kernel))) dL_refuses_1052 ?_
  refine lv_icmp_ne (tgt := 1182) hx hb dL_refuses_1054 (by decide) (fun c => absurd c (by decide)) (fun _ => ?_)
  refine lv_aload_n hx hb dL_refuses_1057 rfl (lv_at hl 2 rfl) ?_
  refine lv_bipush (v := nI 8) hx hb dL_refuses_1058 (by decide) ?_
  refine lv_iload hx hb dL_refuses_1060 (lv_at hl 11 rfl) ?_
  refine lv_iload hx hb dL_refuses_1062 (lv_at hl 0 rfl) ?_
  refine lv_iconst (v := -1) hx hb dL_refuses_1064 (by decide) ?_
  refine lv_iconst (v := nI 0) hx hb dL_refuses_1065 (by decide) ?_
  have hC : cBi st.1 (nI n) (nI 2147483647) (-1) = 1 := rc_bg hgb
  refine wr_i (vx_run0 (vx_runSX (As := [.ref (a 0), .int (nI 8), .int (nI n), .int (nI 2147483647), .int (-1), .int (nI 0)]) (rest := []) FX (w_act_bit l hfl G a ha t9 st (nI n) (nI 2147483647) (-1) (nI 0) hO) (vx_cwSW 6 hts gL_refuses_L_act rfl rfl rfl (by decide +kernel) ⟨Nat.le_of_ble_eq_true rfl, Nat.le_of_ble_eq_true rfl⟩) (preW hK hNW hCW (hLow.at hS (fun q9 _ q => rng_M q9 q)) (hX.at hS (fun q9 _ q => rng_M q9 q)) hNC) rfl rfl hl.1 rfl (lv_room (Nat.le_of_ble_eq_true rfl)) dL_refuses_1066 (rmx (m := 1200) (n := 7200) (by omega) (by omega)))) hS (fun q h => h) (fun r _ H locs hp hCW hk hS => ?_)
  refine lv_as (y := -7000001) (hp.2.1 hC) ?_
  have hCW : CW G a st H := hCW
  refine lv_ldc (v := -7000001) hx hb hown (hts (.constant RL 75 (-7000001)) (List.mem_of_getElem? (i := 5) (by decide +kernel))) dL_refuses_1069 ?_
  refine lv_icmp_ne (tgt := 1182) hx hb dL_refuses_1071 (by decide) (fun c => absurd c (by decide)) (fun _ => ?_)
  refine lv_aload_n hx hb dL_refuses_1074 rfl (lv_at hl 2 rfl) ?_
  refine lv_bipush (v := nI 12) hx hb dL_refuses_1075 (by decide) ?_
  refine lv_iload hx hb dL_refuses_1077 (lv_at hl 11 rfl) ?_
  refine lv_iload hx hb dL_refuses_1079 (lv_at hl 0 rfl) ?_
  refine lv_iconst (v := nI 0) hx hb dL_refuses_1081 (by decide) ?_
  refine lv_iconst (v := nI 0) hx hb dL_refuses_1082 (by decide) ?_
  have hC : cTi st.1 (nI n) (nI 2147483647) = 1 := rc_tg hgb
  refine wr_i (vx_run0 (vx_runSX (As := [.ref (a 0), .int (nI 12), .int (nI n), .int (nI 2147483647), .int (nI 0), .int (nI 0)]) (rest := []) FX (w_act_time l hfl G a ha t9 st (nI n) (nI 2147483647) (nI 0) (nI 0) hO) (vx_cwSW 6 hts gL_refuses_L_act rfl rfl rfl (by decide +kernel) ⟨Nat.le_of_ble_eq_true rfl, Nat.le_of_ble_eq_true rfl⟩) (preW hK hNW hCW (hLow.at hS (fun q9 _ q => rng_M q9 q)) (hX.at hS (fun q9 _ q => rng_M q9 q)) hNC) rfl rfl hl.1 rfl (lv_room (Nat.le_of_ble_eq_true rfl)) dL_refuses_1083 (rmx (m := 1200) (n := 7200) (by omega) (by omega)))) hS (fun q h => h) (fun r _ H locs hp hCW hk hS => ?_)
  refine lv_as (y := -7000001) (hp.2.1 hC) ?_
  have hCW : CW G a st H := hCW
  refine lv_ldc (v := -7000001) hx hb hown (hts (.constant RL 75 (-7000001)) (List.mem_of_getElem? (i := 5) (by decide +kernel))) dL_refuses_1086 ?_
  refine lv_icmp_ne (tgt := 1182) hx hb dL_refuses_1088 (by decide) (fun c => absurd c (by decide)) (fun _ => ?_)
  refine lv_iload hx hb dL_refuses_1091 (lv_at hl 1 rfl) ?_
  refine lv_if_eq (tgt := 1178) hx hb dL_refuses_1093 (by decide) (fun _ => ?_) (fun c9 => ?_)
  · skip
    refine lv_iconst (v := nI 1) hx hb dL_refuses_1178 (by decide) ?_
    refine lv_goto (tgt := 1183) hx hb dL_refuses_1179 (by decide) ?_
    refine lv_istore (lv' := [(8, .int (nI 1)), (11, .int (nI 2147483647)), (10, .int (nI (nG (st.1 n)))), (0, .ref (a 0)), (1, .int (nI 2147483647)), (2, .int bf), (3, .int (nI 2)), (4, .int (nI 2147483647)), (5, .int (nI 2147483647)), (6, .int (nI 2147483647)), (7, .int (-1)), (9, .int (nI n))]) hx hb dL_refuses_1183 hl (by decide) rfl (fun ls hl => ?_)
    refine lv_iinc (v := nI (n + 1)) (lv' := [(9, .int (nI (n + 1))), (8, .int (nI 1)), (11, .int (nI 2147483647)), (10, .int (nI (nG (st.1 n)))), (0, .ref (a 0)), (1, .int (nI 2147483647)), (2, .int bf), (3, .int (nI 2)), (4, .int (nI 2147483647)), (5, .int (nI 2147483647)), (6, .int (nI 2147483647)), (7, .int (-1))]) hx hb dL_refuses_1185 hl (k := 11) rfl (nI_add _ 1) (by decide) rfl (fun ls hl => ?_)
    refine lv_goto (tgt := 941) hx hb dL_refuses_1188 (by decide) ?_
    exact wid (by omega) (by omega) (K _ _ _ hS hCW hl)
  have hg0 : ¬ nG (st.1 (ix (nI n))) = 0 := by rw [e4]; exact fun h => c9 (by rw [h]; rfl)
  have hg1 : inBd (nI 0) (nG (st.1 (ix (nI n)))) := bd4 (Nat.pos_of_ne_zero hg0) (by rw [e4]; omega)
  refine lv_aload_n hx hb dL_refuses_1096 rfl (lv_at hl 2 rfl) ?_
  refine lv_bipush (v := nI 7) hx hb dL_refuses_1097 (by decide) ?_
  refine lv_iload hx hb dL_refuses_1099 (lv_at hl 11 rfl) ?_
  refine lv_iconst (v := nI 0) hx hb dL_refuses_1101 (by decide) ?_
  refine lv_iload_n hx hb dL_refuses_1102 rfl (lv_at hl 5 rfl) ?_
  refine lv_if_ne (tgt := 1111) hx hb dL_refuses_1103 (by decide) (fun _ => ?_) (fun c => absurd c (by decide))
  refine lv_iload_n hx hb dL_refuses_1111 rfl (lv_at hl 5 rfl) ?_
  refine lv_iconst (v := nI 1) hx hb dL_refuses_1112 (by decide) ?_
  refine lv_icmp_ne (tgt := 1120) hx hb dL_refuses_1113 (by decide) (fun _ => ?_) (fun c => absurd c (by decide))
  refine lv_iload hx hb dL_refuses_1120 (lv_at hl 6 rfl) ?_
  refine lv_iconst (v := nI 0) hx hb dL_refuses_1122 (by decide) ?_
  have hC : cSt st.1 (nI n) (nI 0) (nI 2147483647) = 2 := rc_sb hn4 hg1 (by decide)
  refine wr_i (vx_run0 (vx_runSX (As := [.ref (a 0), .int (nI 7), .int (nI n), .int (nI 0), .int (nI 2147483647), .int (nI 0)]) (rest := []) FX (w_act_stick l hfl G a ha t9 st (nI n) (nI 0) (nI 2147483647) (nI 0) hO) (vx_cwSW 6 hts gL_refuses_L_act rfl rfl rfl (by decide +kernel) ⟨Nat.le_of_ble_eq_true rfl, Nat.le_of_ble_eq_true rfl⟩) (preW hK hNW hCW (hLow.at hS (fun q9 _ q => rng_M q9 q)) (hX.at hS (fun q9 _ q => rng_M q9 q)) hNC) rfl rfl hl.1 rfl (lv_room (Nat.le_of_ble_eq_true rfl)) dL_refuses_1123 (rmx (m := 1200) (n := 7200) (by omega) (by omega)))) hS (fun q h => h) (fun r _ H locs hp hCW hk hS => ?_)
  refine lv_as (y := -7000002) (hp.2.2.1 hC) ?_
  rw [stN_n hC (by decide)] at hCW
  have hCW : CW G a st H := hCW
  refine lv_ldc (v := -7000002) hx hb hown (hts (.constant RL 78 (-7000002)) (List.mem_of_getElem? (i := 6) (by decide +kernel))) dL_refuses_1126 ?_
  refine lv_icmp_ne (tgt := 1182) hx hb dL_refuses_1128 (by decide) (fun c => absurd c (by decide)) (fun _ => ?_)
  refine lv_aload_n hx hb dL_refuses_1131 rfl (lv_at hl 2 rfl) ?_
  refine lv_bipush (v := nI 8) hx hb dL_refuses_1132 (by decide) ?_
  refine lv_iload hx hb dL_refuses_1134 (lv_at hl 11 rfl) ?_
  refine lv_iconst (v := nI 0) hx hb dL_refuses_1136 (by decide) ?_
  refine lv_iload hx hb dL_refuses_1137 (lv_at hl 8 rfl) ?_
  refine lv_iconst (v := nI 0) hx hb dL_refuses_1139 (by decide) ?_
  have hC : cBi st.1 (nI n) (nI 0) (nI 2147483647) = 2 := rc_bx hn4 hg1 (by decide)
  refine wr_i (vx_run0 (vx_runSX (As := [.ref (a 0), .int (nI 8), .int (nI n), .int (nI 0), .int (nI 2147483647), .int (nI 0)]) (rest := []) FX (w_act_bit l hfl G a ha t9 st (nI n) (nI 0) (nI 2147483647) (nI 0) hO) (vx_cwSW 6 hts gL_refuses_L_act rfl rfl rfl (by decide +kernel) ⟨Nat.le_of_ble_eq_true rfl, Nat.le_of_ble_eq_true rfl⟩) (preW hK hNW hCW (hLow.at hS (fun q9 _ q => rng_M q9 q)) (hX.at hS (fun q9 _ q => rng_M q9 q)) hNC) rfl rfl hl.1 rfl (lv_room (Nat.le_of_ble_eq_true rfl)) dL_refuses_1140 (rmx (m := 1200) (n := 7200) (by omega) (by omega)))) hS (fun q h => h) (fun r _ H locs hp hCW hk hS => ?_)
  refine lv_as (y := -7000002) (hp.2.2.1 hC) ?_
  have hCW : CW G a st H := hCW
  refine lv_ldc (v := -7000002) hx hb hown (hts (.constant RL 78 (-7000002)) (List.mem_of_getElem? (i := 6) (by decide +kernel))) dL_refuses_1143 ?_
  refine lv_icmp_ne (tgt := 1182) hx hb dL_refuses_1145 (by decide) (fun c => absurd c (by decide)) (fun _ => ?_)
  refine lv_aload_n hx hb dL_refuses_1148 rfl (lv_at hl 2 rfl) ?_
  refine lv_iconst (v := nI 3) hx hb dL_refuses_1149 (by decide) ?_
  refine lv_iload hx hb dL_refuses_1150 (lv_at hl 11 rfl) ?_
  refine lv_iconst (v := nI 0) hx hb dL_refuses_1152 (by decide) ?_
  refine lv_iconst (v := nI 1) hx hb dL_refuses_1153 (by decide) ?_
  refine lv_iconst (v := nI 0) hx hb dL_refuses_1154 (by decide) ?_
  have hC : cAd st.1 (nI n) (nI 0) (nI 1) = 3 := rc_an hn4 (by decide) (by decide) hg0
  refine wr_i (vx_run0 (vx_runSX (As := [.ref (a 0), .int (nI 3), .int (nI n), .int (nI 0), .int (nI 1), .int (nI 0)]) (rest := []) FX (w_act_adder l hfl G a ha t9 st (nI n) (nI 0) (nI 1) (nI 0) hO) (vx_cwSW 6 hts gL_refuses_L_act rfl rfl rfl (by decide +kernel) ⟨Nat.le_of_ble_eq_true rfl, Nat.le_of_ble_eq_true rfl⟩) (preW hK hNW hCW (hLow.at hS (fun q9 _ q => rng_M q9 q)) (hX.at hS (fun q9 _ q => rng_M q9 q)) hNC) rfl rfl hl.1 rfl (lv_room (Nat.le_of_ble_eq_true rfl)) dL_refuses_1155 (rmx (m := 1200) (n := 7200) (by omega) (by omega)))) hS (fun q h => h) (fun r _ H locs hp hCW hk hS => ?_)
  refine lv_as (y := -7000003) (hp.2.2.2 hC) ?_
  rw [stN_n hC (by decide)] at hCW
  have hCW : CW G a st H := hCW
  refine lv_ldc (v := -7000003) hx hb hown (hts (.constant RL 81 (-7000003)) (List.mem_of_getElem? (i := 7) (by decide +kernel))) dL_refuses_1158 ?_
  refine lv_icmp_ne (tgt := 1182) hx hb dL_refuses_1160 (by decide) (fun c => absurd c (by decide)) (fun _ => ?_)
  refine lv_aload_n hx hb dL_refuses_1163 rfl (lv_at hl 2 rfl) ?_
  refine lv_iconst (v := nI 4) hx hb dL_refuses_1164 (by decide) ?_
  refine lv_iload hx hb dL_refuses_1165 (lv_at hl 11 rfl) ?_
  refine lv_iconst (v := nI 1) hx hb dL_refuses_1167 (by decide) ?_
  refine lv_iconst (v := nI 0) hx hb dL_refuses_1168 (by decide) ?_
  refine lv_iconst (v := nI 0) hx hb dL_refuses_1169 (by decide) ?_
  have hC : cMu st.1 (nI n) (nI 1) = 3 := rc_mn hn4 (by decide) hg0
  refine wr_i (vx_run0 (vx_runSX (As := [.ref (a 0), .int (nI 4), .int (nI n), .int (nI 1), .int (nI 0), .int (nI 0)]) (rest := []) FX (w_act_multiplier l hfl G a ha t9 st (nI n) (nI 1) (nI 0) (nI 0) hO) (vx_cwSW 6 hts gL_refuses_L_act rfl rfl rfl (by decide +kernel) ⟨Nat.le_of_ble_eq_true rfl, Nat.le_of_ble_eq_true rfl⟩) (preW hK hNW hCW (hLow.at hS (fun q9 _ q => rng_M q9 q)) (hX.at hS (fun q9 _ q => rng_M q9 q)) hNC) rfl rfl hl.1 rfl (lv_room (Nat.le_of_ble_eq_true rfl)) dL_refuses_1170 (rmx (m := 1200) (n := 7200) (by omega) (by omega)))) hS (fun q h => h) (fun r _ H locs hp hCW hk hS => ?_)
  refine lv_as (y := -7000003) (hp.2.2.2 hC) ?_
  rw [stN_n hC (by decide)] at hCW
  have hCW : CW G a st H := hCW
  refine lv_ldc (v := -7000003) hx hb hown (hts (.constant RL 81 (-7000003)) (List.mem_of_getElem? (i := 7) (by decide +kernel))) dL_refuses_1173 ?_
  refine lv_icmp_ne (tgt := 1182) hx hb dL_refuses_1175 (by decide) (fun c => absurd c (by decide)) (fun _ => ?_)
  refine lv_iconst (v := nI 1) hx hb dL_refuses_1178 (by decide) ?_
  refine lv_goto (tgt := 1183) hx hb dL_refuses_1179 (by decide) ?_
  refine lv_istore (lv' := [(8, .int (nI 1)), (11, .int (nI 2147483647)), (10, .int (nI (nG (st.1 n)))), (0, .ref (a 0)), (1, .int (nI 2147483647)), (2, .int bf), (3, .int (nI 2)), (4, .int (nI 2147483647)), (5, .int (nI 2147483647)), (6, .int (nI 2147483647)), (7, .int (-1)), (9, .int (nI n))]) hx hb dL_refuses_1183 hl (by decide) rfl (fun ls hl => ?_)
  refine lv_iinc (v := nI (n + 1)) (lv' := [(9, .int (nI (n + 1))), (8, .int (nI 1)), (11, .int (nI 2147483647)), (10, .int (nI (nG (st.1 n)))), (0, .ref (a 0)), (1, .int (nI 2147483647)), (2, .int bf), (3, .int (nI 2)), (4, .int (nI 2147483647)), (5, .int (nI 2147483647)), (6, .int (nI 2147483647)), (7, .int (-1))]) hx hb dL_refuses_1185 hl (k := 11) rfl (nI_add _ 1) (by decide) rfl (fun ls hl => ?_)
  refine lv_goto (tgt := 941) hx hb dL_refuses_1188 (by decide) ?_
  exact wid (by omega) (by omega) (K _ _ _ hS hCW hl)
set_option maxHeartbeats 4000000 in
set_option maxRecDepth 100000 in
theorem rf_N3 {p : Program} {l : Launch} {e : Env} {s : State} {m : MethodId} {args : Array Value} {below : List Frame} {meth : Method} {c : Code} {Q : State → Prop} {G : GG} {a : Nat → Nat} {t9 : Nat} (J : LJ p l s m meth c args cL_refuses (some .boolean) 12 wsL_refuses G a t9) {st : ST} (hO : OKS st) {bf : Int32} {n : Nat} (hn : n < 4) (c0 s0 : Nat) (hc : c0 + 41 ≤ 1200) (hs : s0 + 246 ≤ 7200) {H : Heap} {locs : List Loc} {ls : Array Slot} (hS : va_S (rng a 0 93) s.heap H locs) (hCW : CW G a st H) (hl : lv_has ls 12 [(0, .ref (a 0)), (1, .int (nI 2147483647)), (2, .int bf), (3, .int (nI 3)), (4, .int (-2147483648)), (5, .int (-2147483648)), (6, .int (-2147483648)), (7, .int (-2147483648)), (8, .int (nI 1)), (9, .int (nI n))]) (K : ∀ (H : Heap) (locs : List Loc) (ls : Array Slot), va_S (rng a 0 93) s.heap H locs → CW G a st H → lv_has ls 12 [(9, .int (nI (n + 1))), (8, .int (nI 1)), (11, .int (-2147483648)), (10, .int (nI (nG (st.1 n)))), (0, .ref (a 0)), (1, .int (nI 2147483647)), (2, .int bf), (3, .int (nI 3)), (4, .int (-2147483648)), (5, .int (-2147483648)), (6, .int (-2147483648)), (7, .int (-2147483648))] → W p l e ({ frames := 10, cells := 1200, slots := 7200, locals := 194 } : Room) s m args below meth c H locs (c0 + 41) (s0 + 246) Q (F0 m 941 ls [])) : W p l e ({ frames := 10, cells := 1200, slots := 7200, locals := 194 } : Room) s m args below meth c H locs c0 s0 Q (F0 m 941 ls []) := by
  obtain ⟨hfl, hx, hb, hr, hml, hown, hts, hlocks, ha, hK, hNW, hLow, hX, hNC⟩ := J
  have FX : CallFix p m c cL_refuses 12 s args wsL_refuses RL := ⟨hx, hb, hml, hown, hts⟩
  have hG := (hO.1 n hn).g
  have e4 : ix (nI n) = n := ix_nI (by omega)
  have hn4 : inBd (nI n) 4 := bd4 hn (by omega)
  have hgb : ¬ inBd (-2147483648) (nG (st.1 (ix (nI n)))) := fun h => h.1 (by decide)
  refine lv_iload hx hb dL_refuses_941 (lv_at hl 9 rfl) ?_
  refine lv_iconst (v := nI 4) hx hb dL_refuses_943 (by decide) ?_
  refine lv_icmp_ge (tgt := 1191) hx hb dL_refuses_944 (by decide) (fun c => absurd (cv_le (by omega) (by omega) c) (by omega)) (fun _ => ?_)
  refine lv_iload hx hb dL_refuses_947 (lv_at hl 8 rfl) ?_
  refine lv_if_eq (tgt := 1191) hx hb dL_refuses_949 (by decide) (fun c => absurd c (by decide)) (fun _ => ?_)
  refine lv_aload_n hx hb dL_refuses_952 rfl (lv_at hl 0 rfl) ?_
  refine lv_iload hx hb dL_refuses_953 (lv_at hl 9 rfl) ?_
  refine lv_iconst (v := nI 0) hx hb dL_refuses_955 (by decide) ?_
  refine wr_i (va_runV (As := [.int (nI n), .int (nI 0)]) (rest := []) FX (n_ofNet l hfl G a ha t9 st n 0 hO hn (by decide)) (cwV 2 hts gL_refuses_X11_ofNet rfl rfl rfl (by decide +kernel) ⟨Nat.le_of_ble_eq_true rfl, Nat.le_of_ble_eq_true rfl⟩) (preVX hK hNW hCW (hLow.at hS (fun q9 _ q => rng_M q9 q)) (hX.at hS (fun q9 _ q => rng_M q9 q)) (cw_recv hK hCW)) rfl rfl hl.1 rfl (lv_room (Nat.le_of_ble_eq_true rfl)) dL_refuses_956 (rmx (m := 1200) (n := 7200) (by omega) (by omega))) hS (fun q h => h) (fun r _ H locs hp hCW hk hS => ?_)
  refine lv_as (y := nI (nG (st.1 n))) (hp.trans (of_0 rfl)) ?_
  refine lv_istore (lv' := [(10, .int (nI (nG (st.1 n)))), (0, .ref (a 0)), (1, .int (nI 2147483647)), (2, .int bf), (3, .int (nI 3)), (4, .int (-2147483648)), (5, .int (-2147483648)), (6, .int (-2147483648)), (7, .int (-2147483648)), (8, .int (nI 1)), (9, .int (nI n))]) hx hb dL_refuses_959 hl (by decide) rfl (fun ls hl => ?_)
  refine lv_iload_n hx hb dL_refuses_961 rfl (lv_at hl 4 rfl) ?_
  refine lv_iconst (v := nI 1) hx hb dL_refuses_962 (by decide) ?_
  refine lv_icmp_ne (tgt := 971) hx hb dL_refuses_963 (by decide) (fun _ => ?_) (fun c => absurd c (by decide))
  refine lv_iload hx hb dL_refuses_971 (lv_at hl 5 rfl) ?_
  refine lv_istore (lv' := [(11, .int (-2147483648)), (10, .int (nI (nG (st.1 n)))), (0, .ref (a 0)), (1, .int (nI 2147483647)), (2, .int bf), (3, .int (nI 3)), (4, .int (-2147483648)), (5, .int (-2147483648)), (6, .int (-2147483648)), (7, .int (-2147483648)), (8, .int (nI 1)), (9, .int (nI n))]) hx hb dL_refuses_973 hl (by decide) rfl (fun ls hl => ?_)
  refine lv_aload_n hx hb dL_refuses_975 rfl (lv_at hl 2 rfl) ?_
  refine lv_iconst (v := nI 1) hx hb dL_refuses_976 (by decide) ?_
  refine lv_iload hx hb dL_refuses_977 (lv_at hl 11 rfl) ?_
  refine lv_iconst (v := nI 0) hx hb dL_refuses_979 (by decide) ?_
  refine lv_iload hx hb dL_refuses_980 (lv_at hl 0 rfl) ?_
  refine lv_iconst (v := nI 0) hx hb dL_refuses_982 (by decide) ?_
  have hC : cGa st.1 (nI n) (nI 0) (-2147483648) (nI 0) = 1 := rc_gf hgb
  refine wr_i (vx_run0 (vx_runSX (As := [.ref (a 0), .int (nI 1), .int (nI n), .int (nI 0), .int (-2147483648), .int (nI 0)]) (rest := []) FX (w_act_gate l hfl G a ha t9 st (nI n) (nI 0) (-2147483648) (nI 0) hO) (vx_cwSW 6 hts gL_refuses_L_act rfl rfl rfl (by decide +kernel) ⟨Nat.le_of_ble_eq_true rfl, Nat.le_of_ble_eq_true rfl⟩) (preW hK hNW hCW (hLow.at hS (fun q9 _ q => rng_M q9 q)) (hX.at hS (fun q9 _ q => rng_M q9 q)) hNC) rfl rfl hl.1 rfl (lv_room (Nat.le_of_ble_eq_true rfl)) dL_refuses_983 (rmx (m := 1200) (n := 7200) (by omega) (by omega)))) hS (fun q h => h) (fun r _ H locs hp hCW hk hS => ?_)
  refine lv_as (y := -7000001) (hp.2.1 hC) ?_
  rw [stN_n hC (by decide)] at hCW
  have hCW : CW G a st H := hCW
  refine lv_ldc (v := -7000001) hx hb hown (hts (.constant RL 75 (-7000001)) (List.mem_of_getElem? (i := 5) (by decide +kernel))) dL_refuses_986 ?_
  refine lv_icmp_ne (tgt := 1182) hx hb dL_refuses_988 (by decide) (fun c => absurd c (by decide)) (fun _ => ?_)
  refine lv_aload_n hx hb dL_refuses_991 rfl (lv_at hl 2 rfl) ?_
  refine lv_iconst (v := nI 1) hx hb dL_refuses_992 (by decide) ?_
  refine lv_iload hx hb dL_refuses_993 (lv_at hl 11 rfl) ?_
  refine lv_iconst (v := nI 0) hx hb dL_refuses_995 (by decide) ?_
  refine lv_iconst (v := nI 0) hx hb dL_refuses_996 (by decide) ?_
  refine lv_iload hx hb dL_refuses_997 (lv_at hl 0 rfl) ?_
  have hC : cGa st.1 (nI n) (nI 0) (nI 0) (-2147483648) = 1 := rc_gs (by decide) hgb
  refine wr_i (vx_run0 (vx_runSX (As := [.ref (a 0), .int (nI 1), .int (nI n), .int (nI 0), .int (nI 0), .int (-2147483648)]) (rest := []) FX (w_act_gate l hfl G a ha t9 st (nI n) (nI 0) (nI 0) (-2147483648) hO) (vx_cwSW 6 hts gL_refuses_L_act rfl rfl rfl (by decide +kernel) ⟨Nat.le_of_ble_eq_true rfl, Nat.le_of_ble_eq_true rfl⟩) (preW hK hNW hCW (hLow.at hS (fun q9 _ q => rng_M q9 q)) (hX.at hS (fun q9 _ q => rng_M q9 q)) hNC) rfl rfl hl.1 rfl (lv_room (Nat.le_of_ble_eq_true rfl)) dL_refuses_999 (rmx (m := 1200) (n := 7200) (by omega) (by omega)))) hS (fun q h => h) (fun r _ H locs hp hCW hk hS => ?_)
  refine lv_as (y := -7000001) (hp.2.1 hC) ?_
  rw [stN_n hC (by decide)] at hCW
  have hCW : CW G a st H := hCW
  refine lv_ldc (v := -7000001) hx hb hown (hts (.constant RL 75 (-7000001)) (List.mem_of_getElem? (i := 5) (by decide +kernel))) dL_refuses_1002 ?_
  refine lv_icmp_ne (tgt := 1182) hx hb dL_refuses_1004 (by decide) (fun c => absurd c (by decide)) (fun _ => ?_)
  refine lv_aload_n hx hb dL_refuses_1007 rfl (lv_at hl 2 rfl) ?_
  refine lv_iconst (v := nI 1) hx hb dL_refuses_1008 (by decide) ?_
  refine lv_iload hx hb dL_refuses_1009 (lv_at hl 11 rfl) ?_
  refine lv_iconst (v := nI 3) hx hb dL_refuses_1011 (by decide) ?_
  refine lv_iload hx hb dL_refuses_1012 (lv_at hl 0 rfl) ?_
  refine lv_iconst (v := nI 0) hx hb dL_refuses_1014 (by decide) ?_
  have hC : cGa st.1 (nI n) (nI 3) (-2147483648) (nI 0) = 1 := rc_gf hgb
  refine wr_i (vx_run0 (vx_runSX (As := [.ref (a 0), .int (nI 1), .int (nI n), .int (nI 3), .int (-2147483648), .int (nI 0)]) (rest := []) FX (w_act_gate l hfl G a ha t9 st (nI n) (nI 3) (-2147483648) (nI 0) hO) (vx_cwSW 6 hts gL_refuses_L_act rfl rfl rfl (by decide +kernel) ⟨Nat.le_of_ble_eq_true rfl, Nat.le_of_ble_eq_true rfl⟩) (preW hK hNW hCW (hLow.at hS (fun q9 _ q => rng_M q9 q)) (hX.at hS (fun q9 _ q => rng_M q9 q)) hNC) rfl rfl hl.1 rfl (lv_room (Nat.le_of_ble_eq_true rfl)) dL_refuses_1015 (rmx (m := 1200) (n := 7200) (by omega) (by omega)))) hS (fun q h => h) (fun r _ H locs hp hCW hk hS => ?_)
  refine lv_as (y := -7000001) (hp.2.1 hC) ?_
  rw [stN_n hC (by decide)] at hCW
  have hCW : CW G a st H := hCW
  refine lv_ldc (v := -7000001) hx hb hown (hts (.constant RL 75 (-7000001)) (List.mem_of_getElem? (i := 5) (by decide +kernel))) dL_refuses_1018 ?_
  refine lv_icmp_ne (tgt := 1182) hx hb dL_refuses_1020 (by decide) (fun c => absurd c (by decide)) (fun _ => ?_)
  refine lv_aload_n hx hb dL_refuses_1023 rfl (lv_at hl 2 rfl) ?_
  refine lv_iconst (v := nI 2) hx hb dL_refuses_1024 (by decide) ?_
  refine lv_iload hx hb dL_refuses_1025 (lv_at hl 11 rfl) ?_
  refine lv_iload hx hb dL_refuses_1027 (lv_at hl 0 rfl) ?_
  refine lv_iconst (v := nI 0) hx hb dL_refuses_1029 (by decide) ?_
  refine lv_iconst (v := nI 0) hx hb dL_refuses_1030 (by decide) ?_
  have hC : cOu st.1 (nI n) (-2147483648) = 1 := rc_og hgb
  refine wr_i (vx_run0 (vx_runSX (As := [.ref (a 0), .int (nI 2), .int (nI n), .int (-2147483648), .int (nI 0), .int (nI 0)]) (rest := []) FX (w_act_out l hfl G a ha t9 st (nI n) (-2147483648) (nI 0) (nI 0) hO) (vx_cwSW 6 hts gL_refuses_L_act rfl rfl rfl (by decide +kernel) ⟨Nat.le_of_ble_eq_true rfl, Nat.le_of_ble_eq_true rfl⟩) (preW hK hNW hCW (hLow.at hS (fun q9 _ q => rng_M q9 q)) (hX.at hS (fun q9 _ q => rng_M q9 q)) hNC) rfl rfl hl.1 rfl (lv_room (Nat.le_of_ble_eq_true rfl)) dL_refuses_1031 (rmx (m := 1200) (n := 7200) (by omega) (by omega)))) hS (fun q h => h) (fun r _ H locs hp hCW hk hS => ?_)
  refine lv_as (y := -7000001) (hp.2.1 hC) ?_
  rw [stN_n hC (by decide)] at hCW
  have hCW : CW G a st H := hCW
  refine lv_ldc (v := -7000001) hx hb hown (hts (.constant RL 75 (-7000001)) (List.mem_of_getElem? (i := 5) (by decide +kernel))) dL_refuses_1034 ?_
  refine lv_icmp_ne (tgt := 1182) hx hb dL_refuses_1036 (by decide) (fun c => absurd c (by decide)) (fun _ => ?_)
  refine lv_aload_n hx hb dL_refuses_1039 rfl (lv_at hl 2 rfl) ?_
  refine lv_bipush (v := nI 7) hx hb dL_refuses_1040 (by decide) ?_
  refine lv_iload hx hb dL_refuses_1042 (lv_at hl 11 rfl) ?_
  refine lv_iload hx hb dL_refuses_1044 (lv_at hl 0 rfl) ?_
  refine lv_bipush (v := nI 9) hx hb dL_refuses_1046 (by decide) ?_
  refine lv_iconst (v := nI 0) hx hb dL_refuses_1048 (by decide) ?_
  have hC : cSt st.1 (nI n) (-2147483648) (nI 9) = 1 := rc_sg hgb
  refine wr_i (vx_run0 (vx_runSX (As := [.ref (a 0), .int (nI 7), .int (nI n), .int (-2147483648), .int (nI 9), .int (nI 0)]) (rest := []) FX (w_act_stick l hfl G a ha t9 st (nI n) (-2147483648) (nI 9) (nI 0) hO) (vx_cwSW 6 hts gL_refuses_L_act rfl rfl rfl (by decide +kernel) ⟨Nat.le_of_ble_eq_true rfl, Nat.le_of_ble_eq_true rfl⟩) (preW hK hNW hCW (hLow.at hS (fun q9 _ q => rng_M q9 q)) (hX.at hS (fun q9 _ q => rng_M q9 q)) hNC) rfl rfl hl.1 rfl (lv_room (Nat.le_of_ble_eq_true rfl)) dL_refuses_1049 (rmx (m := 1200) (n := 7200) (by omega) (by omega)))) hS (fun q h => h) (fun r _ H locs hp hCW hk hS => ?_)
  refine lv_as (y := -7000001) (hp.2.1 hC) ?_
  rw [stN_n hC (by decide)] at hCW
  have hCW : CW G a st H := hCW
  refine lv_ldc (v := -7000001) hx hb hown (hts (.constant RL 75 (-7000001)) (List.mem_of_getElem? (i := 5) (by decide +kernel))) dL_refuses_1052 ?_
  refine lv_icmp_ne (tgt := 1182) hx hb dL_refuses_1054 (by decide) (fun c => absurd c (by decide)) (fun _ => ?_)
  refine lv_aload_n hx hb dL_refuses_1057 rfl (lv_at hl 2 rfl) ?_
  refine lv_bipush (v := nI 8) hx hb dL_refuses_1058 (by decide) ?_
  refine lv_iload hx hb dL_refuses_1060 (lv_at hl 11 rfl) ?_
  refine lv_iload hx hb dL_refuses_1062 (lv_at hl 0 rfl) ?_
  refine lv_iconst (v := -1) hx hb dL_refuses_1064 (by decide) ?_
  refine lv_iconst (v := nI 0) hx hb dL_refuses_1065 (by decide) ?_
  have hC : cBi st.1 (nI n) (-2147483648) (-1) = 1 := rc_bg hgb
  refine wr_i (vx_run0 (vx_runSX (As := [.ref (a 0), .int (nI 8), .int (nI n), .int (-2147483648), .int (-1), .int (nI 0)]) (rest := []) FX (w_act_bit l hfl G a ha t9 st (nI n) (-2147483648) (-1) (nI 0) hO) (vx_cwSW 6 hts gL_refuses_L_act rfl rfl rfl (by decide +kernel) ⟨Nat.le_of_ble_eq_true rfl, Nat.le_of_ble_eq_true rfl⟩) (preW hK hNW hCW (hLow.at hS (fun q9 _ q => rng_M q9 q)) (hX.at hS (fun q9 _ q => rng_M q9 q)) hNC) rfl rfl hl.1 rfl (lv_room (Nat.le_of_ble_eq_true rfl)) dL_refuses_1066 (rmx (m := 1200) (n := 7200) (by omega) (by omega)))) hS (fun q h => h) (fun r _ H locs hp hCW hk hS => ?_)
  refine lv_as (y := -7000001) (hp.2.1 hC) ?_
  have hCW : CW G a st H := hCW
  refine lv_ldc (v := -7000001) hx hb hown (hts (.constant RL 75 (-7000001)) (List.mem_of_getElem? (i := 5) (by decide +kernel))) dL_refuses_1069 ?_
  refine lv_icmp_ne (tgt := 1182) hx hb dL_refuses_1071 (by decide) (fun c => absurd c (by decide)) (fun _ => ?_)
  refine lv_aload_n hx hb dL_refuses_1074 rfl (lv_at hl 2 rfl) ?_
  refine lv_bipush (v := nI 12) hx hb dL_refuses_1075 (by decide) ?_
  refine lv_iload hx hb dL_refuses_1077 (lv_at hl 11 rfl) ?_
  refine lv_iload hx hb dL_refuses_1079 (lv_at hl 0 rfl) ?_
  refine lv_iconst (v := nI 0) hx hb dL_refuses_1081 (by decide) ?_
  refine lv_iconst (v := nI 0) hx hb dL_refuses_1082 (by decide) ?_
  have hC : cTi st.1 (nI n) (-2147483648) = 1 := rc_tg hgb
  refine wr_i (vx_run0 (vx_runSX (As := [.ref (a 0), .int (nI 12), .int (nI n), .int (-2147483648), .int (nI 0), .int (nI 0)]) (rest := []) FX (w_act_time l hfl G a ha t9 st (nI n) (-2147483648) (nI 0) (nI 0) hO) (vx_cwSW 6 hts gL_refuses_L_act rfl rfl rfl (by decide +kernel) ⟨Nat.le_of_ble_eq_true rfl, Nat.le_of_ble_eq_true rfl⟩) (preW hK hNW hCW (hLow.at hS (fun q9 _ q => rng_M q9 q)) (hX.at hS (fun q9 _ q => rng_M q9 q)) hNC) rfl rfl hl.1 rfl (lv_room (Nat.le_of_ble_eq_true rfl)) dL_refuses_1083 (rmx (m := 1200) (n := 7200) (by omega) (by omega)))) hS (fun q h => h) (fun r _ H locs hp hCW hk hS => ?_)
  refine lv_as (y := -7000001) (hp.2.1 hC) ?_
  have hCW : CW G a st H := hCW
  refine lv_ldc (v := -7000001) hx hb hown (hts (.constant RL 75 (-7000001)) (List.mem_of_getElem? (i := 5) (by decide +kernel))) dL_refuses_1086 ?_
  refine lv_icmp_ne (tgt := 1182) hx hb dL_refuses_1088 (by decide) (fun c => absurd c (by decide)) (fun _ => ?_)
  refine lv_iload hx hb dL_refuses_1091 (lv_at hl 1 rfl) ?_
  refine lv_if_eq (tgt := 1178) hx hb dL_refuses_1093 (by decide) (fun _ => ?_) (fun c9 => ?_)
  · skip
    refine lv_iconst (v := nI 1) hx hb dL_refuses_1178 (by decide) ?_
    refine lv_goto (tgt := 1183) hx hb dL_refuses_1179 (by decide) ?_
    refine lv_istore (lv' := [(8, .int (nI 1)), (11, .int (-2147483648)), (10, .int (nI (nG (st.1 n)))), (0, .ref (a 0)), (1, .int (nI 2147483647)), (2, .int bf), (3, .int (nI 3)), (4, .int (-2147483648)), (5, .int (-2147483648)), (6, .int (-2147483648)), (7, .int (-2147483648)), (9, .int (nI n))]) hx hb dL_refuses_1183 hl (by decide) rfl (fun ls hl => ?_)
    refine lv_iinc (v := nI (n + 1)) (lv' := [(9, .int (nI (n + 1))), (8, .int (nI 1)), (11, .int (-2147483648)), (10, .int (nI (nG (st.1 n)))), (0, .ref (a 0)), (1, .int (nI 2147483647)), (2, .int bf), (3, .int (nI 3)), (4, .int (-2147483648)), (5, .int (-2147483648)), (6, .int (-2147483648)), (7, .int (-2147483648))]) hx hb dL_refuses_1185 hl (k := 11) rfl (nI_add _ 1) (by decide) rfl (fun ls hl => ?_)
    refine lv_goto (tgt := 941) hx hb dL_refuses_1188 (by decide) ?_
    exact wid (by omega) (by omega) (K _ _ _ hS hCW hl)
  have hg0 : ¬ nG (st.1 (ix (nI n))) = 0 := by rw [e4]; exact fun h => c9 (by rw [h]; rfl)
  have hg1 : inBd (nI 0) (nG (st.1 (ix (nI n)))) := bd4 (Nat.pos_of_ne_zero hg0) (by rw [e4]; omega)
  refine lv_aload_n hx hb dL_refuses_1096 rfl (lv_at hl 2 rfl) ?_
  refine lv_bipush (v := nI 7) hx hb dL_refuses_1097 (by decide) ?_
  refine lv_iload hx hb dL_refuses_1099 (lv_at hl 11 rfl) ?_
  refine lv_iconst (v := nI 0) hx hb dL_refuses_1101 (by decide) ?_
  refine lv_iload_n hx hb dL_refuses_1102 rfl (lv_at hl 5 rfl) ?_
  refine lv_if_ne (tgt := 1111) hx hb dL_refuses_1103 (by decide) (fun _ => ?_) (fun c => absurd c (by decide))
  refine lv_iload_n hx hb dL_refuses_1111 rfl (lv_at hl 5 rfl) ?_
  refine lv_iconst (v := nI 1) hx hb dL_refuses_1112 (by decide) ?_
  refine lv_icmp_ne (tgt := 1120) hx hb dL_refuses_1113 (by decide) (fun _ => ?_) (fun c => absurd c (by decide))
  refine lv_iload hx hb dL_refuses_1120 (lv_at hl 6 rfl) ?_
  refine lv_iconst (v := nI 0) hx hb dL_refuses_1122 (by decide) ?_
  have hC : cSt st.1 (nI n) (nI 0) (-2147483648) = 2 := rc_sb hn4 hg1 (by decide)
  refine wr_i (vx_run0 (vx_runSX (As := [.ref (a 0), .int (nI 7), .int (nI n), .int (nI 0), .int (-2147483648), .int (nI 0)]) (rest := []) FX (w_act_stick l hfl G a ha t9 st (nI n) (nI 0) (-2147483648) (nI 0) hO) (vx_cwSW 6 hts gL_refuses_L_act rfl rfl rfl (by decide +kernel) ⟨Nat.le_of_ble_eq_true rfl, Nat.le_of_ble_eq_true rfl⟩) (preW hK hNW hCW (hLow.at hS (fun q9 _ q => rng_M q9 q)) (hX.at hS (fun q9 _ q => rng_M q9 q)) hNC) rfl rfl hl.1 rfl (lv_room (Nat.le_of_ble_eq_true rfl)) dL_refuses_1123 (rmx (m := 1200) (n := 7200) (by omega) (by omega)))) hS (fun q h => h) (fun r _ H locs hp hCW hk hS => ?_)
  refine lv_as (y := -7000002) (hp.2.2.1 hC) ?_
  rw [stN_n hC (by decide)] at hCW
  have hCW : CW G a st H := hCW
  refine lv_ldc (v := -7000002) hx hb hown (hts (.constant RL 78 (-7000002)) (List.mem_of_getElem? (i := 6) (by decide +kernel))) dL_refuses_1126 ?_
  refine lv_icmp_ne (tgt := 1182) hx hb dL_refuses_1128 (by decide) (fun c => absurd c (by decide)) (fun _ => ?_)
  refine lv_aload_n hx hb dL_refuses_1131 rfl (lv_at hl 2 rfl) ?_
  refine lv_bipush (v := nI 8) hx hb dL_refuses_1132 (by decide) ?_
  refine lv_iload hx hb dL_refuses_1134 (lv_at hl 11 rfl) ?_
  refine lv_iconst (v := nI 0) hx hb dL_refuses_1136 (by decide) ?_
  refine lv_iload hx hb dL_refuses_1137 (lv_at hl 8 rfl) ?_
  refine lv_iconst (v := nI 0) hx hb dL_refuses_1139 (by decide) ?_
  have hC : cBi st.1 (nI n) (nI 0) (-2147483648) = 2 := rc_bx hn4 hg1 (by decide)
  refine wr_i (vx_run0 (vx_runSX (As := [.ref (a 0), .int (nI 8), .int (nI n), .int (nI 0), .int (-2147483648), .int (nI 0)]) (rest := []) FX (w_act_bit l hfl G a ha t9 st (nI n) (nI 0) (-2147483648) (nI 0) hO) (vx_cwSW 6 hts gL_refuses_L_act rfl rfl rfl (by decide +kernel) ⟨Nat.le_of_ble_eq_true rfl, Nat.le_of_ble_eq_true rfl⟩) (preW hK hNW hCW (hLow.at hS (fun q9 _ q => rng_M q9 q)) (hX.at hS (fun q9 _ q => rng_M q9 q)) hNC) rfl rfl hl.1 rfl (lv_room (Nat.le_of_ble_eq_true rfl)) dL_refuses_1140 (rmx (m := 1200) (n := 7200) (by omega) (by omega)))) hS (fun q h => h) (fun r _ H locs hp hCW hk hS => ?_)
  refine lv_as (y := -7000002) (hp.2.2.1 hC) ?_
  have hCW : CW G a st H := hCW
  refine lv_ldc (v := -7000002) hx hb hown (hts (.constant RL 78 (-7000002)) (List.mem_of_getElem? (i := 6) (by decide +kernel))) dL_refuses_1143 ?_
  refine lv_icmp_ne (tgt := 1182) hx hb dL_refuses_1145 (by decide) (fun c => absurd c (by decide)) (fun _ => ?_)
  refine lv_aload_n hx hb dL_refuses_1148 rfl (lv_at hl 2 rfl) ?_
  refine lv_iconst (v := nI 3) hx hb dL_refuses_1149 (by decide) ?_
  refine lv_iload hx hb dL_refuses_1150 (lv_at hl 11 rfl) ?_
  refine lv_iconst (v := nI 0) hx hb dL_refuses_1152 (by decide) ?_
  refine lv_iconst (v := nI 1) hx hb dL_refuses_1153 (by decide) ?_
  refine lv_iconst (v := nI 0) hx hb dL_refuses_1154 (by decide) ?_
  have hC : cAd st.1 (nI n) (nI 0) (nI 1) = 3 := rc_an hn4 (by decide) (by decide) hg0
  refine wr_i (vx_run0 (vx_runSX (As := [.ref (a 0), .int (nI 3), .int (nI n), .int (nI 0), .int (nI 1), .int (nI 0)]) (rest := []) FX (w_act_adder l hfl G a ha t9 st (nI n) (nI 0) (nI 1) (nI 0) hO) (vx_cwSW 6 hts gL_refuses_L_act rfl rfl rfl (by decide +kernel) ⟨Nat.le_of_ble_eq_true rfl, Nat.le_of_ble_eq_true rfl⟩) (preW hK hNW hCW (hLow.at hS (fun q9 _ q => rng_M q9 q)) (hX.at hS (fun q9 _ q => rng_M q9 q)) hNC) rfl rfl hl.1 rfl (lv_room (Nat.le_of_ble_eq_true rfl)) dL_refuses_1155 (rmx (m := 1200) (n := 7200) (by omega) (by omega)))) hS (fun q h => h) (fun r _ H locs hp hCW hk hS => ?_)
  refine lv_as (y := -7000003) (hp.2.2.2 hC) ?_
  rw [stN_n hC (by decide)] at hCW
  have hCW : CW G a st H := hCW
  refine lv_ldc (v := -7000003) hx hb hown (hts (.constant RL 81 (-7000003)) (List.mem_of_getElem? (i := 7) (by decide +kernel))) dL_refuses_1158 ?_
  refine lv_icmp_ne (tgt := 1182) hx hb dL_refuses_1160 (by decide) (fun c => absurd c (by decide)) (fun _ => ?_)
  refine lv_aload_n hx hb dL_refuses_1163 rfl (lv_at hl 2 rfl) ?_
  refine lv_iconst (v := nI 4) hx hb dL_refuses_1164 (by decide) ?_
  refine lv_iload hx hb dL_refuses_1165 (lv_at hl 11 rfl) ?_
  refine lv_iconst (v := nI 1) hx hb dL_refuses_1167 (by decide) ?_
  refine lv_iconst (v := nI 0) hx hb dL_refuses_1168 (by decide) ?_
  refine lv_iconst (v := nI 0) hx hb dL_refuses_1169 (by decide) ?_
  have hC : cMu st.1 (nI n) (nI 1) = 3 := rc_mn hn4 (by decide) hg0
  refine wr_i (vx_run0 (vx_runSX (As := [.ref (a 0), .int (nI 4), .int (nI n), .int (nI 1), .int (nI 0), .int (nI 0)]) (rest := []) FX (w_act_multiplier l hfl G a ha t9 st (nI n) (nI 1) (nI 0) (nI 0) hO) (vx_cwSW 6 hts gL_refuses_L_act rfl rfl rfl (by decide +kernel) ⟨Nat.le_of_ble_eq_true rfl, Nat.le_of_ble_eq_true rfl⟩) (preW hK hNW hCW (hLow.at hS (fun q9 _ q => rng_M q9 q)) (hX.at hS (fun q9 _ q => rng_M q9 q)) hNC) rfl rfl hl.1 rfl (lv_room (Nat.le_of_ble_eq_true rfl)) dL_refuses_1170 (rmx (m := 1200) (n := 7200) (by omega) (by omega)))) hS (fun q h => h) (fun r _ H locs hp hCW hk hS => ?_)
  refine lv_as (y := -7000003) (hp.2.2.2 hC) ?_
  rw [stN_n hC (by decide)] at hCW
  have hCW : CW G a st H := hCW
  refine lv_ldc (v := -7000003) hx hb hown (hts (.constant RL 81 (-7000003)) (List.mem_of_getElem? (i := 7) (by decide +kernel))) dL_refuses_1173 ?_
  refine lv_icmp_ne (tgt := 1182) hx hb dL_refuses_1175 (by decide) (fun c => absurd c (by decide)) (fun _ => ?_)
  refine lv_iconst (v := nI 1) hx hb dL_refuses_1178 (by decide) ?_
  refine lv_goto (tgt := 1183) hx hb dL_refuses_1179 (by decide) ?_
  refine lv_istore (lv' := [(8, .int (nI 1)), (11, .int (-2147483648)), (10, .int (nI (nG (st.1 n)))), (0, .ref (a 0)), (1, .int (nI 2147483647)), (2, .int bf), (3, .int (nI 3)), (4, .int (-2147483648)), (5, .int (-2147483648)), (6, .int (-2147483648)), (7, .int (-2147483648)), (9, .int (nI n))]) hx hb dL_refuses_1183 hl (by decide) rfl (fun ls hl => ?_)
  refine lv_iinc (v := nI (n + 1)) (lv' := [(9, .int (nI (n + 1))), (8, .int (nI 1)), (11, .int (-2147483648)), (10, .int (nI (nG (st.1 n)))), (0, .ref (a 0)), (1, .int (nI 2147483647)), (2, .int bf), (3, .int (nI 3)), (4, .int (-2147483648)), (5, .int (-2147483648)), (6, .int (-2147483648)), (7, .int (-2147483648))]) hx hb dL_refuses_1185 hl (k := 11) rfl (nI_add _ 1) (by decide) rfl (fun ls hl => ?_)
  refine lv_goto (tgt := 941) hx hb dL_refuses_1188 (by decide) ?_
  exact wid (by omega) (by omega) (K _ _ _ hS hCW hl)
set_option maxHeartbeats 4000000 in
set_option maxRecDepth 100000 in
theorem rf_C0 {p : Program} {l : Launch} {e : Env} {s : State} {m : MethodId} {args : Array Value} {below : List Frame} {meth : Method} {c : Code} {Q : State → Prop} {G : GG} {a : Nat → Nat} {t9 : Nat} (J : LJ p l s m meth c args cL_refuses (some .boolean) 12 wsL_refuses G a t9) {st : ST} (hO : OKS st) {bf : Int32}  (c0 s0 : Nat) (hc : c0 + 0 ≤ 1200) (hs : s0 + 0 ≤ 7200) {H : Heap} {locs : List Loc} {ls : Array Slot} (hS : va_S (rng a 0 93) s.heap H locs) (hCW : CW G a st H) (hl : lv_has ls 12 [(0, .ref (a 0)), (1, .int (nI 2147483647)), (2, .int bf), (3, .int (nI 0)), (4, .int (-1)), (5, .int (-1)), (6, .int (-1)), (7, .int (-2147483648)), (8, .int (nI 1)), (9, .int (nI 4))]) (K : ∀ (H : Heap) (locs : List Loc) (ls : Array Slot), va_S (rng a 0 93) s.heap H locs → CW G a st H → lv_has ls 12 [(3, .int (nI 1)), (0, .ref (a 0)), (1, .int (nI 2147483647)), (2, .int bf), (4, .int (-1)), (5, .int (-1)), (6, .int (-1)), (7, .int (-2147483648)), (8, .int (nI 1)), (9, .int (nI 4))] → W p l e ({ frames := 10, cells := 1200, slots := 7200, locals := 194 } : Room) s m args below meth c H locs (c0 + 0) (s0 + 0) Q (F0 m 43 ls [])) : W p l e ({ frames := 10, cells := 1200, slots := 7200, locals := 194 } : Room) s m args below meth c H locs c0 s0 Q (F0 m 941 ls []) := by
  obtain ⟨hfl, hx, hb, hr, hml, hown, hts, hlocks, ha, hK, hNW, hLow, hX, hNC⟩ := J
  have FX : CallFix p m c cL_refuses 12 s args wsL_refuses RL := ⟨hx, hb, hml, hown, hts⟩
  refine lv_iload hx hb dL_refuses_941 (lv_at hl 9 rfl) ?_
  refine lv_iconst (v := nI 4) hx hb dL_refuses_943 (by decide) ?_
  refine lv_icmp_ge (tgt := 1191) hx hb dL_refuses_944 (by decide) (fun _ => ?_) (fun c => absurd c (by decide))
  refine lv_iload hx hb dL_refuses_1191 (lv_at hl 8 rfl) ?_
  refine lv_if_ne (tgt := 1198) hx hb dL_refuses_1193 (by decide) (fun _ => ?_) (fun c => absurd c (by decide))
  refine lv_iinc (v := nI 1) (lv' := [(3, .int (nI 1)), (0, .ref (a 0)), (1, .int (nI 2147483647)), (2, .int bf), (4, .int (-1)), (5, .int (-1)), (6, .int (-1)), (7, .int (-2147483648)), (8, .int (nI 1)), (9, .int (nI 4))]) hx hb dL_refuses_1198 hl (k := 3) rfl (by decide) (by decide) rfl (fun ls hl => ?_)
  refine lv_goto (tgt := 43) hx hb dL_refuses_1201 (by decide) ?_
  exact wid (by omega) (by omega) (K _ _ _ hS hCW hl)
set_option maxHeartbeats 4000000 in
set_option maxRecDepth 100000 in
theorem rf_C1 {p : Program} {l : Launch} {e : Env} {s : State} {m : MethodId} {args : Array Value} {below : List Frame} {meth : Method} {c : Code} {Q : State → Prop} {G : GG} {a : Nat → Nat} {t9 : Nat} (J : LJ p l s m meth c args cL_refuses (some .boolean) 12 wsL_refuses G a t9) {st : ST} (hO : OKS st) {bf : Int32}  (c0 s0 : Nat) (hc : c0 + 0 ≤ 1200) (hs : s0 + 0 ≤ 7200) {H : Heap} {locs : List Loc} {ls : Array Slot} (hS : va_S (rng a 0 93) s.heap H locs) (hCW : CW G a st H) (hl : lv_has ls 12 [(0, .ref (a 0)), (1, .int (nI 2147483647)), (2, .int bf), (3, .int (nI 1)), (4, .int (-2147483648)), (5, .int (nI 4)), (6, .int (nI 1073741824)), (7, .int (-2)), (8, .int (nI 1)), (9, .int (nI 4))]) (K : ∀ (H : Heap) (locs : List Loc) (ls : Array Slot), va_S (rng a 0 93) s.heap H locs → CW G a st H → lv_has ls 12 [(3, .int (nI 2)), (0, .ref (a 0)), (1, .int (nI 2147483647)), (2, .int bf), (4, .int (-2147483648)), (5, .int (nI 4)), (6, .int (nI 1073741824)), (7, .int (-2)), (8, .int (nI 1)), (9, .int (nI 4))] → W p l e ({ frames := 10, cells := 1200, slots := 7200, locals := 194 } : Room) s m args below meth c H locs (c0 + 0) (s0 + 0) Q (F0 m 43 ls [])) : W p l e ({ frames := 10, cells := 1200, slots := 7200, locals := 194 } : Room) s m args below meth c H locs c0 s0 Q (F0 m 941 ls []) := by
  obtain ⟨hfl, hx, hb, hr, hml, hown, hts, hlocks, ha, hK, hNW, hLow, hX, hNC⟩ := J
  have FX : CallFix p m c cL_refuses 12 s args wsL_refuses RL := ⟨hx, hb, hml, hown, hts⟩
  refine lv_iload hx hb dL_refuses_941 (lv_at hl 9 rfl) ?_
  refine lv_iconst (v := nI 4) hx hb dL_refuses_943 (by decide) ?_
  refine lv_icmp_ge (tgt := 1191) hx hb dL_refuses_944 (by decide) (fun _ => ?_) (fun c => absurd c (by decide))
  refine lv_iload hx hb dL_refuses_1191 (lv_at hl 8 rfl) ?_
  refine lv_if_ne (tgt := 1198) hx hb dL_refuses_1193 (by decide) (fun _ => ?_) (fun c => absurd c (by decide))
  refine lv_iinc (v := nI 2) (lv' := [(3, .int (nI 2)), (0, .ref (a 0)), (1, .int (nI 2147483647)), (2, .int bf), (4, .int (-2147483648)), (5, .int (nI 4)), (6, .int (nI 1073741824)), (7, .int (-2)), (8, .int (nI 1)), (9, .int (nI 4))]) hx hb dL_refuses_1198 hl (k := 3) rfl (by decide) (by decide) rfl (fun ls hl => ?_)
  refine lv_goto (tgt := 43) hx hb dL_refuses_1201 (by decide) ?_
  exact wid (by omega) (by omega) (K _ _ _ hS hCW hl)
set_option maxHeartbeats 4000000 in
set_option maxRecDepth 100000 in
theorem rf_C2 {p : Program} {l : Launch} {e : Env} {s : State} {m : MethodId} {args : Array Value} {below : List Frame} {meth : Method} {c : Code} {Q : State → Prop} {G : GG} {a : Nat → Nat} {t9 : Nat} (J : LJ p l s m meth c args cL_refuses (some .boolean) 12 wsL_refuses G a t9) {st : ST} (hO : OKS st) {bf : Int32}  (c0 s0 : Nat) (hc : c0 + 0 ≤ 1200) (hs : s0 + 0 ≤ 7200) {H : Heap} {locs : List Loc} {ls : Array Slot} (hS : va_S (rng a 0 93) s.heap H locs) (hCW : CW G a st H) (hl : lv_has ls 12 [(0, .ref (a 0)), (1, .int (nI 2147483647)), (2, .int bf), (3, .int (nI 2)), (4, .int (nI 2147483647)), (5, .int (nI 2147483647)), (6, .int (nI 2147483647)), (7, .int (-1)), (8, .int (nI 1)), (9, .int (nI 4))]) (K : ∀ (H : Heap) (locs : List Loc) (ls : Array Slot), va_S (rng a 0 93) s.heap H locs → CW G a st H → lv_has ls 12 [(3, .int (nI 3)), (0, .ref (a 0)), (1, .int (nI 2147483647)), (2, .int bf), (4, .int (nI 2147483647)), (5, .int (nI 2147483647)), (6, .int (nI 2147483647)), (7, .int (-1)), (8, .int (nI 1)), (9, .int (nI 4))] → W p l e ({ frames := 10, cells := 1200, slots := 7200, locals := 194 } : Room) s m args below meth c H locs (c0 + 0) (s0 + 0) Q (F0 m 43 ls [])) : W p l e ({ frames := 10, cells := 1200, slots := 7200, locals := 194 } : Room) s m args below meth c H locs c0 s0 Q (F0 m 941 ls []) := by
  obtain ⟨hfl, hx, hb, hr, hml, hown, hts, hlocks, ha, hK, hNW, hLow, hX, hNC⟩ := J
  have FX : CallFix p m c cL_refuses 12 s args wsL_refuses RL := ⟨hx, hb, hml, hown, hts⟩
  refine lv_iload hx hb dL_refuses_941 (lv_at hl 9 rfl) ?_
  refine lv_iconst (v := nI 4) hx hb dL_refuses_943 (by decide) ?_
  refine lv_icmp_ge (tgt := 1191) hx hb dL_refuses_944 (by decide) (fun _ => ?_) (fun c => absurd c (by decide))
  refine lv_iload hx hb dL_refuses_1191 (lv_at hl 8 rfl) ?_
  refine lv_if_ne (tgt := 1198) hx hb dL_refuses_1193 (by decide) (fun _ => ?_) (fun c => absurd c (by decide))
  refine lv_iinc (v := nI 3) (lv' := [(3, .int (nI 3)), (0, .ref (a 0)), (1, .int (nI 2147483647)), (2, .int bf), (4, .int (nI 2147483647)), (5, .int (nI 2147483647)), (6, .int (nI 2147483647)), (7, .int (-1)), (8, .int (nI 1)), (9, .int (nI 4))]) hx hb dL_refuses_1198 hl (k := 3) rfl (by decide) (by decide) rfl (fun ls hl => ?_)
  refine lv_goto (tgt := 43) hx hb dL_refuses_1201 (by decide) ?_
  exact wid (by omega) (by omega) (K _ _ _ hS hCW hl)
set_option maxHeartbeats 4000000 in
set_option maxRecDepth 100000 in
theorem rf_C3 {p : Program} {l : Launch} {e : Env} {s : State} {m : MethodId} {args : Array Value} {below : List Frame} {meth : Method} {c : Code} {Q : State → Prop} {G : GG} {a : Nat → Nat} {t9 : Nat} (J : LJ p l s m meth c args cL_refuses (some .boolean) 12 wsL_refuses G a t9) {st : ST} (hO : OKS st) {bf : Int32}  (c0 s0 : Nat) (hc : c0 + 0 ≤ 1200) (hs : s0 + 0 ≤ 7200) {H : Heap} {locs : List Loc} {ls : Array Slot} (hS : va_S (rng a 0 93) s.heap H locs) (hCW : CW G a st H) (hl : lv_has ls 12 [(0, .ref (a 0)), (1, .int (nI 2147483647)), (2, .int bf), (3, .int (nI 3)), (4, .int (-2147483648)), (5, .int (-2147483648)), (6, .int (-2147483648)), (7, .int (-2147483648)), (8, .int (nI 1)), (9, .int (nI 4))]) (K : ∀ (H : Heap) (locs : List Loc) (ls : Array Slot), va_S (rng a 0 93) s.heap H locs → CW G a st H → lv_has ls 12 [(3, .int (nI 4)), (0, .ref (a 0)), (1, .int (nI 2147483647)), (2, .int bf), (4, .int (-2147483648)), (5, .int (-2147483648)), (6, .int (-2147483648)), (7, .int (-2147483648)), (8, .int (nI 1)), (9, .int (nI 4))] → W p l e ({ frames := 10, cells := 1200, slots := 7200, locals := 194 } : Room) s m args below meth c H locs (c0 + 0) (s0 + 0) Q (F0 m 43 ls [])) : W p l e ({ frames := 10, cells := 1200, slots := 7200, locals := 194 } : Room) s m args below meth c H locs c0 s0 Q (F0 m 941 ls []) := by
  obtain ⟨hfl, hx, hb, hr, hml, hown, hts, hlocks, ha, hK, hNW, hLow, hX, hNC⟩ := J
  have FX : CallFix p m c cL_refuses 12 s args wsL_refuses RL := ⟨hx, hb, hml, hown, hts⟩
  refine lv_iload hx hb dL_refuses_941 (lv_at hl 9 rfl) ?_
  refine lv_iconst (v := nI 4) hx hb dL_refuses_943 (by decide) ?_
  refine lv_icmp_ge (tgt := 1191) hx hb dL_refuses_944 (by decide) (fun _ => ?_) (fun c => absurd c (by decide))
  refine lv_iload hx hb dL_refuses_1191 (lv_at hl 8 rfl) ?_
  refine lv_if_ne (tgt := 1198) hx hb dL_refuses_1193 (by decide) (fun _ => ?_) (fun c => absurd c (by decide))
  refine lv_iinc (v := nI 4) (lv' := [(3, .int (nI 4)), (0, .ref (a 0)), (1, .int (nI 2147483647)), (2, .int bf), (4, .int (-2147483648)), (5, .int (-2147483648)), (6, .int (-2147483648)), (7, .int (-2147483648)), (8, .int (nI 1)), (9, .int (nI 4))]) hx hb dL_refuses_1198 hl (k := 3) rfl (by decide) (by decide) rfl (fun ls hl => ?_)
  refine lv_goto (tgt := 43) hx hb dL_refuses_1201 (by decide) ?_
  exact wid (by omega) (by omega) (K _ _ _ hS hCW hl)
set_option maxHeartbeats 4000000 in
set_option maxRecDepth 100000 in
theorem rf_F {p : Program} {l : Launch} {e : Env} {s : State} {m : MethodId} {args : Array Value} {below : List Frame} {meth : Method} {c : Code} {Q : State → Prop} {G : GG} {a : Nat → Nat} {t9 : Nat} (J : LJ p l s m meth c args cL_refuses (some .boolean) 12 wsL_refuses G a t9) {st : ST} (hO : OKS st) {bf : Int32} (hbf : bf = (((nI (nG (st.1 0))) + ((nI 200) * (nI (nG (st.1 1))))) + ((nI 40000) * (nI (nG (st.1 2))))) + ((nI 8000000) * (nI (nG (st.1 3))))) (c0 s0 : Nat) (hc : c0 + 8 ≤ 1200) (hs : s0 + 48 ≤ 7200) {H : Heap} {locs : List Loc} {ls : Array Slot} (hS : va_S (rng a 0 93) s.heap H locs) (hCW : CW G a st H) (hl : lv_has ls 12 [(0, .ref (a 0)), (1, .int (nI 2147483647)), (2, .int bf), (3, .int (nI 4))]) (K : ∀ (H : Heap) (locs : List Loc) (ls : Array Slot), va_S (rng a 0 93) s.heap H locs → CW G a st H → lv_has ls 12 [(0, .ref (a 0)), (1, .int (nI 2147483647)), (2, .int bf), (3, .int (nI 4))] → W p l e ({ frames := 10, cells := 1200, slots := 7200, locals := 194 } : Room) s m args below meth c H locs (c0 + 8) (s0 + 48) Q (F0 m 1250 ls [.int (nI 1)])) : W p l e ({ frames := 10, cells := 1200, slots := 7200, locals := 194 } : Room) s m args below meth c H locs c0 s0 Q (F0 m 43 ls []) := by
  obtain ⟨hfl, hx, hb, hr, hml, hown, hts, hlocks, ha, hK, hNW, hLow, hX, hNC⟩ := J
  have FX : CallFix p m c cL_refuses 12 s args wsL_refuses RL := ⟨hx, hb, hml, hown, hts⟩
  refine lv_iload_n hx hb dL_refuses_43 rfl (lv_at hl 3 rfl) ?_
  refine lv_iconst (v := nI 4) hx hb dL_refuses_44 (by decide) ?_
  refine lv_icmp_ge (tgt := 1204) hx hb dL_refuses_45 (by decide) (fun _ => ?_) (fun c => absurd c (by decide))
  refine lv_iload_n hx hb dL_refuses_1204 rfl (lv_at hl 2 rfl) ?_
  refine lv_aload_n hx hb dL_refuses_1205 rfl (lv_at hl 0 rfl) ?_
  refine lv_iconst (v := nI 0) hx hb dL_refuses_1206 (by decide) ?_
  refine lv_iconst (v := nI 0) hx hb dL_refuses_1207 (by decide) ?_
  refine wr_i (va_runV (As := [.int (nI 0), .int (nI 0)]) (rest := [.int bf]) FX (n_ofNet l hfl G a ha t9 st 0 0 hO (by decide) (by decide)) (cwV 2 hts gL_refuses_X11_ofNet rfl rfl rfl (by decide +kernel) ⟨Nat.le_of_ble_eq_true rfl, Nat.le_of_ble_eq_true rfl⟩) (preVX hK hNW hCW (hLow.at hS (fun q9 _ q => rng_M q9 q)) (hX.at hS (fun q9 _ q => rng_M q9 q)) (cw_recv hK hCW)) rfl rfl hl.1 rfl (lv_room (Nat.le_of_ble_eq_true rfl)) dL_refuses_1208 (rmx (m := 1200) (n := 7200) (by omega) (by omega))) hS (fun q h => h) (fun r _ H locs hp hCW hk hS => ?_)
  refine lv_as (y := nI (nG (st.1 0))) (hp.trans (of_0 rfl)) ?_
  refine lv_sipush (v := nI 200) hx hb dL_refuses_1211 (by decide) ?_
  refine lv_aload_n hx hb dL_refuses_1214 rfl (lv_at hl 0 rfl) ?_
  refine lv_iconst (v := nI 1) hx hb dL_refuses_1215 (by decide) ?_
  refine lv_iconst (v := nI 0) hx hb dL_refuses_1216 (by decide) ?_
  refine wr_i (va_runV (As := [.int (nI 1), .int (nI 0)]) (rest := [.int (nI 200), .int (nI (nG (st.1 0))), .int bf]) FX (n_ofNet l hfl G a ha t9 st 1 0 hO (by decide) (by decide)) (cwV 2 hts gL_refuses_X11_ofNet rfl rfl rfl (by decide +kernel) ⟨Nat.le_of_ble_eq_true rfl, Nat.le_of_ble_eq_true rfl⟩) (preVX hK hNW hCW (hLow.at hS (fun q9 _ q => rng_M q9 q)) (hX.at hS (fun q9 _ q => rng_M q9 q)) (cw_recv hK hCW)) rfl rfl hl.1 rfl (lv_room (Nat.le_of_ble_eq_true rfl)) dL_refuses_1217 (rmx (m := 1200) (n := 7200) (by omega) (by omega))) hS (fun q h => h) (fun r _ H locs hp hCW hk hS => ?_)
  refine lv_as (y := nI (nG (st.1 1))) (hp.trans (of_0 rfl)) ?_
  refine lv_imul hx hb dL_refuses_1220 ?_
  refine lv_iadd hx hb dL_refuses_1221 ?_
  refine lv_ldc (v := nI 40000) hx hb hown (hts (.constant RL 83 (40000)) (List.mem_of_getElem? (i := 2) (by decide +kernel))) dL_refuses_1222 ?_
  refine lv_aload_n hx hb dL_refuses_1224 rfl (lv_at hl 0 rfl) ?_
  refine lv_iconst (v := nI 2) hx hb dL_refuses_1225 (by decide) ?_
  refine lv_iconst (v := nI 0) hx hb dL_refuses_1226 (by decide) ?_
  refine wr_i (va_runV (As := [.int (nI 2), .int (nI 0)]) (rest := [.int (nI 40000), .int ((nI (nG (st.1 0))) + ((nI 200) * (nI (nG (st.1 1))))), .int bf]) FX (n_ofNet l hfl G a ha t9 st 2 0 hO (by decide) (by decide)) (cwV 2 hts gL_refuses_X11_ofNet rfl rfl rfl (by decide +kernel) ⟨Nat.le_of_ble_eq_true rfl, Nat.le_of_ble_eq_true rfl⟩) (preVX hK hNW hCW (hLow.at hS (fun q9 _ q => rng_M q9 q)) (hX.at hS (fun q9 _ q => rng_M q9 q)) (cw_recv hK hCW)) rfl rfl hl.1 rfl (lv_room (Nat.le_of_ble_eq_true rfl)) dL_refuses_1227 (rmx (m := 1200) (n := 7200) (by omega) (by omega))) hS (fun q h => h) (fun r _ H locs hp hCW hk hS => ?_)
  refine lv_as (y := nI (nG (st.1 2))) (hp.trans (of_0 rfl)) ?_
  refine lv_imul hx hb dL_refuses_1230 ?_
  refine lv_iadd hx hb dL_refuses_1231 ?_
  refine lv_ldc (v := nI 8000000) hx hb hown (hts (.constant RL 84 (8000000)) (List.mem_of_getElem? (i := 3) (by decide +kernel))) dL_refuses_1232 ?_
  refine lv_aload_n hx hb dL_refuses_1234 rfl (lv_at hl 0 rfl) ?_
  refine lv_iconst (v := nI 3) hx hb dL_refuses_1235 (by decide) ?_
  refine lv_iconst (v := nI 0) hx hb dL_refuses_1236 (by decide) ?_
  refine wr_i (va_runV (As := [.int (nI 3), .int (nI 0)]) (rest := [.int (nI 8000000), .int (((nI (nG (st.1 0))) + ((nI 200) * (nI (nG (st.1 1))))) + ((nI 40000) * (nI (nG (st.1 2))))), .int bf]) FX (n_ofNet l hfl G a ha t9 st 3 0 hO (by decide) (by decide)) (cwV 2 hts gL_refuses_X11_ofNet rfl rfl rfl (by decide +kernel) ⟨Nat.le_of_ble_eq_true rfl, Nat.le_of_ble_eq_true rfl⟩) (preVX hK hNW hCW (hLow.at hS (fun q9 _ q => rng_M q9 q)) (hX.at hS (fun q9 _ q => rng_M q9 q)) (cw_recv hK hCW)) rfl rfl hl.1 rfl (lv_room (Nat.le_of_ble_eq_true rfl)) dL_refuses_1237 (rmx (m := 1200) (n := 7200) (by omega) (by omega))) hS (fun q h => h) (fun r _ H locs hp hCW hk hS => ?_)
  refine lv_as (y := nI (nG (st.1 3))) (hp.trans (of_0 rfl)) ?_
  refine lv_imul hx hb dL_refuses_1240 ?_
  refine lv_iadd hx hb dL_refuses_1241 ?_
  refine lv_icmp_ne (tgt := 1249) hx hb dL_refuses_1242 (by decide) (fun c => absurd hbf c) (fun _ => ?_)
  refine lv_iconst (v := nI 1) hx hb dL_refuses_1245 (by decide) ?_
  refine lv_goto (tgt := 1250) hx hb dL_refuses_1246 (by decide) ?_
  exact wid (by omega) (by omega) (K _ _ _ hS hCW hl)
