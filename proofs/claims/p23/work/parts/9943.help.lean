/-! the law's small helpers: where all that they check is so, they answer 1 -/
set_option maxHeartbeats 4000000 in
set_option maxRecDepth 100000 in
theorem w_net (l : Launch) (hfl : l.stackTraces = false) (G : GG) (a : Nat → Nat) (ha : Inj a) (t9 : Nat) (st : ST) (hO : OKS st) (z : Nat) (hz : z < 4) (v0 v1 v2 v3 v4 v6 : Int32) (h0 : ofV (st.1 z) st.2.1 st.2.2 0 = v0) (h1 : ofV (st.1 z) st.2.1 st.2.2 1 = v1) (h2 : ofV (st.1 z) st.2.1 st.2.2 2 = v2) (h3 : ofV (st.1 z) st.2.1 st.2.2 3 = v3) (h4 : ofV (st.1 z) st.2.1 st.2.2 4 = v4) (h6 : ofV (st.1 z) st.2.1 st.2.2 6 = v6) : Met l yL_net wsL_net ({ frames := 8, cells := 12, slots := 72, locals := 127 } : Room) (PcW G a t9 [.ref (a 0), .int (nI z), .int v0, .int v1, .int v2, .int v3, .int v4, .int v6] (fun H => CW G a st H)) (QI (fun (r : Int32) (_ : Unit) => r = nI 1) (fun _ H => CW G a st H) (rng a 0 93)) 12 72 (rng a 0 93) := by
  refine Met.ofW (cc := cL_net) (maxL := 8) (ret := (some .boolean)) (by decide) rfl ?_
  intro p e s m args below meth c s₁ B hml hv
  obtain ⟨⟨⟨⟨rfl, hCW, hK, hNW⟩, hLow⟩, hX⟩, hNC⟩ := hv
  have hx := B.exec
  have hb := B.bytes
  have hr := B.returns
  have hts := atoms_spec (ws := wsL_net) B.pre
  have hown : s.vm.findClass RL = some m.cls := findClass_of_methodNamed B.named
  have hlocks := B.notSynchronized
  have FX : CallFix p m c cL_net 8 s ([.ref (a 0), .int (nI z), .int v0, .int v1, .int v2, .int v3, .int v4, .int v6] : List Value).toArray wsL_net RL := ⟨hx, hb, hml, hown, hts⟩
  have hl := lv_entry ([.ref (a 0), .int (nI z), .int v0, .int v1, .int v2, .int v3, .int v4, .int v6]) (n := 8) (Nat.le_of_ble_eq_true rfl)
  rw [lg_entry_eq]
  generalize (lg_sl ([.ref (a 0), .int (nI z), .int v0, .int v1, .int v2, .int v3, .int v4, .int v6]) ++ List.replicate (8 - (lg_sl ([.ref (a 0), .int (nI z), .int v0, .int v1, .int v2, .int v3, .int v4, .int v6])).length) Slot.unset).toArray = ls at hl ⊢
  have hl : lv_has ls 8 [(0, .ref (a 0)), (1, .int (nI z)), (2, .int v0), (3, .int v1), (4, .int v2), (5, .int v3), (6, .int v4), (7, .int v6)] := hl
  have hS : va_S (rng a 0 93) s.heap s.heap [] := va_S.rf
  refine lv_aload_n hx hb dL_net_0 rfl (lv_at hl 0 rfl) ?_
  refine lv_iload_n hx hb dL_net_1 rfl (lv_at hl 1 rfl) ?_
  refine lv_iconst (v := nI 0) hx hb dL_net_2 (by decide) ?_
  refine wr_i (va_runV (As := [.int (nI z), .int (nI 0)]) (rest := []) FX (n_ofNet l hfl G a ha t9 st z 0 hO hz (by decide)) (cwV 2 hts gL_net_X11_ofNet rfl rfl rfl (by decide +kernel) ⟨Nat.le_of_ble_eq_true rfl, Nat.le_of_ble_eq_true rfl⟩) (preVX hK hNW hCW (hLow.at hS (fun q9 _ q => rng_M q9 q)) (hX.at hS (fun q9 _ q => rng_M q9 q)) (cw_recv hK hCW)) rfl rfl hl.1 rfl (lv_room (Nat.le_of_ble_eq_true rfl)) dL_net_3 ⟨Nat.le_of_ble_eq_true rfl, Nat.le_of_ble_eq_true rfl⟩) hS (fun q h => h) (fun r _ H locs hp hCW hk hS => ?_)
  refine lv_as (y := v0) (hp.trans h0) ?_
  refine lv_iload_n hx hb dL_net_6 rfl (lv_at hl 2 rfl) ?_
  refine lv_icmp_ne (tgt := 69) hx hb dL_net_7 (by decide) (fun c => absurd rfl c) (fun _ => ?_)
  refine lv_aload_n hx hb dL_net_10 rfl (lv_at hl 0 rfl) ?_
  refine lv_iload_n hx hb dL_net_11 rfl (lv_at hl 1 rfl) ?_
  refine lv_iconst (v := nI 1) hx hb dL_net_12 (by decide) ?_
  refine wr_i (va_runV (As := [.int (nI z), .int (nI 1)]) (rest := []) FX (n_ofNet l hfl G a ha t9 st z 1 hO hz (by decide)) (cwV 2 hts gL_net_X11_ofNet rfl rfl rfl (by decide +kernel) ⟨Nat.le_of_ble_eq_true rfl, Nat.le_of_ble_eq_true rfl⟩) (preVX hK hNW hCW (hLow.at hS (fun q9 _ q => rng_M q9 q)) (hX.at hS (fun q9 _ q => rng_M q9 q)) (cw_recv hK hCW)) rfl rfl hl.1 rfl (lv_room (Nat.le_of_ble_eq_true rfl)) dL_net_13 ⟨Nat.le_of_ble_eq_true rfl, Nat.le_of_ble_eq_true rfl⟩) hS (fun q h => h) (fun r _ H locs hp hCW hk hS => ?_)
  refine lv_as (y := v1) (hp.trans h1) ?_
  refine lv_iload_n hx hb dL_net_16 rfl (lv_at hl 3 rfl) ?_
  refine lv_icmp_ne (tgt := 69) hx hb dL_net_17 (by decide) (fun c => absurd rfl c) (fun _ => ?_)
  refine lv_aload_n hx hb dL_net_20 rfl (lv_at hl 0 rfl) ?_
  refine lv_iload_n hx hb dL_net_21 rfl (lv_at hl 1 rfl) ?_
  refine lv_iconst (v := nI 2) hx hb dL_net_22 (by decide) ?_
  refine wr_i (va_runV (As := [.int (nI z), .int (nI 2)]) (rest := []) FX (n_ofNet l hfl G a ha t9 st z 2 hO hz (by decide)) (cwV 2 hts gL_net_X11_ofNet rfl rfl rfl (by decide +kernel) ⟨Nat.le_of_ble_eq_true rfl, Nat.le_of_ble_eq_true rfl⟩) (preVX hK hNW hCW (hLow.at hS (fun q9 _ q => rng_M q9 q)) (hX.at hS (fun q9 _ q => rng_M q9 q)) (cw_recv hK hCW)) rfl rfl hl.1 rfl (lv_room (Nat.le_of_ble_eq_true rfl)) dL_net_23 ⟨Nat.le_of_ble_eq_true rfl, Nat.le_of_ble_eq_true rfl⟩) hS (fun q h => h) (fun r _ H locs hp hCW hk hS => ?_)
  refine lv_as (y := v2) (hp.trans h2) ?_
  refine lv_iload hx hb dL_net_26 (lv_at hl 4 rfl) ?_
  refine lv_icmp_ne (tgt := 69) hx hb dL_net_28 (by decide) (fun c => absurd rfl c) (fun _ => ?_)
  refine lv_aload_n hx hb dL_net_31 rfl (lv_at hl 0 rfl) ?_
  refine lv_iload_n hx hb dL_net_32 rfl (lv_at hl 1 rfl) ?_
  refine lv_iconst (v := nI 3) hx hb dL_net_33 (by decide) ?_
  refine wr_i (va_runV (As := [.int (nI z), .int (nI 3)]) (rest := []) FX (n_ofNet l hfl G a ha t9 st z 3 hO hz (by decide)) (cwV 2 hts gL_net_X11_ofNet rfl rfl rfl (by decide +kernel) ⟨Nat.le_of_ble_eq_true rfl, Nat.le_of_ble_eq_true rfl⟩) (preVX hK hNW hCW (hLow.at hS (fun q9 _ q => rng_M q9 q)) (hX.at hS (fun q9 _ q => rng_M q9 q)) (cw_recv hK hCW)) rfl rfl hl.1 rfl (lv_room (Nat.le_of_ble_eq_true rfl)) dL_net_34 ⟨Nat.le_of_ble_eq_true rfl, Nat.le_of_ble_eq_true rfl⟩) hS (fun q h => h) (fun r _ H locs hp hCW hk hS => ?_)
  refine lv_as (y := v3) (hp.trans h3) ?_
  refine lv_iload hx hb dL_net_37 (lv_at hl 5 rfl) ?_
  refine lv_icmp_ne (tgt := 69) hx hb dL_net_39 (by decide) (fun c => absurd rfl c) (fun _ => ?_)
  refine lv_aload_n hx hb dL_net_42 rfl (lv_at hl 0 rfl) ?_
  refine lv_iload_n hx hb dL_net_43 rfl (lv_at hl 1 rfl) ?_
  refine lv_iconst (v := nI 4) hx hb dL_net_44 (by decide) ?_
  refine wr_i (va_runV (As := [.int (nI z), .int (nI 4)]) (rest := []) FX (n_ofNet l hfl G a ha t9 st z 4 hO hz (by decide)) (cwV 2 hts gL_net_X11_ofNet rfl rfl rfl (by decide +kernel) ⟨Nat.le_of_ble_eq_true rfl, Nat.le_of_ble_eq_true rfl⟩) (preVX hK hNW hCW (hLow.at hS (fun q9 _ q => rng_M q9 q)) (hX.at hS (fun q9 _ q => rng_M q9 q)) (cw_recv hK hCW)) rfl rfl hl.1 rfl (lv_room (Nat.le_of_ble_eq_true rfl)) dL_net_45 ⟨Nat.le_of_ble_eq_true rfl, Nat.le_of_ble_eq_true rfl⟩) hS (fun q h => h) (fun r _ H locs hp hCW hk hS => ?_)
  refine lv_as (y := v4) (hp.trans h4) ?_
  refine lv_iload hx hb dL_net_48 (lv_at hl 6 rfl) ?_
  refine lv_icmp_ne (tgt := 69) hx hb dL_net_50 (by decide) (fun c => absurd rfl c) (fun _ => ?_)
  refine lv_aload_n hx hb dL_net_53 rfl (lv_at hl 0 rfl) ?_
  refine lv_iload_n hx hb dL_net_54 rfl (lv_at hl 1 rfl) ?_
  refine lv_bipush (v := nI 6) hx hb dL_net_55 (by decide) ?_
  refine wr_i (va_runV (As := [.int (nI z), .int (nI 6)]) (rest := []) FX (n_ofNet l hfl G a ha t9 st z 6 hO hz (by decide)) (cwV 2 hts gL_net_X11_ofNet rfl rfl rfl (by decide +kernel) ⟨Nat.le_of_ble_eq_true rfl, Nat.le_of_ble_eq_true rfl⟩) (preVX hK hNW hCW (hLow.at hS (fun q9 _ q => rng_M q9 q)) (hX.at hS (fun q9 _ q => rng_M q9 q)) (cw_recv hK hCW)) rfl rfl hl.1 rfl (lv_room (Nat.le_of_ble_eq_true rfl)) dL_net_57 ⟨Nat.le_of_ble_eq_true rfl, Nat.le_of_ble_eq_true rfl⟩) hS (fun q h => h) (fun r _ H locs hp hCW hk hS => ?_)
  refine lv_as (y := v6) (hp.trans h6) ?_
  refine lv_iload hx hb dL_net_60 (lv_at hl 7 rfl) ?_
  refine lv_icmp_ne (tgt := 69) hx hb dL_net_62 (by decide) (fun c => absurd rfl c) (fun _ => ?_)
  refine lv_iconst (v := nI 1) hx hb dL_net_65 (by decide) ?_
  refine lv_goto (tgt := 70) hx hb dL_net_66 (by decide) ?_
  exact en_wz () hx hb hr hlocks hS nw1 rfl hCW dL_net_70
set_option maxHeartbeats 4000000 in
set_option maxRecDepth 100000 in
theorem w_changes (l : Launch) (hfl : l.stackTraces = false) (G : GG) (a : Nat → Nat) (ha : Inj a) (t9 : Nat) (st : ST) (hO : OKS st) (z f9 g9 : Nat) (hz : z < 4) (hf : f9 ≤ 1073741823) (hg : g9 ≤ 1073741823) (v0 v1 v2 : Int32) (h0 : nI (tkV (st.1 z) st.2.1 f9 g9 (mxT (st.1 z) st.2.1 (nG (st.1 z)) + 1) 0) = v0) (h1 : nI (tkV (st.1 z) st.2.1 f9 g9 (mxT (st.1 z) st.2.1 (nG (st.1 z)) + 1) 1) = v1) (h2 : nI (tkV (st.1 z) st.2.1 f9 g9 (mxT (st.1 z) st.2.1 (nG (st.1 z)) + 1) 2) = v2) : Met l yL_changes wsL_changes ({ frames := 9, cells := 24, slots := 144, locals := 152 } : Room) (PcW G a t9 [.ref (a 0), .int (nI z), .int (nI f9), .int (nI g9), .int v0, .int v1, .int v2] (fun H => CW G a st H)) (QI (fun (r : Int32) (_ : Unit) => r = nI 1) (fun _ H => CW G a st H) (rng a 0 93)) 24 144 (rng a 0 93) := by
  refine Met.ofW (cc := cL_changes) (maxL := 7) (ret := (some .boolean)) (by decide) rfl ?_
  intro p e s m args below meth c s₁ B hml hv
  obtain ⟨⟨⟨⟨rfl, hCW, hK, hNW⟩, hLow⟩, hX⟩, hNC⟩ := hv
  have hx := B.exec
  have hb := B.bytes
  have hr := B.returns
  have hts := atoms_spec (ws := wsL_changes) B.pre
  have hown : s.vm.findClass RL = some m.cls := findClass_of_methodNamed B.named
  have hlocks := B.notSynchronized
  have FX : CallFix p m c cL_changes 7 s ([.ref (a 0), .int (nI z), .int (nI f9), .int (nI g9), .int v0, .int v1, .int v2] : List Value).toArray wsL_changes RL := ⟨hx, hb, hml, hown, hts⟩
  have hl := lv_entry ([.ref (a 0), .int (nI z), .int (nI f9), .int (nI g9), .int v0, .int v1, .int v2]) (n := 7) (Nat.le_of_ble_eq_true rfl)
  rw [lg_entry_eq]
  generalize (lg_sl ([.ref (a 0), .int (nI z), .int (nI f9), .int (nI g9), .int v0, .int v1, .int v2]) ++ List.replicate (7 - (lg_sl ([.ref (a 0), .int (nI z), .int (nI f9), .int (nI g9), .int v0, .int v1, .int v2])).length) Slot.unset).toArray = ls at hl ⊢
  have hl : lv_has ls 7 [(0, .ref (a 0)), (1, .int (nI z)), (2, .int (nI f9)), (3, .int (nI g9)), (4, .int v0), (5, .int v1), (6, .int v2)] := hl
  have hS : va_S (rng a 0 93) s.heap s.heap [] := va_S.rf
  refine lv_aload_n hx hb dL_changes_0 rfl (lv_at hl 0 rfl) ?_
  refine lv_iload_n hx hb dL_changes_1 rfl (lv_at hl 1 rfl) ?_
  refine lv_iload_n hx hb dL_changes_2 rfl (lv_at hl 2 rfl) ?_
  refine lv_iload_n hx hb dL_changes_3 rfl (lv_at hl 3 rfl) ?_
  refine lv_iconst (v := nI 0) hx hb dL_changes_4 (by decide) ?_
  refine wr_i (va_runV (As := [.int (nI z), .int (nI f9), .int (nI g9), .int (nI 0)]) (rest := []) FX (n_changes l hfl G a ha t9 st z f9 g9 0 hO hz hf hg (by decide)) (cwV 4 hts gL_changes_X11_changes rfl rfl rfl (by decide +kernel) ⟨Nat.le_of_ble_eq_true rfl, Nat.le_of_ble_eq_true rfl⟩) (preVX hK hNW hCW (hLow.at hS (fun q9 _ q => rng_M q9 q)) (hX.at hS (fun q9 _ q => rng_M q9 q)) (cw_recv hK hCW)) rfl rfl hl.1 rfl (lv_room (Nat.le_of_ble_eq_true rfl)) dL_changes_5 ⟨Nat.le_of_ble_eq_true rfl, Nat.le_of_ble_eq_true rfl⟩) hS (fun q h => h) (fun r _ H locs hp hCW hk hS => ?_)
  refine lv_as (y := v0) (hp.trans h0) ?_
  refine lv_iload hx hb dL_changes_8 (lv_at hl 4 rfl) ?_
  refine lv_icmp_ne (tgt := 82) hx hb dL_changes_10 (by decide) (fun c => absurd rfl c) (fun _ => ?_)
  refine lv_aload_n hx hb dL_changes_13 rfl (lv_at hl 0 rfl) ?_
  refine lv_iload_n hx hb dL_changes_14 rfl (lv_at hl 1 rfl) ?_
  refine lv_iload_n hx hb dL_changes_15 rfl (lv_at hl 2 rfl) ?_
  refine lv_iload_n hx hb dL_changes_16 rfl (lv_at hl 3 rfl) ?_
  refine lv_iconst (v := nI 1) hx hb dL_changes_17 (by decide) ?_
  refine wr_i (va_runV (As := [.int (nI z), .int (nI f9), .int (nI g9), .int (nI 1)]) (rest := []) FX (n_changes l hfl G a ha t9 st z f9 g9 1 hO hz hf hg (by decide)) (cwV 4 hts gL_changes_X11_changes rfl rfl rfl (by decide +kernel) ⟨Nat.le_of_ble_eq_true rfl, Nat.le_of_ble_eq_true rfl⟩) (preVX hK hNW hCW (hLow.at hS (fun q9 _ q => rng_M q9 q)) (hX.at hS (fun q9 _ q => rng_M q9 q)) (cw_recv hK hCW)) rfl rfl hl.1 rfl (lv_room (Nat.le_of_ble_eq_true rfl)) dL_changes_18 ⟨Nat.le_of_ble_eq_true rfl, Nat.le_of_ble_eq_true rfl⟩) hS (fun q h => h) (fun r _ H locs hp hCW hk hS => ?_)
  refine lv_as (y := v1) (hp.trans h1) ?_
  refine lv_iload hx hb dL_changes_21 (lv_at hl 5 rfl) ?_
  refine lv_icmp_ne (tgt := 82) hx hb dL_changes_23 (by decide) (fun c => absurd rfl c) (fun _ => ?_)
  refine lv_aload_n hx hb dL_changes_26 rfl (lv_at hl 0 rfl) ?_
  refine lv_iload_n hx hb dL_changes_27 rfl (lv_at hl 1 rfl) ?_
  refine lv_iload_n hx hb dL_changes_28 rfl (lv_at hl 2 rfl) ?_
  refine lv_iload_n hx hb dL_changes_29 rfl (lv_at hl 3 rfl) ?_
  refine lv_iconst (v := nI 2) hx hb dL_changes_30 (by decide) ?_
  refine wr_i (va_runV (As := [.int (nI z), .int (nI f9), .int (nI g9), .int (nI 2)]) (rest := []) FX (n_changes l hfl G a ha t9 st z f9 g9 2 hO hz hf hg (by decide)) (cwV 4 hts gL_changes_X11_changes rfl rfl rfl (by decide +kernel) ⟨Nat.le_of_ble_eq_true rfl, Nat.le_of_ble_eq_true rfl⟩) (preVX hK hNW hCW (hLow.at hS (fun q9 _ q => rng_M q9 q)) (hX.at hS (fun q9 _ q => rng_M q9 q)) (cw_recv hK hCW)) rfl rfl hl.1 rfl (lv_room (Nat.le_of_ble_eq_true rfl)) dL_changes_31 ⟨Nat.le_of_ble_eq_true rfl, Nat.le_of_ble_eq_true rfl⟩) hS (fun q h => h) (fun r _ H locs hp hCW hk hS => ?_)
  refine lv_as (y := v2) (hp.trans h2) ?_
  refine lv_iload hx hb dL_changes_34 (lv_at hl 6 rfl) ?_
  refine lv_icmp_ne (tgt := 82) hx hb dL_changes_36 (by decide) (fun c => absurd rfl c) (fun _ => ?_)
  refine lv_aload_n hx hb dL_changes_39 rfl (lv_at hl 0 rfl) ?_
  refine lv_iload_n hx hb dL_changes_40 rfl (lv_at hl 1 rfl) ?_
  refine lv_iload_n hx hb dL_changes_41 rfl (lv_at hl 2 rfl) ?_
  refine lv_iload_n hx hb dL_changes_42 rfl (lv_at hl 3 rfl) ?_
  refine lv_iconst (v := nI 0) hx hb dL_changes_43 (by decide) ?_
  refine wr_i (va_runV (As := [.int (nI z), .int (nI f9), .int (nI g9), .int (nI 0)]) (rest := []) FX (n_changesAnew l hfl G a ha t9 st z f9 g9 0 hO hz hf hg (by decide)) (cwV 4 hts gL_changes_X11_changesAnew rfl rfl rfl (by decide +kernel) ⟨Nat.le_of_ble_eq_true rfl, Nat.le_of_ble_eq_true rfl⟩) (preVX hK hNW hCW (hLow.at hS (fun q9 _ q => rng_M q9 q)) (hX.at hS (fun q9 _ q => rng_M q9 q)) (cw_recv hK hCW)) rfl rfl hl.1 rfl (lv_room (Nat.le_of_ble_eq_true rfl)) dL_changes_44 ⟨Nat.le_of_ble_eq_true rfl, Nat.le_of_ble_eq_true rfl⟩) hS (fun q h => h) (fun r _ H locs hp hCW hk hS => ?_)
  refine lv_as (y := v0) (hp.trans h0) ?_
  refine lv_iload hx hb dL_changes_47 (lv_at hl 4 rfl) ?_
  refine lv_icmp_ne (tgt := 82) hx hb dL_changes_49 (by decide) (fun c => absurd rfl c) (fun _ => ?_)
  refine lv_aload_n hx hb dL_changes_52 rfl (lv_at hl 0 rfl) ?_
  refine lv_iload_n hx hb dL_changes_53 rfl (lv_at hl 1 rfl) ?_
  refine lv_iload_n hx hb dL_changes_54 rfl (lv_at hl 2 rfl) ?_
  refine lv_iload_n hx hb dL_changes_55 rfl (lv_at hl 3 rfl) ?_
  refine lv_iconst (v := nI 1) hx hb dL_changes_56 (by decide) ?_
  refine wr_i (va_runV (As := [.int (nI z), .int (nI f9), .int (nI g9), .int (nI 1)]) (rest := []) FX (n_changesAnew l hfl G a ha t9 st z f9 g9 1 hO hz hf hg (by decide)) (cwV 4 hts gL_changes_X11_changesAnew rfl rfl rfl (by decide +kernel) ⟨Nat.le_of_ble_eq_true rfl, Nat.le_of_ble_eq_true rfl⟩) (preVX hK hNW hCW (hLow.at hS (fun q9 _ q => rng_M q9 q)) (hX.at hS (fun q9 _ q => rng_M q9 q)) (cw_recv hK hCW)) rfl rfl hl.1 rfl (lv_room (Nat.le_of_ble_eq_true rfl)) dL_changes_57 ⟨Nat.le_of_ble_eq_true rfl, Nat.le_of_ble_eq_true rfl⟩) hS (fun q h => h) (fun r _ H locs hp hCW hk hS => ?_)
  refine lv_as (y := v1) (hp.trans h1) ?_
  refine lv_iload hx hb dL_changes_60 (lv_at hl 5 rfl) ?_
  refine lv_icmp_ne (tgt := 82) hx hb dL_changes_62 (by decide) (fun c => absurd rfl c) (fun _ => ?_)
  refine lv_aload_n hx hb dL_changes_65 rfl (lv_at hl 0 rfl) ?_
  refine lv_iload_n hx hb dL_changes_66 rfl (lv_at hl 1 rfl) ?_
  refine lv_iload_n hx hb dL_changes_67 rfl (lv_at hl 2 rfl) ?_
  refine lv_iload_n hx hb dL_changes_68 rfl (lv_at hl 3 rfl) ?_
  refine lv_iconst (v := nI 2) hx hb dL_changes_69 (by decide) ?_
  refine wr_i (va_runV (As := [.int (nI z), .int (nI f9), .int (nI g9), .int (nI 2)]) (rest := []) FX (n_changesAnew l hfl G a ha t9 st z f9 g9 2 hO hz hf hg (by decide)) (cwV 4 hts gL_changes_X11_changesAnew rfl rfl rfl (by decide +kernel) ⟨Nat.le_of_ble_eq_true rfl, Nat.le_of_ble_eq_true rfl⟩) (preVX hK hNW hCW (hLow.at hS (fun q9 _ q => rng_M q9 q)) (hX.at hS (fun q9 _ q => rng_M q9 q)) (cw_recv hK hCW)) rfl rfl hl.1 rfl (lv_room (Nat.le_of_ble_eq_true rfl)) dL_changes_70 ⟨Nat.le_of_ble_eq_true rfl, Nat.le_of_ble_eq_true rfl⟩) hS (fun q h => h) (fun r _ H locs hp hCW hk hS => ?_)
  refine lv_as (y := v2) (hp.trans h2) ?_
  refine lv_iload hx hb dL_changes_73 (lv_at hl 6 rfl) ?_
  refine lv_icmp_ne (tgt := 82) hx hb dL_changes_75 (by decide) (fun c => absurd rfl c) (fun _ => ?_)
  refine lv_iconst (v := nI 1) hx hb dL_changes_78 (by decide) ?_
  refine lv_goto (tgt := 83) hx hb dL_changes_79 (by decide) ?_
  exact en_wz () hx hb hr hlocks hS nw1 rfl hCW dL_changes_83
set_option maxHeartbeats 4000000 in
set_option maxRecDepth 100000 in
theorem w_off (l : Launch) (hfl : l.stackTraces = false) (G : GG) (a : Nat → Nat) (ha : Inj a) (t9 : Nat) (st : ST) (hO : OKS st) (z op9 : Nat) (hz : z < 4) (ho : op9 ≤ 1) (hn : 2 ≤ nIn (st.1 z) ∧ nIn (st.1 z) ≤ 12 ∧ nIn (st.1 z) % 2 = 0) (v0 v1 v2 v3 : Int32) (h0 : offV (st.1 z) op9 0 = v0) (h1 : offV (st.1 z) op9 1 = v1) (h2 : offV (st.1 z) op9 2 = v2) (h3 : offV (st.1 z) op9 3 = v3) : Met l yL_off wsL_off ({ frames := 8, cells := 16, slots := 96, locals := 147 } : Room) (PcW G a t9 [.ref (a 0), .int (nI z), .int (nI op9), .int v0, .int v1, .int v2, .int v3] (fun H => CW G a st H)) (QI (fun (r : Int32) (_ : Unit) => r = nI 1) (fun _ H => CW G a st H) (rng a 0 93)) 16 96 (rng a 0 93) := by
  refine Met.ofW (cc := cL_off) (maxL := 7) (ret := (some .boolean)) (by decide) rfl ?_
  intro p e s m args below meth c s₁ B hml hv
  obtain ⟨⟨⟨⟨rfl, hCW, hK, hNW⟩, hLow⟩, hX⟩, hNC⟩ := hv
  have hx := B.exec
  have hb := B.bytes
  have hr := B.returns
  have hts := atoms_spec (ws := wsL_off) B.pre
  have hown : s.vm.findClass RL = some m.cls := findClass_of_methodNamed B.named
  have hlocks := B.notSynchronized
  have FX : CallFix p m c cL_off 7 s ([.ref (a 0), .int (nI z), .int (nI op9), .int v0, .int v1, .int v2, .int v3] : List Value).toArray wsL_off RL := ⟨hx, hb, hml, hown, hts⟩
  have hl := lv_entry ([.ref (a 0), .int (nI z), .int (nI op9), .int v0, .int v1, .int v2, .int v3]) (n := 7) (Nat.le_of_ble_eq_true rfl)
  rw [lg_entry_eq]
  generalize (lg_sl ([.ref (a 0), .int (nI z), .int (nI op9), .int v0, .int v1, .int v2, .int v3]) ++ List.replicate (7 - (lg_sl ([.ref (a 0), .int (nI z), .int (nI op9), .int v0, .int v1, .int v2, .int v3])).length) Slot.unset).toArray = ls at hl ⊢
  have hl : lv_has ls 7 [(0, .ref (a 0)), (1, .int (nI z)), (2, .int (nI op9)), (3, .int v0), (4, .int v1), (5, .int v2), (6, .int v3)] := hl
  have hS : va_S (rng a 0 93) s.heap s.heap [] := va_S.rf
  refine lv_aload_n hx hb dL_off_0 rfl (lv_at hl 0 rfl) ?_
  refine lv_iload_n hx hb dL_off_1 rfl (lv_at hl 1 rfl) ?_
  refine lv_iload_n hx hb dL_off_2 rfl (lv_at hl 2 rfl) ?_
  refine lv_iconst (v := nI 0) hx hb dL_off_3 (by decide) ?_
  refine wr_i (va_runV (As := [.int (nI z), .int (nI op9), .int (nI 0)]) (rest := []) FX (n_off l hfl G a ha t9 st z op9 0 hO hz ho (by decide) hn) (cwV 3 hts gL_off_X11_off rfl rfl rfl (by decide +kernel) ⟨Nat.le_of_ble_eq_true rfl, Nat.le_of_ble_eq_true rfl⟩) (preVX hK hNW hCW (hLow.at hS (fun q9 _ q => rng_M q9 q)) (hX.at hS (fun q9 _ q => rng_M q9 q)) (cw_recv hK hCW)) rfl rfl hl.1 rfl (lv_room (Nat.le_of_ble_eq_true rfl)) dL_off_4 ⟨Nat.le_of_ble_eq_true rfl, Nat.le_of_ble_eq_true rfl⟩) hS (fun q h => h) (fun r _ H locs hp hCW hk hS => ?_)
  refine lv_as (y := v0) (hp.trans h0) ?_
  refine lv_iload_n hx hb dL_off_7 rfl (lv_at hl 3 rfl) ?_
  refine lv_icmp_ne (tgt := 51) hx hb dL_off_8 (by decide) (fun c => absurd rfl c) (fun _ => ?_)
  refine lv_aload_n hx hb dL_off_11 rfl (lv_at hl 0 rfl) ?_
  refine lv_iload_n hx hb dL_off_12 rfl (lv_at hl 1 rfl) ?_
  refine lv_iload_n hx hb dL_off_13 rfl (lv_at hl 2 rfl) ?_
  refine lv_iconst (v := nI 1) hx hb dL_off_14 (by decide) ?_
  refine wr_i (va_runV (As := [.int (nI z), .int (nI op9), .int (nI 1)]) (rest := []) FX (n_off l hfl G a ha t9 st z op9 1 hO hz ho (by decide) hn) (cwV 3 hts gL_off_X11_off rfl rfl rfl (by decide +kernel) ⟨Nat.le_of_ble_eq_true rfl, Nat.le_of_ble_eq_true rfl⟩) (preVX hK hNW hCW (hLow.at hS (fun q9 _ q => rng_M q9 q)) (hX.at hS (fun q9 _ q => rng_M q9 q)) (cw_recv hK hCW)) rfl rfl hl.1 rfl (lv_room (Nat.le_of_ble_eq_true rfl)) dL_off_15 ⟨Nat.le_of_ble_eq_true rfl, Nat.le_of_ble_eq_true rfl⟩) hS (fun q h => h) (fun r _ H locs hp hCW hk hS => ?_)
  refine lv_as (y := v1) (hp.trans h1) ?_
  refine lv_iload hx hb dL_off_18 (lv_at hl 4 rfl) ?_
  refine lv_icmp_ne (tgt := 51) hx hb dL_off_20 (by decide) (fun c => absurd rfl c) (fun _ => ?_)
  refine lv_aload_n hx hb dL_off_23 rfl (lv_at hl 0 rfl) ?_
  refine lv_iload_n hx hb dL_off_24 rfl (lv_at hl 1 rfl) ?_
  refine lv_iload_n hx hb dL_off_25 rfl (lv_at hl 2 rfl) ?_
  refine lv_iconst (v := nI 2) hx hb dL_off_26 (by decide) ?_
  refine wr_i (va_runV (As := [.int (nI z), .int (nI op9), .int (nI 2)]) (rest := []) FX (n_off l hfl G a ha t9 st z op9 2 hO hz ho (by decide) hn) (cwV 3 hts gL_off_X11_off rfl rfl rfl (by decide +kernel) ⟨Nat.le_of_ble_eq_true rfl, Nat.le_of_ble_eq_true rfl⟩) (preVX hK hNW hCW (hLow.at hS (fun q9 _ q => rng_M q9 q)) (hX.at hS (fun q9 _ q => rng_M q9 q)) (cw_recv hK hCW)) rfl rfl hl.1 rfl (lv_room (Nat.le_of_ble_eq_true rfl)) dL_off_27 ⟨Nat.le_of_ble_eq_true rfl, Nat.le_of_ble_eq_true rfl⟩) hS (fun q h => h) (fun r _ H locs hp hCW hk hS => ?_)
  refine lv_as (y := v2) (hp.trans h2) ?_
  refine lv_iload hx hb dL_off_30 (lv_at hl 5 rfl) ?_
  refine lv_icmp_ne (tgt := 51) hx hb dL_off_32 (by decide) (fun c => absurd rfl c) (fun _ => ?_)
  refine lv_aload_n hx hb dL_off_35 rfl (lv_at hl 0 rfl) ?_
  refine lv_iload_n hx hb dL_off_36 rfl (lv_at hl 1 rfl) ?_
  refine lv_iload_n hx hb dL_off_37 rfl (lv_at hl 2 rfl) ?_
  refine lv_iconst (v := nI 3) hx hb dL_off_38 (by decide) ?_
  refine wr_i (va_runV (As := [.int (nI z), .int (nI op9), .int (nI 3)]) (rest := []) FX (n_off l hfl G a ha t9 st z op9 3 hO hz ho (by decide) hn) (cwV 3 hts gL_off_X11_off rfl rfl rfl (by decide +kernel) ⟨Nat.le_of_ble_eq_true rfl, Nat.le_of_ble_eq_true rfl⟩) (preVX hK hNW hCW (hLow.at hS (fun q9 _ q => rng_M q9 q)) (hX.at hS (fun q9 _ q => rng_M q9 q)) (cw_recv hK hCW)) rfl rfl hl.1 rfl (lv_room (Nat.le_of_ble_eq_true rfl)) dL_off_39 ⟨Nat.le_of_ble_eq_true rfl, Nat.le_of_ble_eq_true rfl⟩) hS (fun q h => h) (fun r _ H locs hp hCW hk hS => ?_)
  refine lv_as (y := v3) (hp.trans h3) ?_
  refine lv_iload hx hb dL_off_42 (lv_at hl 6 rfl) ?_
  refine lv_icmp_ne (tgt := 51) hx hb dL_off_44 (by decide) (fun c => absurd rfl c) (fun _ => ?_)
  refine lv_iconst (v := nI 1) hx hb dL_off_47 (by decide) ?_
  refine lv_goto (tgt := 52) hx hb dL_off_48 (by decide) ?_
  exact en_wz () hx hb hr hlocks hS nw1 rfl hCW dL_off_52
set_option maxHeartbeats 4000000 in
set_option maxRecDepth 100000 in
theorem w_path (l : Launch) (hfl : l.stackTraces = false) (G : GG) (a : Nat → Nat) (ha : Inj a) (t9 : Nat) (st : ST) (hO : OKS st) (z : Nat) (hz : z < 4) (v0 v1 v2 v3 v4 : Int32) (h0 : paV (st.1 z) st.2.1 (nI 0) = v0) (h1 : paV (st.1 z) st.2.1 (nI 1) = v1) (h2 : paV (st.1 z) st.2.1 (nI 2) = v2) (h3 : paV (st.1 z) st.2.1 (nI 3) = v3) (h4 : paV (st.1 z) st.2.1 (nI 4) = v4) : Met l yL_path wsL_path ({ frames := 8, cells := 12, slots := 72, locals := 128 } : Room) (PcW G a t9 [.ref (a 0), .int (nI z), .int v0, .int v1, .int v2, .int v3, .int v4] (fun H => CW G a st H)) (QI (fun (r : Int32) (_ : Unit) => r = nI 1) (fun _ H => CW G a st H) (rng a 0 93)) 12 72 (rng a 0 93) := by
  refine Met.ofW (cc := cL_path) (maxL := 7) (ret := (some .boolean)) (by decide) rfl ?_
  intro p e s m args below meth c s₁ B hml hv
  obtain ⟨⟨⟨⟨rfl, hCW, hK, hNW⟩, hLow⟩, hX⟩, hNC⟩ := hv
  have hx := B.exec
  have hb := B.bytes
  have hr := B.returns
  have hts := atoms_spec (ws := wsL_path) B.pre
  have hown : s.vm.findClass RL = some m.cls := findClass_of_methodNamed B.named
  have hlocks := B.notSynchronized
  have FX : CallFix p m c cL_path 7 s ([.ref (a 0), .int (nI z), .int v0, .int v1, .int v2, .int v3, .int v4] : List Value).toArray wsL_path RL := ⟨hx, hb, hml, hown, hts⟩
  have hl := lv_entry ([.ref (a 0), .int (nI z), .int v0, .int v1, .int v2, .int v3, .int v4]) (n := 7) (Nat.le_of_ble_eq_true rfl)
  rw [lg_entry_eq]
  generalize (lg_sl ([.ref (a 0), .int (nI z), .int v0, .int v1, .int v2, .int v3, .int v4]) ++ List.replicate (7 - (lg_sl ([.ref (a 0), .int (nI z), .int v0, .int v1, .int v2, .int v3, .int v4])).length) Slot.unset).toArray = ls at hl ⊢
  have hl : lv_has ls 7 [(0, .ref (a 0)), (1, .int (nI z)), (2, .int v0), (3, .int v1), (4, .int v2), (5, .int v3), (6, .int v4)] := hl
  have hS : va_S (rng a 0 93) s.heap s.heap [] := va_S.rf
  refine lv_aload_n hx hb dL_path_0 rfl (lv_at hl 0 rfl) ?_
  refine lv_iload_n hx hb dL_path_1 rfl (lv_at hl 1 rfl) ?_
  refine lv_iconst (v := nI 0) hx hb dL_path_2 (by decide) ?_
  refine wr_i (va_runV (As := [.int (nI z), .int (nI 0)]) (rest := []) FX (n_path l hfl G a ha t9 st z 0 hO hz (by decide)) (cwV 2 hts gL_path_X11_path rfl rfl rfl (by decide +kernel) ⟨Nat.le_of_ble_eq_true rfl, Nat.le_of_ble_eq_true rfl⟩) (preVX hK hNW hCW (hLow.at hS (fun q9 _ q => rng_M q9 q)) (hX.at hS (fun q9 _ q => rng_M q9 q)) (cw_recv hK hCW)) rfl rfl hl.1 rfl (lv_room (Nat.le_of_ble_eq_true rfl)) dL_path_3 ⟨Nat.le_of_ble_eq_true rfl, Nat.le_of_ble_eq_true rfl⟩) hS (fun q h => h) (fun r _ H locs hp hCW hk hS => ?_)
  refine lv_as (y := v0) (hp.trans h0) ?_
  refine lv_iload_n hx hb dL_path_6 rfl (lv_at hl 2 rfl) ?_
  refine lv_icmp_ne (tgt := 68) hx hb dL_path_7 (by decide) (fun c => absurd rfl c) (fun _ => ?_)
  refine lv_aload_n hx hb dL_path_10 rfl (lv_at hl 0 rfl) ?_
  refine lv_iload_n hx hb dL_path_11 rfl (lv_at hl 1 rfl) ?_
  refine lv_iconst (v := nI 1) hx hb dL_path_12 (by decide) ?_
  refine wr_i (va_runV (As := [.int (nI z), .int (nI 1)]) (rest := []) FX (n_path l hfl G a ha t9 st z 1 hO hz (by decide)) (cwV 2 hts gL_path_X11_path rfl rfl rfl (by decide +kernel) ⟨Nat.le_of_ble_eq_true rfl, Nat.le_of_ble_eq_true rfl⟩) (preVX hK hNW hCW (hLow.at hS (fun q9 _ q => rng_M q9 q)) (hX.at hS (fun q9 _ q => rng_M q9 q)) (cw_recv hK hCW)) rfl rfl hl.1 rfl (lv_room (Nat.le_of_ble_eq_true rfl)) dL_path_13 ⟨Nat.le_of_ble_eq_true rfl, Nat.le_of_ble_eq_true rfl⟩) hS (fun q h => h) (fun r _ H locs hp hCW hk hS => ?_)
  refine lv_as (y := v1) (hp.trans h1) ?_
  refine lv_iload_n hx hb dL_path_16 rfl (lv_at hl 3 rfl) ?_
  refine lv_icmp_ne (tgt := 68) hx hb dL_path_17 (by decide) (fun c => absurd rfl c) (fun _ => ?_)
  refine lv_aload_n hx hb dL_path_20 rfl (lv_at hl 0 rfl) ?_
  refine lv_iload_n hx hb dL_path_21 rfl (lv_at hl 1 rfl) ?_
  refine lv_iconst (v := nI 2) hx hb dL_path_22 (by decide) ?_
  refine wr_i (va_runV (As := [.int (nI z), .int (nI 2)]) (rest := []) FX (n_path l hfl G a ha t9 st z 2 hO hz (by decide)) (cwV 2 hts gL_path_X11_path rfl rfl rfl (by decide +kernel) ⟨Nat.le_of_ble_eq_true rfl, Nat.le_of_ble_eq_true rfl⟩) (preVX hK hNW hCW (hLow.at hS (fun q9 _ q => rng_M q9 q)) (hX.at hS (fun q9 _ q => rng_M q9 q)) (cw_recv hK hCW)) rfl rfl hl.1 rfl (lv_room (Nat.le_of_ble_eq_true rfl)) dL_path_23 ⟨Nat.le_of_ble_eq_true rfl, Nat.le_of_ble_eq_true rfl⟩) hS (fun q h => h) (fun r _ H locs hp hCW hk hS => ?_)
  refine lv_as (y := v2) (hp.trans h2) ?_
  refine lv_iload hx hb dL_path_26 (lv_at hl 4 rfl) ?_
  refine lv_icmp_ne (tgt := 68) hx hb dL_path_28 (by decide) (fun c => absurd rfl c) (fun _ => ?_)
  refine lv_aload_n hx hb dL_path_31 rfl (lv_at hl 0 rfl) ?_
  refine lv_iload_n hx hb dL_path_32 rfl (lv_at hl 1 rfl) ?_
  refine lv_iconst (v := nI 3) hx hb dL_path_33 (by decide) ?_
  refine wr_i (va_runV (As := [.int (nI z), .int (nI 3)]) (rest := []) FX (n_path l hfl G a ha t9 st z 3 hO hz (by decide)) (cwV 2 hts gL_path_X11_path rfl rfl rfl (by decide +kernel) ⟨Nat.le_of_ble_eq_true rfl, Nat.le_of_ble_eq_true rfl⟩) (preVX hK hNW hCW (hLow.at hS (fun q9 _ q => rng_M q9 q)) (hX.at hS (fun q9 _ q => rng_M q9 q)) (cw_recv hK hCW)) rfl rfl hl.1 rfl (lv_room (Nat.le_of_ble_eq_true rfl)) dL_path_34 ⟨Nat.le_of_ble_eq_true rfl, Nat.le_of_ble_eq_true rfl⟩) hS (fun q h => h) (fun r _ H locs hp hCW hk hS => ?_)
  refine lv_as (y := v3) (hp.trans h3) ?_
  refine lv_iload hx hb dL_path_37 (lv_at hl 5 rfl) ?_
  refine lv_icmp_ne (tgt := 68) hx hb dL_path_39 (by decide) (fun c => absurd rfl c) (fun _ => ?_)
  refine lv_aload_n hx hb dL_path_42 rfl (lv_at hl 0 rfl) ?_
  refine lv_iload_n hx hb dL_path_43 rfl (lv_at hl 1 rfl) ?_
  refine lv_iconst (v := nI 4) hx hb dL_path_44 (by decide) ?_
  refine wr_i (va_runV (As := [.int (nI z), .int (nI 4)]) (rest := []) FX (n_path l hfl G a ha t9 st z 4 hO hz (by decide)) (cwV 2 hts gL_path_X11_path rfl rfl rfl (by decide +kernel) ⟨Nat.le_of_ble_eq_true rfl, Nat.le_of_ble_eq_true rfl⟩) (preVX hK hNW hCW (hLow.at hS (fun q9 _ q => rng_M q9 q)) (hX.at hS (fun q9 _ q => rng_M q9 q)) (cw_recv hK hCW)) rfl rfl hl.1 rfl (lv_room (Nat.le_of_ble_eq_true rfl)) dL_path_45 ⟨Nat.le_of_ble_eq_true rfl, Nat.le_of_ble_eq_true rfl⟩) hS (fun q h => h) (fun r _ H locs hp hCW hk hS => ?_)
  refine lv_as (y := v4) (hp.trans h4) ?_
  refine lv_iload hx hb dL_path_48 (lv_at hl 6 rfl) ?_
  refine lv_icmp_ne (tgt := 68) hx hb dL_path_50 (by decide) (fun c => absurd rfl c) (fun _ => ?_)
  refine lv_aload_n hx hb dL_path_53 rfl (lv_at hl 0 rfl) ?_
  refine lv_iload_n hx hb dL_path_54 rfl (lv_at hl 1 rfl) ?_
  refine lv_ldc (v := nI 2147483647) hx hb hown (hts (.constant RL 82 (2147483647)) (List.mem_of_getElem? (i := 1) (by decide +kernel))) dL_path_55 ?_
  refine wr_i (va_runV (As := [.int (nI z), .int (nI 2147483647)]) (rest := []) FX (n_path l hfl G a ha t9 st z 2147483647 hO hz (by decide)) (cwV 2 hts gL_path_X11_path rfl rfl rfl (by decide +kernel) ⟨Nat.le_of_ble_eq_true rfl, Nat.le_of_ble_eq_true rfl⟩) (preVX hK hNW hCW (hLow.at hS (fun q9 _ q => rng_M q9 q)) (hX.at hS (fun q9 _ q => rng_M q9 q)) (cw_recv hK hCW)) rfl rfl hl.1 rfl (lv_room (Nat.le_of_ble_eq_true rfl)) dL_path_57 ⟨Nat.le_of_ble_eq_true rfl, Nat.le_of_ble_eq_true rfl⟩) hS (fun q h => h) (fun r _ H locs hp hCW hk hS => ?_)
  refine lv_as (y := -1) (hp.trans (pa_far (by decide) (by decide))) ?_
  refine lv_iconst (v := -1) hx hb dL_path_60 (by decide) ?_
  refine lv_icmp_ne (tgt := 68) hx hb dL_path_61 (by decide) (fun c => absurd c (by decide)) (fun _ => ?_)
  refine lv_iconst (v := nI 1) hx hb dL_path_64 (by decide) ?_
  refine lv_goto (tgt := 69) hx hb dL_path_65 (by decide) ?_
  exact en_wz () hx hb hr hlocks hS nw1 rfl hCW dL_path_69
set_option maxHeartbeats 4000000 in
set_option maxRecDepth 100000 in
theorem w_value (l : Launch) (hfl : l.stackTraces = false) (G : GG) (a : Nat → Nat) (ha : Inj a) (t9 : Nat) (st : ST) (hO : OKS st) (z x9 : Nat) (hz : z < 4) (hx9 : x9 ≤ 1073741823) (v0 : Int32) (h0 : vl (st.1 z) x9 = v0) : Met l yL_value wsL_value ({ frames := 8, cells := 4, slots := 24, locals := 129 } : Room) (PcW G a t9 [.ref (a 0), .int (nI z), .int (nI x9), .int v0] (fun H => CW G a st H)) (QI (fun (r : Int32) (_ : Unit) => r = nI 1) (fun _ H => CW G a st H) (rng a 0 93)) 4 24 (rng a 0 93) := by
  refine Met.ofW (cc := cL_value) (maxL := 4) (ret := (some .boolean)) (by decide) rfl ?_
  intro p e s m args below meth c s₁ B hml hv
  obtain ⟨⟨⟨⟨rfl, hCW, hK, hNW⟩, hLow⟩, hX⟩, hNC⟩ := hv
  have hx := B.exec
  have hb := B.bytes
  have hr := B.returns
  have hts := atoms_spec (ws := wsL_value) B.pre
  have hown : s.vm.findClass RL = some m.cls := findClass_of_methodNamed B.named
  have hlocks := B.notSynchronized
  have FX : CallFix p m c cL_value 4 s ([.ref (a 0), .int (nI z), .int (nI x9), .int v0] : List Value).toArray wsL_value RL := ⟨hx, hb, hml, hown, hts⟩
  have hl := lv_entry ([.ref (a 0), .int (nI z), .int (nI x9), .int v0]) (n := 4) (Nat.le_of_ble_eq_true rfl)
  rw [lg_entry_eq]
  generalize (lg_sl ([.ref (a 0), .int (nI z), .int (nI x9), .int v0]) ++ List.replicate (4 - (lg_sl ([.ref (a 0), .int (nI z), .int (nI x9), .int v0])).length) Slot.unset).toArray = ls at hl ⊢
  have hl : lv_has ls 4 [(0, .ref (a 0)), (1, .int (nI z)), (2, .int (nI x9)), (3, .int v0)] := hl
  have hS : va_S (rng a 0 93) s.heap s.heap [] := va_S.rf
  refine lv_aload_n hx hb dL_value_0 rfl (lv_at hl 0 rfl) ?_
  refine lv_iload_n hx hb dL_value_1 rfl (lv_at hl 1 rfl) ?_
  refine lv_iload_n hx hb dL_value_2 rfl (lv_at hl 2 rfl) ?_
  refine wr_i (va_runV (As := [.int (nI z), .int (nI x9)]) (rest := []) FX (n_value l hfl G a ha t9 st z x9 hO hz hx9) (cwV 2 hts gL_value_X11_value rfl rfl rfl (by decide +kernel) ⟨Nat.le_of_ble_eq_true rfl, Nat.le_of_ble_eq_true rfl⟩) (preVX hK hNW hCW (hLow.at hS (fun q9 _ q => rng_M q9 q)) (hX.at hS (fun q9 _ q => rng_M q9 q)) (cw_recv hK hCW)) rfl rfl hl.1 rfl (lv_room (Nat.le_of_ble_eq_true rfl)) dL_value_3 ⟨Nat.le_of_ble_eq_true rfl, Nat.le_of_ble_eq_true rfl⟩) hS (fun q h => h) (fun r _ H locs hp hCW hk hS => ?_)
  refine lv_as (y := v0) (hp.trans h0) ?_
  refine lv_iload_n hx hb dL_value_6 rfl (lv_at hl 3 rfl) ?_
  refine lv_icmp_ne (tgt := 24) hx hb dL_value_7 (by decide) (fun c => absurd rfl c) (fun _ => ?_)
  refine lv_aload_n hx hb dL_value_10 rfl (lv_at hl 0 rfl) ?_
  refine lv_iload_n hx hb dL_value_11 rfl (lv_at hl 1 rfl) ?_
  refine lv_iload_n hx hb dL_value_12 rfl (lv_at hl 2 rfl) ?_
  refine wr_i (va_runV (As := [.int (nI z), .int (nI x9)]) (rest := []) FX (n_valueAnew l hfl G a ha t9 st z x9 hO hz hx9) (cwV 2 hts gL_value_X11_valueAnew rfl rfl rfl (by decide +kernel) ⟨Nat.le_of_ble_eq_true rfl, Nat.le_of_ble_eq_true rfl⟩) (preVX hK hNW hCW (hLow.at hS (fun q9 _ q => rng_M q9 q)) (hX.at hS (fun q9 _ q => rng_M q9 q)) (cw_recv hK hCW)) rfl rfl hl.1 rfl (lv_room (Nat.le_of_ble_eq_true rfl)) dL_value_13 ⟨Nat.le_of_ble_eq_true rfl, Nat.le_of_ble_eq_true rfl⟩) hS (fun q h => h) (fun r _ H locs hp hCW hk hS => ?_)
  refine lv_as (y := v0) (hp.trans h0) ?_
  refine lv_iload_n hx hb dL_value_16 rfl (lv_at hl 3 rfl) ?_
  refine lv_icmp_ne (tgt := 24) hx hb dL_value_17 (by decide) (fun c => absurd rfl c) (fun _ => ?_)
  refine lv_iconst (v := nI 1) hx hb dL_value_20 (by decide) ?_
  refine lv_goto (tgt := 25) hx hb dL_value_21 (by decide) ?_
  exact en_wz () hx hb hr hlocks hS nw1 rfl hCW dL_value_25
set_option maxHeartbeats 4000000 in
set_option maxRecDepth 100000 in
theorem w_digits (l : Launch) (hfl : l.stackTraces = false) (G : GG) (a : Nat → Nat) (ha : Inj a) (t9 : Nat) (st : ST) (hO : OKS st)  : Met l yL_digits wsL_digits ({ frames := 8, cells := 57, slots := 342, locals := 128 } : Room) (PcW G a t9 [.ref (a 0)] (fun H => CW G a st H)) (QI (fun (r : Int32) (_ : Unit) => r = nI 1) (fun _ H => CW G a st H) (rng a 0 93)) 57 342 (rng a 0 93) := by
  refine Met.ofW (cc := cL_digits) (maxL := 4) (ret := (some .boolean)) (by decide) rfl ?_
  intro p e s m args below meth c s₁ B hml hv
  obtain ⟨⟨⟨⟨rfl, hCW, hK, hNW⟩, hLow⟩, hX⟩, hNC⟩ := hv
  have hx := B.exec
  have hb := B.bytes
  have hr := B.returns
  have hts := atoms_spec (ws := wsL_digits) B.pre
  have hown : s.vm.findClass RL = some m.cls := findClass_of_methodNamed B.named
  have hlocks := B.notSynchronized
  have FX : CallFix p m c cL_digits 4 s ([.ref (a 0)] : List Value).toArray wsL_digits RL := ⟨hx, hb, hml, hown, hts⟩
  have hl := lv_entry ([.ref (a 0)]) (n := 4) (Nat.le_of_ble_eq_true rfl)
  rw [lg_entry_eq]
  generalize (lg_sl ([.ref (a 0)]) ++ List.replicate (4 - (lg_sl ([.ref (a 0)])).length) Slot.unset).toArray = ls at hl ⊢
  have hl : lv_has ls 4 [(0, .ref (a 0))] := hl
  have hS : va_S (rng a 0 93) s.heap s.heap [] := va_S.rf
  refine lv_iconst (v := nI 0) hx hb dL_digits_0 (by decide) ?_
  refine lv_istore_n (lv' := [(1, .int (nI 0)), (0, .ref (a 0))]) hx hb dL_digits_1 rfl hl (by decide) rfl (fun ls hl => ?_)
  refine lv_iconst (v := nI 1) hx hb dL_digits_2 (by decide) ?_
  refine lv_istore_n (lv' := [(2, .int (nI 1)), (1, .int (nI 0)), (0, .ref (a 0))]) hx hb dL_digits_3 rfl hl (by decide) rfl (fun ls hl => ?_)
  refine lv_iconst (v := nI 0) hx hb dL_digits_4 (by decide) ?_
  refine lv_istore_n (lv' := [(3, .int (nI 0)), (2, .int (nI 1)), (1, .int (nI 0)), (0, .ref (a 0))]) hx hb dL_digits_5 rfl hl (by decide) rfl (fun ls hl => ?_)
  refine lv_iload_n hx hb dL_digits_6 rfl (lv_at hl 0 rfl) ?_
  refine lv_bipush (v := nI 16) hx hb dL_digits_7 (by decide) ?_
  refine lv_icmp_ge (tgt := 94) hx hb dL_digits_9 (by decide) (fun c => absurd c (by decide)) (fun _ => ?_)
  refine lv_aload_n hx hb dL_digits_12 rfl (lv_at hl 3 rfl) ?_
  refine lv_iconst (v := nI 0) hx hb dL_digits_13 (by decide) ?_
  refine lv_iload_n hx hb dL_digits_14 rfl (lv_at hl 0 rfl) ?_
  refine wr_i (va_runV (As := [.int (nI 0), .int (nI 0)]) (rest := []) FX (n_digit l hfl G a ha t9 st 0 0 hO (by decide) (by decide)) (cwV 2 hts gL_digits_X11_digit rfl rfl rfl (by decide +kernel) ⟨Nat.le_of_ble_eq_true rfl, Nat.le_of_ble_eq_true rfl⟩) (preVX hK hNW hCW (hLow.at hS (fun q9 _ q => rng_M q9 q)) (hX.at hS (fun q9 _ q => rng_M q9 q)) (cw_recv hK hCW)) rfl rfl hl.1 rfl (lv_room (Nat.le_of_ble_eq_true rfl)) dL_digits_15 ⟨Nat.le_of_ble_eq_true rfl, Nat.le_of_ble_eq_true rfl⟩) hS (fun q h => h) (fun r _ H locs hp hCW hk hS => ?_)
  refine lv_as (y := nI 0) (hp.trans (by decide +kernel)) ?_
  refine lv_if_ne (tgt := 50) hx hb dL_digits_18 (by decide) (fun c => absurd c (by decide)) (fun _ => ?_)
  refine lv_aload_n hx hb dL_digits_21 rfl (lv_at hl 3 rfl) ?_
  refine lv_ldc (v := nI 2147483647) hx hb hown (hts (.constant RL 82 (2147483647)) (List.mem_of_getElem? (i := 1) (by decide +kernel))) dL_digits_22 ?_
  refine lv_iload_n hx hb dL_digits_24 rfl (lv_at hl 0 rfl) ?_
  refine wr_i (va_runV (As := [.int (nI 2147483647), .int (nI 0)]) (rest := []) FX (n_digit l hfl G a ha t9 st 2147483647 0 hO (by decide) (by decide)) (cwV 2 hts gL_digits_X11_digit rfl rfl rfl (by decide +kernel) ⟨Nat.le_of_ble_eq_true rfl, Nat.le_of_ble_eq_true rfl⟩) (preVX hK hNW hCW (hLow.at hS (fun q9 _ q => rng_M q9 q)) (hX.at hS (fun q9 _ q => rng_M q9 q)) (cw_recv hK hCW)) rfl rfl hl.1 rfl (lv_room (Nat.le_of_ble_eq_true rfl)) dL_digits_25 ⟨Nat.le_of_ble_eq_true rfl, Nat.le_of_ble_eq_true rfl⟩) hS (fun q h => h) (fun r _ H locs hp hCW hk hS => ?_)
  refine lv_as (y := -1) (hp.trans (by decide +kernel)) ?_
  refine lv_iload_n hx hb dL_digits_28 rfl (lv_at hl 0 rfl) ?_
  refine lv_if_ne (tgt := 36) hx hb dL_digits_29 (by decide) (fun c => absurd c (by decide)) (fun _ => ?_)
  refine lv_iconst (v := -1) hx hb dL_digits_32 (by decide) ?_
  refine lv_goto (tgt := 47) hx hb dL_digits_33 (by decide) ?_
  refine lv_icmp_eq (tgt := 52) hx hb dL_digits_47 (by decide) (fun _ => ?_) (fun c => absurd c (by decide))
  refine lv_iload_n hx hb dL_digits_52 rfl (lv_at hl 2 rfl) ?_
  refine lv_iload_n hx hb dL_digits_53 rfl (lv_at hl 0 rfl) ?_
  refine lv_bipush (v := nI 15) hx hb dL_digits_54 (by decide) ?_
  refine lv_icmp_ge (tgt := 71) hx hb dL_digits_56 (by decide) (fun c => absurd c (by decide)) (fun _ => ?_)
  refine lv_aload_n hx hb dL_digits_59 rfl (lv_at hl 3 rfl) ?_
  refine lv_ldc (v := nI 123456789) hx hb hown (hts (.constant RL 126 (123456789)) (List.mem_of_getElem? (i := 2) (by decide +kernel))) dL_digits_60 ?_
  refine lv_iload_n hx hb dL_digits_62 rfl (lv_at hl 0 rfl) ?_
  refine wr_i (va_runV (As := [.int (nI 123456789), .int (nI 0)]) (rest := [.int (nI 0)]) FX (n_digit l hfl G a ha t9 st 123456789 0 hO (by decide) (by decide)) (cwV 2 hts gL_digits_X11_digit rfl rfl rfl (by decide +kernel) ⟨Nat.le_of_ble_eq_true rfl, Nat.le_of_ble_eq_true rfl⟩) (preVX hK hNW hCW (hLow.at hS (fun q9 _ q => rng_M q9 q)) (hX.at hS (fun q9 _ q => rng_M q9 q)) (cw_recv hK hCW)) rfl rfl hl.1 rfl (lv_room (Nat.le_of_ble_eq_true rfl)) dL_digits_63 ⟨Nat.le_of_ble_eq_true rfl, Nat.le_of_ble_eq_true rfl⟩) hS (fun q h => h) (fun r _ H locs hp hCW hk hS => ?_)
  refine lv_as (y := nI 1) (hp.trans (by decide +kernel)) ?_
  refine lv_iload_n hx hb dL_digits_66 rfl (lv_at hl 1 rfl) ?_
  refine lv_imul hx hb dL_digits_67 ?_
  refine lv_as (y := nI 1) (by decide) ?_
  refine lv_goto (tgt := 72) hx hb dL_digits_68 (by decide) ?_
  refine lv_iadd hx hb dL_digits_72 ?_
  refine lv_as (y := nI 1) (by decide) ?_
  refine lv_istore_n (lv' := [(1, .int (nI 1)), (3, .int (nI 0)), (2, .int (nI 1)), (0, .ref (a 0))]) hx hb dL_digits_73 rfl hl (by decide) rfl (fun ls hl => ?_)
  refine lv_iload_n hx hb dL_digits_74 rfl (lv_at hl 2 rfl) ?_
  refine lv_iload_n hx hb dL_digits_75 rfl (lv_at hl 1 rfl) ?_
  refine lv_bipush (v := nI 14) hx hb dL_digits_76 (by decide) ?_
  refine lv_icmp_ge (tgt := 85) hx hb dL_digits_78 (by decide) (fun c => absurd c (by decide)) (fun _ => ?_)
  refine lv_iconst (v := nI 4) hx hb dL_digits_81 (by decide) ?_
  refine lv_goto (tgt := 86) hx hb dL_digits_82 (by decide) ?_
  refine lv_imul hx hb dL_digits_86 ?_
  refine lv_as (y := nI 4) (by decide) ?_
  refine lv_istore_n (lv' := [(2, .int (nI 4)), (1, .int (nI 1)), (3, .int (nI 0)), (0, .ref (a 0))]) hx hb dL_digits_87 rfl hl (by decide) rfl (fun ls hl => ?_)
  refine lv_iinc (v := nI 1) (lv' := [(3, .int (nI 1)), (2, .int (nI 4)), (1, .int (nI 1)), (0, .ref (a 0))]) hx hb dL_digits_88 hl (k := 2) rfl (by decide) (by decide) rfl (fun ls hl => ?_)
  refine lv_goto (tgt := 6) hx hb dL_digits_91 (by decide) ?_
  refine lv_iload_n hx hb dL_digits_6 rfl (lv_at hl 0 rfl) ?_
  refine lv_bipush (v := nI 16) hx hb dL_digits_7 (by decide) ?_
  refine lv_icmp_ge (tgt := 94) hx hb dL_digits_9 (by decide) (fun c => absurd c (by decide)) (fun _ => ?_)
  refine lv_aload_n hx hb dL_digits_12 rfl (lv_at hl 3 rfl) ?_
  refine lv_iconst (v := nI 0) hx hb dL_digits_13 (by decide) ?_
  refine lv_iload_n hx hb dL_digits_14 rfl (lv_at hl 0 rfl) ?_
  refine wr_i (va_runV (As := [.int (nI 0), .int (nI 1)]) (rest := []) FX (n_digit l hfl G a ha t9 st 0 1 hO (by decide) (by decide)) (cwV 2 hts gL_digits_X11_digit rfl rfl rfl (by decide +kernel) ⟨Nat.le_of_ble_eq_true rfl, Nat.le_of_ble_eq_true rfl⟩) (preVX hK hNW hCW (hLow.at hS (fun q9 _ q => rng_M q9 q)) (hX.at hS (fun q9 _ q => rng_M q9 q)) (cw_recv hK hCW)) rfl rfl hl.1 rfl (lv_room (Nat.le_of_ble_eq_true rfl)) dL_digits_15 ⟨Nat.le_of_ble_eq_true rfl, Nat.le_of_ble_eq_true rfl⟩) hS (fun q h => h) (fun r _ H locs hp hCW hk hS => ?_)
  refine lv_as (y := nI 0) (hp.trans (by decide +kernel)) ?_
  refine lv_if_ne (tgt := 50) hx hb dL_digits_18 (by decide) (fun c => absurd c (by decide)) (fun _ => ?_)
  refine lv_aload_n hx hb dL_digits_21 rfl (lv_at hl 3 rfl) ?_
  refine lv_ldc (v := nI 2147483647) hx hb hown (hts (.constant RL 82 (2147483647)) (List.mem_of_getElem? (i := 1) (by decide +kernel))) dL_digits_22 ?_
  refine lv_iload_n hx hb dL_digits_24 rfl (lv_at hl 0 rfl) ?_
  refine wr_i (va_runV (As := [.int (nI 2147483647), .int (nI 1)]) (rest := []) FX (n_digit l hfl G a ha t9 st 2147483647 1 hO (by decide) (by decide)) (cwV 2 hts gL_digits_X11_digit rfl rfl rfl (by decide +kernel) ⟨Nat.le_of_ble_eq_true rfl, Nat.le_of_ble_eq_true rfl⟩) (preVX hK hNW hCW (hLow.at hS (fun q9 _ q => rng_M q9 q)) (hX.at hS (fun q9 _ q => rng_M q9 q)) (cw_recv hK hCW)) rfl rfl hl.1 rfl (lv_room (Nat.le_of_ble_eq_true rfl)) dL_digits_25 ⟨Nat.le_of_ble_eq_true rfl, Nat.le_of_ble_eq_true rfl⟩) hS (fun q h => h) (fun r _ H locs hp hCW hk hS => ?_)
  refine lv_as (y := nI 0) (hp.trans (by decide +kernel)) ?_
  refine lv_iload_n hx hb dL_digits_28 rfl (lv_at hl 0 rfl) ?_
  refine lv_if_ne (tgt := 36) hx hb dL_digits_29 (by decide) (fun _ => ?_) (fun c => absurd c (by decide))
  refine lv_iload_n hx hb dL_digits_36 rfl (lv_at hl 0 rfl) ?_
  refine lv_bipush (v := nI 15) hx hb dL_digits_37 (by decide) ?_
  refine lv_icmp_ne (tgt := 46) hx hb dL_digits_39 (by decide) (fun _ => ?_) (fun c => absurd c (by decide))
  refine lv_iconst (v := nI 0) hx hb dL_digits_46 (by decide) ?_
  refine lv_icmp_eq (tgt := 52) hx hb dL_digits_47 (by decide) (fun _ => ?_) (fun c => absurd c (by decide))
  refine lv_iload_n hx hb dL_digits_52 rfl (lv_at hl 2 rfl) ?_
  refine lv_iload_n hx hb dL_digits_53 rfl (lv_at hl 0 rfl) ?_
  refine lv_bipush (v := nI 15) hx hb dL_digits_54 (by decide) ?_
  refine lv_icmp_ge (tgt := 71) hx hb dL_digits_56 (by decide) (fun c => absurd c (by decide)) (fun _ => ?_)
  refine lv_aload_n hx hb dL_digits_59 rfl (lv_at hl 3 rfl) ?_
  refine lv_ldc (v := nI 123456789) hx hb hown (hts (.constant RL 126 (123456789)) (List.mem_of_getElem? (i := 2) (by decide +kernel))) dL_digits_60 ?_
  refine lv_iload_n hx hb dL_digits_62 rfl (lv_at hl 0 rfl) ?_
  refine wr_i (va_runV (As := [.int (nI 123456789), .int (nI 1)]) (rest := [.int (nI 1)]) FX (n_digit l hfl G a ha t9 st 123456789 1 hO (by decide) (by decide)) (cwV 2 hts gL_digits_X11_digit rfl rfl rfl (by decide +kernel) ⟨Nat.le_of_ble_eq_true rfl, Nat.le_of_ble_eq_true rfl⟩) (preVX hK hNW hCW (hLow.at hS (fun q9 _ q => rng_M q9 q)) (hX.at hS (fun q9 _ q => rng_M q9 q)) (cw_recv hK hCW)) rfl rfl hl.1 rfl (lv_room (Nat.le_of_ble_eq_true rfl)) dL_digits_63 ⟨Nat.le_of_ble_eq_true rfl, Nat.le_of_ble_eq_true rfl⟩) hS (fun q h => h) (fun r _ H locs hp hCW hk hS => ?_)
  refine lv_as (y := nI 1) (hp.trans (by decide +kernel)) ?_
  refine lv_iload_n hx hb dL_digits_66 rfl (lv_at hl 1 rfl) ?_
  refine lv_imul hx hb dL_digits_67 ?_
  refine lv_as (y := nI 4) (by decide) ?_
  refine lv_goto (tgt := 72) hx hb dL_digits_68 (by decide) ?_
  refine lv_iadd hx hb dL_digits_72 ?_
  refine lv_as (y := nI 5) (by decide) ?_
  refine lv_istore_n (lv' := [(1, .int (nI 5)), (3, .int (nI 1)), (2, .int (nI 4)), (0, .ref (a 0))]) hx hb dL_digits_73 rfl hl (by decide) rfl (fun ls hl => ?_)
  refine lv_iload_n hx hb dL_digits_74 rfl (lv_at hl 2 rfl) ?_
  refine lv_iload_n hx hb dL_digits_75 rfl (lv_at hl 1 rfl) ?_
  refine lv_bipush (v := nI 14) hx hb dL_digits_76 (by decide) ?_
  refine lv_icmp_ge (tgt := 85) hx hb dL_digits_78 (by decide) (fun c => absurd c (by decide)) (fun _ => ?_)
  refine lv_iconst (v := nI 4) hx hb dL_digits_81 (by decide) ?_
  refine lv_goto (tgt := 86) hx hb dL_digits_82 (by decide) ?_
  refine lv_imul hx hb dL_digits_86 ?_
  refine lv_as (y := nI 16) (by decide) ?_
  refine lv_istore_n (lv' := [(2, .int (nI 16)), (1, .int (nI 5)), (3, .int (nI 1)), (0, .ref (a 0))]) hx hb dL_digits_87 rfl hl (by decide) rfl (fun ls hl => ?_)
  refine lv_iinc (v := nI 2) (lv' := [(3, .int (nI 2)), (2, .int (nI 16)), (1, .int (nI 5)), (0, .ref (a 0))]) hx hb dL_digits_88 hl (k := 2) rfl (by decide) (by decide) rfl (fun ls hl => ?_)
  refine lv_goto (tgt := 6) hx hb dL_digits_91 (by decide) ?_
  refine lv_iload_n hx hb dL_digits_6 rfl (lv_at hl 0 rfl) ?_
  refine lv_bipush (v := nI 16) hx hb dL_digits_7 (by decide) ?_
  refine lv_icmp_ge (tgt := 94) hx hb dL_digits_9 (by decide) (fun c => absurd c (by decide)) (fun _ => ?_)
  refine lv_aload_n hx hb dL_digits_12 rfl (lv_at hl 3 rfl) ?_
  refine lv_iconst (v := nI 0) hx hb dL_digits_13 (by decide) ?_
  refine lv_iload_n hx hb dL_digits_14 rfl (lv_at hl 0 rfl) ?_
  refine wr_i (va_runV (As := [.int (nI 0), .int (nI 2)]) (rest := []) FX (n_digit l hfl G a ha t9 st 0 2 hO (by decide) (by decide)) (cwV 2 hts gL_digits_X11_digit rfl rfl rfl (by decide +kernel) ⟨Nat.le_of_ble_eq_true rfl, Nat.le_of_ble_eq_true rfl⟩) (preVX hK hNW hCW (hLow.at hS (fun q9 _ q => rng_M q9 q)) (hX.at hS (fun q9 _ q => rng_M q9 q)) (cw_recv hK hCW)) rfl rfl hl.1 rfl (lv_room (Nat.le_of_ble_eq_true rfl)) dL_digits_15 ⟨Nat.le_of_ble_eq_true rfl, Nat.le_of_ble_eq_true rfl⟩) hS (fun q h => h) (fun r _ H locs hp hCW hk hS => ?_)
  refine lv_as (y := nI 0) (hp.trans (by decide +kernel)) ?_
  refine lv_if_ne (tgt := 50) hx hb dL_digits_18 (by decide) (fun c => absurd c (by decide)) (fun _ => ?_)
  refine lv_aload_n hx hb dL_digits_21 rfl (lv_at hl 3 rfl) ?_
  refine lv_ldc (v := nI 2147483647) hx hb hown (hts (.constant RL 82 (2147483647)) (List.mem_of_getElem? (i := 1) (by decide +kernel))) dL_digits_22 ?_
  refine lv_iload_n hx hb dL_digits_24 rfl (lv_at hl 0 rfl) ?_
  refine wr_i (va_runV (As := [.int (nI 2147483647), .int (nI 2)]) (rest := []) FX (n_digit l hfl G a ha t9 st 2147483647 2 hO (by decide) (by decide)) (cwV 2 hts gL_digits_X11_digit rfl rfl rfl (by decide +kernel) ⟨Nat.le_of_ble_eq_true rfl, Nat.le_of_ble_eq_true rfl⟩) (preVX hK hNW hCW (hLow.at hS (fun q9 _ q => rng_M q9 q)) (hX.at hS (fun q9 _ q => rng_M q9 q)) (cw_recv hK hCW)) rfl rfl hl.1 rfl (lv_room (Nat.le_of_ble_eq_true rfl)) dL_digits_25 ⟨Nat.le_of_ble_eq_true rfl, Nat.le_of_ble_eq_true rfl⟩) hS (fun q h => h) (fun r _ H locs hp hCW hk hS => ?_)
  refine lv_as (y := nI 0) (hp.trans (by decide +kernel)) ?_
  refine lv_iload_n hx hb dL_digits_28 rfl (lv_at hl 0 rfl) ?_
  refine lv_if_ne (tgt := 36) hx hb dL_digits_29 (by decide) (fun _ => ?_) (fun c => absurd c (by decide))
  refine lv_iload_n hx hb dL_digits_36 rfl (lv_at hl 0 rfl) ?_
  refine lv_bipush (v := nI 15) hx hb dL_digits_37 (by decide) ?_
  refine lv_icmp_ne (tgt := 46) hx hb dL_digits_39 (by decide) (fun _ => ?_) (fun c => absurd c (by decide))
  refine lv_iconst (v := nI 0) hx hb dL_digits_46 (by decide) ?_
  refine lv_icmp_eq (tgt := 52) hx hb dL_digits_47 (by decide) (fun _ => ?_) (fun c => absurd c (by decide))
  refine lv_iload_n hx hb dL_digits_52 rfl (lv_at hl 2 rfl) ?_
  refine lv_iload_n hx hb dL_digits_53 rfl (lv_at hl 0 rfl) ?_
  refine lv_bipush (v := nI 15) hx hb dL_digits_54 (by decide) ?_
  refine lv_icmp_ge (tgt := 71) hx hb dL_digits_56 (by decide) (fun c => absurd c (by decide)) (fun _ => ?_)
  refine lv_aload_n hx hb dL_digits_59 rfl (lv_at hl 3 rfl) ?_
  refine lv_ldc (v := nI 123456789) hx hb hown (hts (.constant RL 126 (123456789)) (List.mem_of_getElem? (i := 2) (by decide +kernel))) dL_digits_60 ?_
  refine lv_iload_n hx hb dL_digits_62 rfl (lv_at hl 0 rfl) ?_
  refine wr_i (va_runV (As := [.int (nI 123456789), .int (nI 2)]) (rest := [.int (nI 5)]) FX (n_digit l hfl G a ha t9 st 123456789 2 hO (by decide) (by decide)) (cwV 2 hts gL_digits_X11_digit rfl rfl rfl (by decide +kernel) ⟨Nat.le_of_ble_eq_true rfl, Nat.le_of_ble_eq_true rfl⟩) (preVX hK hNW hCW (hLow.at hS (fun q9 _ q => rng_M q9 q)) (hX.at hS (fun q9 _ q => rng_M q9 q)) (cw_recv hK hCW)) rfl rfl hl.1 rfl (lv_room (Nat.le_of_ble_eq_true rfl)) dL_digits_63 ⟨Nat.le_of_ble_eq_true rfl, Nat.le_of_ble_eq_true rfl⟩) hS (fun q h => h) (fun r _ H locs hp hCW hk hS => ?_)
  refine lv_as (y := nI 1) (hp.trans (by decide +kernel)) ?_
  refine lv_iload_n hx hb dL_digits_66 rfl (lv_at hl 1 rfl) ?_
  refine lv_imul hx hb dL_digits_67 ?_
  refine lv_as (y := nI 16) (by decide) ?_
  refine lv_goto (tgt := 72) hx hb dL_digits_68 (by decide) ?_
  refine lv_iadd hx hb dL_digits_72 ?_
  refine lv_as (y := nI 21) (by decide) ?_
  refine lv_istore_n (lv' := [(1, .int (nI 21)), (3, .int (nI 2)), (2, .int (nI 16)), (0, .ref (a 0))]) hx hb dL_digits_73 rfl hl (by decide) rfl (fun ls hl => ?_)
  refine lv_iload_n hx hb dL_digits_74 rfl (lv_at hl 2 rfl) ?_
  refine lv_iload_n hx hb dL_digits_75 rfl (lv_at hl 1 rfl) ?_
  refine lv_bipush (v := nI 14) hx hb dL_digits_76 (by decide) ?_
  refine lv_icmp_ge (tgt := 85) hx hb dL_digits_78 (by decide) (fun c => absurd c (by decide)) (fun _ => ?_)
  refine lv_iconst (v := nI 4) hx hb dL_digits_81 (by decide) ?_
  refine lv_goto (tgt := 86) hx hb dL_digits_82 (by decide) ?_
  refine lv_imul hx hb dL_digits_86 ?_
  refine lv_as (y := nI 64) (by decide) ?_
  refine lv_istore_n (lv' := [(2, .int (nI 64)), (1, .int (nI 21)), (3, .int (nI 2)), (0, .ref (a 0))]) hx hb dL_digits_87 rfl hl (by decide) rfl (fun ls hl => ?_)
  refine lv_iinc (v := nI 3) (lv' := [(3, .int (nI 3)), (2, .int (nI 64)), (1, .int (nI 21)), (0, .ref (a 0))]) hx hb dL_digits_88 hl (k := 2) rfl (by decide) (by decide) rfl (fun ls hl => ?_)
  refine lv_goto (tgt := 6) hx hb dL_digits_91 (by decide) ?_
  refine lv_iload_n hx hb dL_digits_6 rfl (lv_at hl 0 rfl) ?_
  refine lv_bipush (v := nI 16) hx hb dL_digits_7 (by decide) ?_
  refine lv_icmp_ge (tgt := 94) hx hb dL_digits_9 (by decide) (fun c => absurd c (by decide)) (fun _ => ?_)
  refine lv_aload_n hx hb dL_digits_12 rfl (lv_at hl 3 rfl) ?_
  refine lv_iconst (v := nI 0) hx hb dL_digits_13 (by decide) ?_
  refine lv_iload_n hx hb dL_digits_14 rfl (lv_at hl 0 rfl) ?_
  refine wr_i (va_runV (As := [.int (nI 0), .int (nI 3)]) (rest := []) FX (n_digit l hfl G a ha t9 st 0 3 hO (by decide) (by decide)) (cwV 2 hts gL_digits_X11_digit rfl rfl rfl (by decide +kernel) ⟨Nat.le_of_ble_eq_true rfl, Nat.le_of_ble_eq_true rfl⟩) (preVX hK hNW hCW (hLow.at hS (fun q9 _ q => rng_M q9 q)) (hX.at hS (fun q9 _ q => rng_M q9 q)) (cw_recv hK hCW)) rfl rfl hl.1 rfl (lv_room (Nat.le_of_ble_eq_true rfl)) dL_digits_15 ⟨Nat.le_of_ble_eq_true rfl, Nat.le_of_ble_eq_true rfl⟩) hS (fun q h => h) (fun r _ H locs hp hCW hk hS => ?_)
  refine lv_as (y := nI 0) (hp.trans (by decide +kernel)) ?_
  refine lv_if_ne (tgt := 50) hx hb dL_digits_18 (by decide) (fun c => absurd c (by decide)) (fun _ => ?_)
  refine lv_aload_n hx hb dL_digits_21 rfl (lv_at hl 3 rfl) ?_
  refine lv_ldc (v := nI 2147483647) hx hb hown (hts (.constant RL 82 (2147483647)) (List.mem_of_getElem? (i := 1) (by decide +kernel))) dL_digits_22 ?_
  refine lv_iload_n hx hb dL_digits_24 rfl (lv_at hl 0 rfl) ?_
  refine wr_i (va_runV (As := [.int (nI 2147483647), .int (nI 3)]) (rest := []) FX (n_digit l hfl G a ha t9 st 2147483647 3 hO (by decide) (by decide)) (cwV 2 hts gL_digits_X11_digit rfl rfl rfl (by decide +kernel) ⟨Nat.le_of_ble_eq_true rfl, Nat.le_of_ble_eq_true rfl⟩) (preVX hK hNW hCW (hLow.at hS (fun q9 _ q => rng_M q9 q)) (hX.at hS (fun q9 _ q => rng_M q9 q)) (cw_recv hK hCW)) rfl rfl hl.1 rfl (lv_room (Nat.le_of_ble_eq_true rfl)) dL_digits_25 ⟨Nat.le_of_ble_eq_true rfl, Nat.le_of_ble_eq_true rfl⟩) hS (fun q h => h) (fun r _ H locs hp hCW hk hS => ?_)
  refine lv_as (y := nI 0) (hp.trans (by decide +kernel)) ?_
  refine lv_iload_n hx hb dL_digits_28 rfl (lv_at hl 0 rfl) ?_
  refine lv_if_ne (tgt := 36) hx hb dL_digits_29 (by decide) (fun _ => ?_) (fun c => absurd c (by decide))
  refine lv_iload_n hx hb dL_digits_36 rfl (lv_at hl 0 rfl) ?_
  refine lv_bipush (v := nI 15) hx hb dL_digits_37 (by decide) ?_
  refine lv_icmp_ne (tgt := 46) hx hb dL_digits_39 (by decide) (fun _ => ?_) (fun c => absurd c (by decide))
  refine lv_iconst (v := nI 0) hx hb dL_digits_46 (by decide) ?_
  refine lv_icmp_eq (tgt := 52) hx hb dL_digits_47 (by decide) (fun _ => ?_) (fun c => absurd c (by decide))
  refine lv_iload_n hx hb dL_digits_52 rfl (lv_at hl 2 rfl) ?_
  refine lv_iload_n hx hb dL_digits_53 rfl (lv_at hl 0 rfl) ?_
  refine lv_bipush (v := nI 15) hx hb dL_digits_54 (by decide) ?_
  refine lv_icmp_ge (tgt := 71) hx hb dL_digits_56 (by decide) (fun c => absurd c (by decide)) (fun _ => ?_)
  refine lv_aload_n hx hb dL_digits_59 rfl (lv_at hl 3 rfl) ?_
  refine lv_ldc (v := nI 123456789) hx hb hown (hts (.constant RL 126 (123456789)) (List.mem_of_getElem? (i := 2) (by decide +kernel))) dL_digits_60 ?_
  refine lv_iload_n hx hb dL_digits_62 rfl (lv_at hl 0 rfl) ?_
  refine wr_i (va_runV (As := [.int (nI 123456789), .int (nI 3)]) (rest := [.int (nI 21)]) FX (n_digit l hfl G a ha t9 st 123456789 3 hO (by decide) (by decide)) (cwV 2 hts gL_digits_X11_digit rfl rfl rfl (by decide +kernel) ⟨Nat.le_of_ble_eq_true rfl, Nat.le_of_ble_eq_true rfl⟩) (preVX hK hNW hCW (hLow.at hS (fun q9 _ q => rng_M q9 q)) (hX.at hS (fun q9 _ q => rng_M q9 q)) (cw_recv hK hCW)) rfl rfl hl.1 rfl (lv_room (Nat.le_of_ble_eq_true rfl)) dL_digits_63 ⟨Nat.le_of_ble_eq_true rfl, Nat.le_of_ble_eq_true rfl⟩) hS (fun q h => h) (fun r _ H locs hp hCW hk hS => ?_)
  refine lv_as (y := nI 0) (hp.trans (by decide +kernel)) ?_
  refine lv_iload_n hx hb dL_digits_66 rfl (lv_at hl 1 rfl) ?_
  refine lv_imul hx hb dL_digits_67 ?_
  refine lv_as (y := nI 0) (by decide) ?_
  refine lv_goto (tgt := 72) hx hb dL_digits_68 (by decide) ?_
  refine lv_iadd hx hb dL_digits_72 ?_
  refine lv_as (y := nI 21) (by decide) ?_
  refine lv_istore_n (lv' := [(1, .int (nI 21)), (3, .int (nI 3)), (2, .int (nI 64)), (0, .ref (a 0))]) hx hb dL_digits_73 rfl hl (by decide) rfl (fun ls hl => ?_)
  refine lv_iload_n hx hb dL_digits_74 rfl (lv_at hl 2 rfl) ?_
  refine lv_iload_n hx hb dL_digits_75 rfl (lv_at hl 1 rfl) ?_
  refine lv_bipush (v := nI 14) hx hb dL_digits_76 (by decide) ?_
  refine lv_icmp_ge (tgt := 85) hx hb dL_digits_78 (by decide) (fun c => absurd c (by decide)) (fun _ => ?_)
  refine lv_iconst (v := nI 4) hx hb dL_digits_81 (by decide) ?_
  refine lv_goto (tgt := 86) hx hb dL_digits_82 (by decide) ?_
  refine lv_imul hx hb dL_digits_86 ?_
  refine lv_as (y := nI 256) (by decide) ?_
  refine lv_istore_n (lv' := [(2, .int (nI 256)), (1, .int (nI 21)), (3, .int (nI 3)), (0, .ref (a 0))]) hx hb dL_digits_87 rfl hl (by decide) rfl (fun ls hl => ?_)
  refine lv_iinc (v := nI 4) (lv' := [(3, .int (nI 4)), (2, .int (nI 256)), (1, .int (nI 21)), (0, .ref (a 0))]) hx hb dL_digits_88 hl (k := 2) rfl (by decide) (by decide) rfl (fun ls hl => ?_)
  refine lv_goto (tgt := 6) hx hb dL_digits_91 (by decide) ?_
  refine lv_iload_n hx hb dL_digits_6 rfl (lv_at hl 0 rfl) ?_
  refine lv_bipush (v := nI 16) hx hb dL_digits_7 (by decide) ?_
  refine lv_icmp_ge (tgt := 94) hx hb dL_digits_9 (by decide) (fun c => absurd c (by decide)) (fun _ => ?_)
  refine lv_aload_n hx hb dL_digits_12 rfl (lv_at hl 3 rfl) ?_
  refine lv_iconst (v := nI 0) hx hb dL_digits_13 (by decide) ?_
  refine lv_iload_n hx hb dL_digits_14 rfl (lv_at hl 0 rfl) ?_
  refine wr_i (va_runV (As := [.int (nI 0), .int (nI 4)]) (rest := []) FX (n_digit l hfl G a ha t9 st 0 4 hO (by decide) (by decide)) (cwV 2 hts gL_digits_X11_digit rfl rfl rfl (by decide +kernel) ⟨Nat.le_of_ble_eq_true rfl, Nat.le_of_ble_eq_true rfl⟩) (preVX hK hNW hCW (hLow.at hS (fun q9 _ q => rng_M q9 q)) (hX.at hS (fun q9 _ q => rng_M q9 q)) (cw_recv hK hCW)) rfl rfl hl.1 rfl (lv_room (Nat.le_of_ble_eq_true rfl)) dL_digits_15 ⟨Nat.le_of_ble_eq_true rfl, Nat.le_of_ble_eq_true rfl⟩) hS (fun q h => h) (fun r _ H locs hp hCW hk hS => ?_)
  refine lv_as (y := nI 0) (hp.trans (by decide +kernel)) ?_
  refine lv_if_ne (tgt := 50) hx hb dL_digits_18 (by decide) (fun c => absurd c (by decide)) (fun _ => ?_)
  refine lv_aload_n hx hb dL_digits_21 rfl (lv_at hl 3 rfl) ?_
  refine lv_ldc (v := nI 2147483647) hx hb hown (hts (.constant RL 82 (2147483647)) (List.mem_of_getElem? (i := 1) (by decide +kernel))) dL_digits_22 ?_
  refine lv_iload_n hx hb dL_digits_24 rfl (lv_at hl 0 rfl) ?_
  refine wr_i (va_runV (As := [.int (nI 2147483647), .int (nI 4)]) (rest := []) FX (n_digit l hfl G a ha t9 st 2147483647 4 hO (by decide) (by decide)) (cwV 2 hts gL_digits_X11_digit rfl rfl rfl (by decide +kernel) ⟨Nat.le_of_ble_eq_true rfl, Nat.le_of_ble_eq_true rfl⟩) (preVX hK hNW hCW (hLow.at hS (fun q9 _ q => rng_M q9 q)) (hX.at hS (fun q9 _ q => rng_M q9 q)) (cw_recv hK hCW)) rfl rfl hl.1 rfl (lv_room (Nat.le_of_ble_eq_true rfl)) dL_digits_25 ⟨Nat.le_of_ble_eq_true rfl, Nat.le_of_ble_eq_true rfl⟩) hS (fun q h => h) (fun r _ H locs hp hCW hk hS => ?_)
  refine lv_as (y := nI 0) (hp.trans (by decide +kernel)) ?_
  refine lv_iload_n hx hb dL_digits_28 rfl (lv_at hl 0 rfl) ?_
  refine lv_if_ne (tgt := 36) hx hb dL_digits_29 (by decide) (fun _ => ?_) (fun c => absurd c (by decide))
  refine lv_iload_n hx hb dL_digits_36 rfl (lv_at hl 0 rfl) ?_
  refine lv_bipush (v := nI 15) hx hb dL_digits_37 (by decide) ?_
  refine lv_icmp_ne (tgt := 46) hx hb dL_digits_39 (by decide) (fun _ => ?_) (fun c => absurd c (by decide))
  refine lv_iconst (v := nI 0) hx hb dL_digits_46 (by decide) ?_
  refine lv_icmp_eq (tgt := 52) hx hb dL_digits_47 (by decide) (fun _ => ?_) (fun c => absurd c (by decide))
  refine lv_iload_n hx hb dL_digits_52 rfl (lv_at hl 2 rfl) ?_
  refine lv_iload_n hx hb dL_digits_53 rfl (lv_at hl 0 rfl) ?_
  refine lv_bipush (v := nI 15) hx hb dL_digits_54 (by decide) ?_
  refine lv_icmp_ge (tgt := 71) hx hb dL_digits_56 (by decide) (fun c => absurd c (by decide)) (fun _ => ?_)
  refine lv_aload_n hx hb dL_digits_59 rfl (lv_at hl 3 rfl) ?_
  refine lv_ldc (v := nI 123456789) hx hb hown (hts (.constant RL 126 (123456789)) (List.mem_of_getElem? (i := 2) (by decide +kernel))) dL_digits_60 ?_
  refine lv_iload_n hx hb dL_digits_62 rfl (lv_at hl 0 rfl) ?_
  refine wr_i (va_runV (As := [.int (nI 123456789), .int (nI 4)]) (rest := [.int (nI 21)]) FX (n_digit l hfl G a ha t9 st 123456789 4 hO (by decide) (by decide)) (cwV 2 hts gL_digits_X11_digit rfl rfl rfl (by decide +kernel) ⟨Nat.le_of_ble_eq_true rfl, Nat.le_of_ble_eq_true rfl⟩) (preVX hK hNW hCW (hLow.at hS (fun q9 _ q => rng_M q9 q)) (hX.at hS (fun q9 _ q => rng_M q9 q)) (cw_recv hK hCW)) rfl rfl hl.1 rfl (lv_room (Nat.le_of_ble_eq_true rfl)) dL_digits_63 ⟨Nat.le_of_ble_eq_true rfl, Nat.le_of_ble_eq_true rfl⟩) hS (fun q h => h) (fun r _ H locs hp hCW hk hS => ?_)
  refine lv_as (y := nI 1) (hp.trans (by decide +kernel)) ?_
  refine lv_iload_n hx hb dL_digits_66 rfl (lv_at hl 1 rfl) ?_
  refine lv_imul hx hb dL_digits_67 ?_
  refine lv_as (y := nI 256) (by decide) ?_
  refine lv_goto (tgt := 72) hx hb dL_digits_68 (by decide) ?_
  refine lv_iadd hx hb dL_digits_72 ?_
  refine lv_as (y := nI 277) (by decide) ?_
  refine lv_istore_n (lv' := [(1, .int (nI 277)), (3, .int (nI 4)), (2, .int (nI 256)), (0, .ref (a 0))]) hx hb dL_digits_73 rfl hl (by decide) rfl (fun ls hl => ?_)
  refine lv_iload_n hx hb dL_digits_74 rfl (lv_at hl 2 rfl) ?_
  refine lv_iload_n hx hb dL_digits_75 rfl (lv_at hl 1 rfl) ?_
  refine lv_bipush (v := nI 14) hx hb dL_digits_76 (by decide) ?_
  refine lv_icmp_ge (tgt := 85) hx hb dL_digits_78 (by decide) (fun c => absurd c (by decide)) (fun _ => ?_)
  refine lv_iconst (v := nI 4) hx hb dL_digits_81 (by decide) ?_
  refine lv_goto (tgt := 86) hx hb dL_digits_82 (by decide) ?_
  refine lv_imul hx hb dL_digits_86 ?_
  refine lv_as (y := nI 1024) (by decide) ?_
  refine lv_istore_n (lv' := [(2, .int (nI 1024)), (1, .int (nI 277)), (3, .int (nI 4)), (0, .ref (a 0))]) hx hb dL_digits_87 rfl hl (by decide) rfl (fun ls hl => ?_)
  refine lv_iinc (v := nI 5) (lv' := [(3, .int (nI 5)), (2, .int (nI 1024)), (1, .int (nI 277)), (0, .ref (a 0))]) hx hb dL_digits_88 hl (k := 2) rfl (by decide) (by decide) rfl (fun ls hl => ?_)
  refine lv_goto (tgt := 6) hx hb dL_digits_91 (by decide) ?_
  refine lv_iload_n hx hb dL_digits_6 rfl (lv_at hl 0 rfl) ?_
  refine lv_bipush (v := nI 16) hx hb dL_digits_7 (by decide) ?_
  refine lv_icmp_ge (tgt := 94) hx hb dL_digits_9 (by decide) (fun c => absurd c (by decide)) (fun _ => ?_)
  refine lv_aload_n hx hb dL_digits_12 rfl (lv_at hl 3 rfl) ?_
  refine lv_iconst (v := nI 0) hx hb dL_digits_13 (by decide) ?_
  refine lv_iload_n hx hb dL_digits_14 rfl (lv_at hl 0 rfl) ?_
  refine wr_i (va_runV (As := [.int (nI 0), .int (nI 5)]) (rest := []) FX (n_digit l hfl G a ha t9 st 0 5 hO (by decide) (by decide)) (cwV 2 hts gL_digits_X11_digit rfl rfl rfl (by decide +kernel) ⟨Nat.le_of_ble_eq_true rfl, Nat.le_of_ble_eq_true rfl⟩) (preVX hK hNW hCW (hLow.at hS (fun q9 _ q => rng_M q9 q)) (hX.at hS (fun q9 _ q => rng_M q9 q)) (cw_recv hK hCW)) rfl rfl hl.1 rfl (lv_room (Nat.le_of_ble_eq_true rfl)) dL_digits_15 ⟨Nat.le_of_ble_eq_true rfl, Nat.le_of_ble_eq_true rfl⟩) hS (fun q h => h) (fun r _ H locs hp hCW hk hS => ?_)
  refine lv_as (y := nI 0) (hp.trans (by decide +kernel)) ?_
  refine lv_if_ne (tgt := 50) hx hb dL_digits_18 (by decide) (fun c => absurd c (by decide)) (fun _ => ?_)
  refine lv_aload_n hx hb dL_digits_21 rfl (lv_at hl 3 rfl) ?_
  refine lv_ldc (v := nI 2147483647) hx hb hown (hts (.constant RL 82 (2147483647)) (List.mem_of_getElem? (i := 1) (by decide +kernel))) dL_digits_22 ?_
  refine lv_iload_n hx hb dL_digits_24 rfl (lv_at hl 0 rfl) ?_
  refine wr_i (va_runV (As := [.int (nI 2147483647), .int (nI 5)]) (rest := []) FX (n_digit l hfl G a ha t9 st 2147483647 5 hO (by decide) (by decide)) (cwV 2 hts gL_digits_X11_digit rfl rfl rfl (by decide +kernel) ⟨Nat.le_of_ble_eq_true rfl, Nat.le_of_ble_eq_true rfl⟩) (preVX hK hNW hCW (hLow.at hS (fun q9 _ q => rng_M q9 q)) (hX.at hS (fun q9 _ q => rng_M q9 q)) (cw_recv hK hCW)) rfl rfl hl.1 rfl (lv_room (Nat.le_of_ble_eq_true rfl)) dL_digits_25 ⟨Nat.le_of_ble_eq_true rfl, Nat.le_of_ble_eq_true rfl⟩) hS (fun q h => h) (fun r _ H locs hp hCW hk hS => ?_)
  refine lv_as (y := nI 0) (hp.trans (by decide +kernel)) ?_
  refine lv_iload_n hx hb dL_digits_28 rfl (lv_at hl 0 rfl) ?_
  refine lv_if_ne (tgt := 36) hx hb dL_digits_29 (by decide) (fun _ => ?_) (fun c => absurd c (by decide))
  refine lv_iload_n hx hb dL_digits_36 rfl (lv_at hl 0 rfl) ?_
  refine lv_bipush (v := nI 15) hx hb dL_digits_37 (by decide) ?_
  refine lv_icmp_ne (tgt := 46) hx hb dL_digits_39 (by decide) (fun _ => ?_) (fun c => absurd c (by decide))
  refine lv_iconst (v := nI 0) hx hb dL_digits_46 (by decide) ?_
  refine lv_icmp_eq (tgt := 52) hx hb dL_digits_47 (by decide) (fun _ => ?_) (fun c => absurd c (by decide))
  refine lv_iload_n hx hb dL_digits_52 rfl (lv_at hl 2 rfl) ?_
  refine lv_iload_n hx hb dL_digits_53 rfl (lv_at hl 0 rfl) ?_
  refine lv_bipush (v := nI 15) hx hb dL_digits_54 (by decide) ?_
  refine lv_icmp_ge (tgt := 71) hx hb dL_digits_56 (by decide) (fun c => absurd c (by decide)) (fun _ => ?_)
  refine lv_aload_n hx hb dL_digits_59 rfl (lv_at hl 3 rfl) ?_
  refine lv_ldc (v := nI 123456789) hx hb hown (hts (.constant RL 126 (123456789)) (List.mem_of_getElem? (i := 2) (by decide +kernel))) dL_digits_60 ?_
  refine lv_iload_n hx hb dL_digits_62 rfl (lv_at hl 0 rfl) ?_
  refine wr_i (va_runV (As := [.int (nI 123456789), .int (nI 5)]) (rest := [.int (nI 277)]) FX (n_digit l hfl G a ha t9 st 123456789 5 hO (by decide) (by decide)) (cwV 2 hts gL_digits_X11_digit rfl rfl rfl (by decide +kernel) ⟨Nat.le_of_ble_eq_true rfl, Nat.le_of_ble_eq_true rfl⟩) (preVX hK hNW hCW (hLow.at hS (fun q9 _ q => rng_M q9 q)) (hX.at hS (fun q9 _ q => rng_M q9 q)) (cw_recv hK hCW)) rfl rfl hl.1 rfl (lv_room (Nat.le_of_ble_eq_true rfl)) dL_digits_63 ⟨Nat.le_of_ble_eq_true rfl, Nat.le_of_ble_eq_true rfl⟩) hS (fun q h => h) (fun r _ H locs hp hCW hk hS => ?_)
  refine lv_as (y := -1) (hp.trans (by decide +kernel)) ?_
  refine lv_iload_n hx hb dL_digits_66 rfl (lv_at hl 1 rfl) ?_
  refine lv_imul hx hb dL_digits_67 ?_
  refine lv_as (y := -1024) (by decide) ?_
  refine lv_goto (tgt := 72) hx hb dL_digits_68 (by decide) ?_
  refine lv_iadd hx hb dL_digits_72 ?_
  refine lv_as (y := -747) (by decide) ?_
  refine lv_istore_n (lv' := [(1, .int (-747)), (3, .int (nI 5)), (2, .int (nI 1024)), (0, .ref (a 0))]) hx hb dL_digits_73 rfl hl (by decide) rfl (fun ls hl => ?_)
  refine lv_iload_n hx hb dL_digits_74 rfl (lv_at hl 2 rfl) ?_
  refine lv_iload_n hx hb dL_digits_75 rfl (lv_at hl 1 rfl) ?_
  refine lv_bipush (v := nI 14) hx hb dL_digits_76 (by decide) ?_
  refine lv_icmp_ge (tgt := 85) hx hb dL_digits_78 (by decide) (fun c => absurd c (by decide)) (fun _ => ?_)
  refine lv_iconst (v := nI 4) hx hb dL_digits_81 (by decide) ?_
  refine lv_goto (tgt := 86) hx hb dL_digits_82 (by decide) ?_
  refine lv_imul hx hb dL_digits_86 ?_
  refine lv_as (y := nI 4096) (by decide) ?_
  refine lv_istore_n (lv' := [(2, .int (nI 4096)), (1, .int (-747)), (3, .int (nI 5)), (0, .ref (a 0))]) hx hb dL_digits_87 rfl hl (by decide) rfl (fun ls hl => ?_)
  refine lv_iinc (v := nI 6) (lv' := [(3, .int (nI 6)), (2, .int (nI 4096)), (1, .int (-747)), (0, .ref (a 0))]) hx hb dL_digits_88 hl (k := 2) rfl (by decide) (by decide) rfl (fun ls hl => ?_)
  refine lv_goto (tgt := 6) hx hb dL_digits_91 (by decide) ?_
  refine lv_iload_n hx hb dL_digits_6 rfl (lv_at hl 0 rfl) ?_
  refine lv_bipush (v := nI 16) hx hb dL_digits_7 (by decide) ?_
  refine lv_icmp_ge (tgt := 94) hx hb dL_digits_9 (by decide) (fun c => absurd c (by decide)) (fun _ => ?_)
  refine lv_aload_n hx hb dL_digits_12 rfl (lv_at hl 3 rfl) ?_
  refine lv_iconst (v := nI 0) hx hb dL_digits_13 (by decide) ?_
  refine lv_iload_n hx hb dL_digits_14 rfl (lv_at hl 0 rfl) ?_
  refine wr_i (va_runV (As := [.int (nI 0), .int (nI 6)]) (rest := []) FX (n_digit l hfl G a ha t9 st 0 6 hO (by decide) (by decide)) (cwV 2 hts gL_digits_X11_digit rfl rfl rfl (by decide +kernel) ⟨Nat.le_of_ble_eq_true rfl, Nat.le_of_ble_eq_true rfl⟩) (preVX hK hNW hCW (hLow.at hS (fun q9 _ q => rng_M q9 q)) (hX.at hS (fun q9 _ q => rng_M q9 q)) (cw_recv hK hCW)) rfl rfl hl.1 rfl (lv_room (Nat.le_of_ble_eq_true rfl)) dL_digits_15 ⟨Nat.le_of_ble_eq_true rfl, Nat.le_of_ble_eq_true rfl⟩) hS (fun q h => h) (fun r _ H locs hp hCW hk hS => ?_)
  refine lv_as (y := nI 0) (hp.trans (by decide +kernel)) ?_
  refine lv_if_ne (tgt := 50) hx hb dL_digits_18 (by decide) (fun c => absurd c (by decide)) (fun _ => ?_)
  refine lv_aload_n hx hb dL_digits_21 rfl (lv_at hl 3 rfl) ?_
  refine lv_ldc (v := nI 2147483647) hx hb hown (hts (.constant RL 82 (2147483647)) (List.mem_of_getElem? (i := 1) (by decide +kernel))) dL_digits_22 ?_
  refine lv_iload_n hx hb dL_digits_24 rfl (lv_at hl 0 rfl) ?_
  refine wr_i (va_runV (As := [.int (nI 2147483647), .int (nI 6)]) (rest := []) FX (n_digit l hfl G a ha t9 st 2147483647 6 hO (by decide) (by decide)) (cwV 2 hts gL_digits_X11_digit rfl rfl rfl (by decide +kernel) ⟨Nat.le_of_ble_eq_true rfl, Nat.le_of_ble_eq_true rfl⟩) (preVX hK hNW hCW (hLow.at hS (fun q9 _ q => rng_M q9 q)) (hX.at hS (fun q9 _ q => rng_M q9 q)) (cw_recv hK hCW)) rfl rfl hl.1 rfl (lv_room (Nat.le_of_ble_eq_true rfl)) dL_digits_25 ⟨Nat.le_of_ble_eq_true rfl, Nat.le_of_ble_eq_true rfl⟩) hS (fun q h => h) (fun r _ H locs hp hCW hk hS => ?_)
  refine lv_as (y := nI 0) (hp.trans (by decide +kernel)) ?_
  refine lv_iload_n hx hb dL_digits_28 rfl (lv_at hl 0 rfl) ?_
  refine lv_if_ne (tgt := 36) hx hb dL_digits_29 (by decide) (fun _ => ?_) (fun c => absurd c (by decide))
  refine lv_iload_n hx hb dL_digits_36 rfl (lv_at hl 0 rfl) ?_
  refine lv_bipush (v := nI 15) hx hb dL_digits_37 (by decide) ?_
  refine lv_icmp_ne (tgt := 46) hx hb dL_digits_39 (by decide) (fun _ => ?_) (fun c => absurd c (by decide))
  refine lv_iconst (v := nI 0) hx hb dL_digits_46 (by decide) ?_
  refine lv_icmp_eq (tgt := 52) hx hb dL_digits_47 (by decide) (fun _ => ?_) (fun c => absurd c (by decide))
  refine lv_iload_n hx hb dL_digits_52 rfl (lv_at hl 2 rfl) ?_
  refine lv_iload_n hx hb dL_digits_53 rfl (lv_at hl 0 rfl) ?_
  refine lv_bipush (v := nI 15) hx hb dL_digits_54 (by decide) ?_
  refine lv_icmp_ge (tgt := 71) hx hb dL_digits_56 (by decide) (fun c => absurd c (by decide)) (fun _ => ?_)
  refine lv_aload_n hx hb dL_digits_59 rfl (lv_at hl 3 rfl) ?_
  refine lv_ldc (v := nI 123456789) hx hb hown (hts (.constant RL 126 (123456789)) (List.mem_of_getElem? (i := 2) (by decide +kernel))) dL_digits_60 ?_
  refine lv_iload_n hx hb dL_digits_62 rfl (lv_at hl 0 rfl) ?_
  refine wr_i (va_runV (As := [.int (nI 123456789), .int (nI 6)]) (rest := [.int (-747)]) FX (n_digit l hfl G a ha t9 st 123456789 6 hO (by decide) (by decide)) (cwV 2 hts gL_digits_X11_digit rfl rfl rfl (by decide +kernel) ⟨Nat.le_of_ble_eq_true rfl, Nat.le_of_ble_eq_true rfl⟩) (preVX hK hNW hCW (hLow.at hS (fun q9 _ q => rng_M q9 q)) (hX.at hS (fun q9 _ q => rng_M q9 q)) (cw_recv hK hCW)) rfl rfl hl.1 rfl (lv_room (Nat.le_of_ble_eq_true rfl)) dL_digits_63 ⟨Nat.le_of_ble_eq_true rfl, Nat.le_of_ble_eq_true rfl⟩) hS (fun q h => h) (fun r _ H locs hp hCW hk hS => ?_)
  refine lv_as (y := nI 1) (hp.trans (by decide +kernel)) ?_
  refine lv_iload_n hx hb dL_digits_66 rfl (lv_at hl 1 rfl) ?_
  refine lv_imul hx hb dL_digits_67 ?_
  refine lv_as (y := nI 4096) (by decide) ?_
  refine lv_goto (tgt := 72) hx hb dL_digits_68 (by decide) ?_
  refine lv_iadd hx hb dL_digits_72 ?_
  refine lv_as (y := nI 3349) (by decide) ?_
  refine lv_istore_n (lv' := [(1, .int (nI 3349)), (3, .int (nI 6)), (2, .int (nI 4096)), (0, .ref (a 0))]) hx hb dL_digits_73 rfl hl (by decide) rfl (fun ls hl => ?_)
  refine lv_iload_n hx hb dL_digits_74 rfl (lv_at hl 2 rfl) ?_
  refine lv_iload_n hx hb dL_digits_75 rfl (lv_at hl 1 rfl) ?_
  refine lv_bipush (v := nI 14) hx hb dL_digits_76 (by decide) ?_
  refine lv_icmp_ge (tgt := 85) hx hb dL_digits_78 (by decide) (fun c => absurd c (by decide)) (fun _ => ?_)
  refine lv_iconst (v := nI 4) hx hb dL_digits_81 (by decide) ?_
  refine lv_goto (tgt := 86) hx hb dL_digits_82 (by decide) ?_
  refine lv_imul hx hb dL_digits_86 ?_
  refine lv_as (y := nI 16384) (by decide) ?_
  refine lv_istore_n (lv' := [(2, .int (nI 16384)), (1, .int (nI 3349)), (3, .int (nI 6)), (0, .ref (a 0))]) hx hb dL_digits_87 rfl hl (by decide) rfl (fun ls hl => ?_)
  refine lv_iinc (v := nI 7) (lv' := [(3, .int (nI 7)), (2, .int (nI 16384)), (1, .int (nI 3349)), (0, .ref (a 0))]) hx hb dL_digits_88 hl (k := 2) rfl (by decide) (by decide) rfl (fun ls hl => ?_)
  refine lv_goto (tgt := 6) hx hb dL_digits_91 (by decide) ?_
  refine lv_iload_n hx hb dL_digits_6 rfl (lv_at hl 0 rfl) ?_
  refine lv_bipush (v := nI 16) hx hb dL_digits_7 (by decide) ?_
  refine lv_icmp_ge (tgt := 94) hx hb dL_digits_9 (by decide) (fun c => absurd c (by decide)) (fun _ => ?_)
  refine lv_aload_n hx hb dL_digits_12 rfl (lv_at hl 3 rfl) ?_
  refine lv_iconst (v := nI 0) hx hb dL_digits_13 (by decide) ?_
  refine lv_iload_n hx hb dL_digits_14 rfl (lv_at hl 0 rfl) ?_
  refine wr_i (va_runV (As := [.int (nI 0), .int (nI 7)]) (rest := []) FX (n_digit l hfl G a ha t9 st 0 7 hO (by decide) (by decide)) (cwV 2 hts gL_digits_X11_digit rfl rfl rfl (by decide +kernel) ⟨Nat.le_of_ble_eq_true rfl, Nat.le_of_ble_eq_true rfl⟩) (preVX hK hNW hCW (hLow.at hS (fun q9 _ q => rng_M q9 q)) (hX.at hS (fun q9 _ q => rng_M q9 q)) (cw_recv hK hCW)) rfl rfl hl.1 rfl (lv_room (Nat.le_of_ble_eq_true rfl)) dL_digits_15 ⟨Nat.le_of_ble_eq_true rfl, Nat.le_of_ble_eq_true rfl⟩) hS (fun q h => h) (fun r _ H locs hp hCW hk hS => ?_)
  refine lv_as (y := nI 0) (hp.trans (by decide +kernel)) ?_
  refine lv_if_ne (tgt := 50) hx hb dL_digits_18 (by decide) (fun c => absurd c (by decide)) (fun _ => ?_)
  refine lv_aload_n hx hb dL_digits_21 rfl (lv_at hl 3 rfl) ?_
  refine lv_ldc (v := nI 2147483647) hx hb hown (hts (.constant RL 82 (2147483647)) (List.mem_of_getElem? (i := 1) (by decide +kernel))) dL_digits_22 ?_
  refine lv_iload_n hx hb dL_digits_24 rfl (lv_at hl 0 rfl) ?_
  refine wr_i (va_runV (As := [.int (nI 2147483647), .int (nI 7)]) (rest := []) FX (n_digit l hfl G a ha t9 st 2147483647 7 hO (by decide) (by decide)) (cwV 2 hts gL_digits_X11_digit rfl rfl rfl (by decide +kernel) ⟨Nat.le_of_ble_eq_true rfl, Nat.le_of_ble_eq_true rfl⟩) (preVX hK hNW hCW (hLow.at hS (fun q9 _ q => rng_M q9 q)) (hX.at hS (fun q9 _ q => rng_M q9 q)) (cw_recv hK hCW)) rfl rfl hl.1 rfl (lv_room (Nat.le_of_ble_eq_true rfl)) dL_digits_25 ⟨Nat.le_of_ble_eq_true rfl, Nat.le_of_ble_eq_true rfl⟩) hS (fun q h => h) (fun r _ H locs hp hCW hk hS => ?_)
  refine lv_as (y := nI 0) (hp.trans (by decide +kernel)) ?_
  refine lv_iload_n hx hb dL_digits_28 rfl (lv_at hl 0 rfl) ?_
  refine lv_if_ne (tgt := 36) hx hb dL_digits_29 (by decide) (fun _ => ?_) (fun c => absurd c (by decide))
  refine lv_iload_n hx hb dL_digits_36 rfl (lv_at hl 0 rfl) ?_
  refine lv_bipush (v := nI 15) hx hb dL_digits_37 (by decide) ?_
  refine lv_icmp_ne (tgt := 46) hx hb dL_digits_39 (by decide) (fun _ => ?_) (fun c => absurd c (by decide))
  refine lv_iconst (v := nI 0) hx hb dL_digits_46 (by decide) ?_
  refine lv_icmp_eq (tgt := 52) hx hb dL_digits_47 (by decide) (fun _ => ?_) (fun c => absurd c (by decide))
  refine lv_iload_n hx hb dL_digits_52 rfl (lv_at hl 2 rfl) ?_
  refine lv_iload_n hx hb dL_digits_53 rfl (lv_at hl 0 rfl) ?_
  refine lv_bipush (v := nI 15) hx hb dL_digits_54 (by decide) ?_
  refine lv_icmp_ge (tgt := 71) hx hb dL_digits_56 (by decide) (fun c => absurd c (by decide)) (fun _ => ?_)
  refine lv_aload_n hx hb dL_digits_59 rfl (lv_at hl 3 rfl) ?_
  refine lv_ldc (v := nI 123456789) hx hb hown (hts (.constant RL 126 (123456789)) (List.mem_of_getElem? (i := 2) (by decide +kernel))) dL_digits_60 ?_
  refine lv_iload_n hx hb dL_digits_62 rfl (lv_at hl 0 rfl) ?_
  refine wr_i (va_runV (As := [.int (nI 123456789), .int (nI 7)]) (rest := [.int (nI 3349)]) FX (n_digit l hfl G a ha t9 st 123456789 7 hO (by decide) (by decide)) (cwV 2 hts gL_digits_X11_digit rfl rfl rfl (by decide +kernel) ⟨Nat.le_of_ble_eq_true rfl, Nat.le_of_ble_eq_true rfl⟩) (preVX hK hNW hCW (hLow.at hS (fun q9 _ q => rng_M q9 q)) (hX.at hS (fun q9 _ q => rng_M q9 q)) (cw_recv hK hCW)) rfl rfl hl.1 rfl (lv_room (Nat.le_of_ble_eq_true rfl)) dL_digits_63 ⟨Nat.le_of_ble_eq_true rfl, Nat.le_of_ble_eq_true rfl⟩) hS (fun q h => h) (fun r _ H locs hp hCW hk hS => ?_)
  refine lv_as (y := -1) (hp.trans (by decide +kernel)) ?_
  refine lv_iload_n hx hb dL_digits_66 rfl (lv_at hl 1 rfl) ?_
  refine lv_imul hx hb dL_digits_67 ?_
  refine lv_as (y := -16384) (by decide) ?_
  refine lv_goto (tgt := 72) hx hb dL_digits_68 (by decide) ?_
  refine lv_iadd hx hb dL_digits_72 ?_
  refine lv_as (y := -13035) (by decide) ?_
  refine lv_istore_n (lv' := [(1, .int (-13035)), (3, .int (nI 7)), (2, .int (nI 16384)), (0, .ref (a 0))]) hx hb dL_digits_73 rfl hl (by decide) rfl (fun ls hl => ?_)
  refine lv_iload_n hx hb dL_digits_74 rfl (lv_at hl 2 rfl) ?_
  refine lv_iload_n hx hb dL_digits_75 rfl (lv_at hl 1 rfl) ?_
  refine lv_bipush (v := nI 14) hx hb dL_digits_76 (by decide) ?_
  refine lv_icmp_ge (tgt := 85) hx hb dL_digits_78 (by decide) (fun c => absurd c (by decide)) (fun _ => ?_)
  refine lv_iconst (v := nI 4) hx hb dL_digits_81 (by decide) ?_
  refine lv_goto (tgt := 86) hx hb dL_digits_82 (by decide) ?_
  refine lv_imul hx hb dL_digits_86 ?_
  refine lv_as (y := nI 65536) (by decide) ?_
  refine lv_istore_n (lv' := [(2, .int (nI 65536)), (1, .int (-13035)), (3, .int (nI 7)), (0, .ref (a 0))]) hx hb dL_digits_87 rfl hl (by decide) rfl (fun ls hl => ?_)
  refine lv_iinc (v := nI 8) (lv' := [(3, .int (nI 8)), (2, .int (nI 65536)), (1, .int (-13035)), (0, .ref (a 0))]) hx hb dL_digits_88 hl (k := 2) rfl (by decide) (by decide) rfl (fun ls hl => ?_)
  refine lv_goto (tgt := 6) hx hb dL_digits_91 (by decide) ?_
  refine lv_iload_n hx hb dL_digits_6 rfl (lv_at hl 0 rfl) ?_
  refine lv_bipush (v := nI 16) hx hb dL_digits_7 (by decide) ?_
  refine lv_icmp_ge (tgt := 94) hx hb dL_digits_9 (by decide) (fun c => absurd c (by decide)) (fun _ => ?_)
  refine lv_aload_n hx hb dL_digits_12 rfl (lv_at hl 3 rfl) ?_
  refine lv_iconst (v := nI 0) hx hb dL_digits_13 (by decide) ?_
  refine lv_iload_n hx hb dL_digits_14 rfl (lv_at hl 0 rfl) ?_
  refine wr_i (va_runV (As := [.int (nI 0), .int (nI 8)]) (rest := []) FX (n_digit l hfl G a ha t9 st 0 8 hO (by decide) (by decide)) (cwV 2 hts gL_digits_X11_digit rfl rfl rfl (by decide +kernel) ⟨Nat.le_of_ble_eq_true rfl, Nat.le_of_ble_eq_true rfl⟩) (preVX hK hNW hCW (hLow.at hS (fun q9 _ q => rng_M q9 q)) (hX.at hS (fun q9 _ q => rng_M q9 q)) (cw_recv hK hCW)) rfl rfl hl.1 rfl (lv_room (Nat.le_of_ble_eq_true rfl)) dL_digits_15 ⟨Nat.le_of_ble_eq_true rfl, Nat.le_of_ble_eq_true rfl⟩) hS (fun q h => h) (fun r _ H locs hp hCW hk hS => ?_)
  refine lv_as (y := nI 0) (hp.trans (by decide +kernel)) ?_
  refine lv_if_ne (tgt := 50) hx hb dL_digits_18 (by decide) (fun c => absurd c (by decide)) (fun _ => ?_)
  refine lv_aload_n hx hb dL_digits_21 rfl (lv_at hl 3 rfl) ?_
  refine lv_ldc (v := nI 2147483647) hx hb hown (hts (.constant RL 82 (2147483647)) (List.mem_of_getElem? (i := 1) (by decide +kernel))) dL_digits_22 ?_
  refine lv_iload_n hx hb dL_digits_24 rfl (lv_at hl 0 rfl) ?_
  refine wr_i (va_runV (As := [.int (nI 2147483647), .int (nI 8)]) (rest := []) FX (n_digit l hfl G a ha t9 st 2147483647 8 hO (by decide) (by decide)) (cwV 2 hts gL_digits_X11_digit rfl rfl rfl (by decide +kernel) ⟨Nat.le_of_ble_eq_true rfl, Nat.le_of_ble_eq_true rfl⟩) (preVX hK hNW hCW (hLow.at hS (fun q9 _ q => rng_M q9 q)) (hX.at hS (fun q9 _ q => rng_M q9 q)) (cw_recv hK hCW)) rfl rfl hl.1 rfl (lv_room (Nat.le_of_ble_eq_true rfl)) dL_digits_25 ⟨Nat.le_of_ble_eq_true rfl, Nat.le_of_ble_eq_true rfl⟩) hS (fun q h => h) (fun r _ H locs hp hCW hk hS => ?_)
  refine lv_as (y := nI 0) (hp.trans (by decide +kernel)) ?_
  refine lv_iload_n hx hb dL_digits_28 rfl (lv_at hl 0 rfl) ?_
  refine lv_if_ne (tgt := 36) hx hb dL_digits_29 (by decide) (fun _ => ?_) (fun c => absurd c (by decide))
  refine lv_iload_n hx hb dL_digits_36 rfl (lv_at hl 0 rfl) ?_
  refine lv_bipush (v := nI 15) hx hb dL_digits_37 (by decide) ?_
  refine lv_icmp_ne (tgt := 46) hx hb dL_digits_39 (by decide) (fun _ => ?_) (fun c => absurd c (by decide))
  refine lv_iconst (v := nI 0) hx hb dL_digits_46 (by decide) ?_
  refine lv_icmp_eq (tgt := 52) hx hb dL_digits_47 (by decide) (fun _ => ?_) (fun c => absurd c (by decide))
  refine lv_iload_n hx hb dL_digits_52 rfl (lv_at hl 2 rfl) ?_
  refine lv_iload_n hx hb dL_digits_53 rfl (lv_at hl 0 rfl) ?_
  refine lv_bipush (v := nI 15) hx hb dL_digits_54 (by decide) ?_
  refine lv_icmp_ge (tgt := 71) hx hb dL_digits_56 (by decide) (fun c => absurd c (by decide)) (fun _ => ?_)
  refine lv_aload_n hx hb dL_digits_59 rfl (lv_at hl 3 rfl) ?_
  refine lv_ldc (v := nI 123456789) hx hb hown (hts (.constant RL 126 (123456789)) (List.mem_of_getElem? (i := 2) (by decide +kernel))) dL_digits_60 ?_
  refine lv_iload_n hx hb dL_digits_62 rfl (lv_at hl 0 rfl) ?_
  refine wr_i (va_runV (As := [.int (nI 123456789), .int (nI 8)]) (rest := [.int (-13035)]) FX (n_digit l hfl G a ha t9 st 123456789 8 hO (by decide) (by decide)) (cwV 2 hts gL_digits_X11_digit rfl rfl rfl (by decide +kernel) ⟨Nat.le_of_ble_eq_true rfl, Nat.le_of_ble_eq_true rfl⟩) (preVX hK hNW hCW (hLow.at hS (fun q9 _ q => rng_M q9 q)) (hX.at hS (fun q9 _ q => rng_M q9 q)) (cw_recv hK hCW)) rfl rfl hl.1 rfl (lv_room (Nat.le_of_ble_eq_true rfl)) dL_digits_63 ⟨Nat.le_of_ble_eq_true rfl, Nat.le_of_ble_eq_true rfl⟩) hS (fun q h => h) (fun r _ H locs hp hCW hk hS => ?_)
  refine lv_as (y := nI 0) (hp.trans (by decide +kernel)) ?_
  refine lv_iload_n hx hb dL_digits_66 rfl (lv_at hl 1 rfl) ?_
  refine lv_imul hx hb dL_digits_67 ?_
  refine lv_as (y := nI 0) (by decide) ?_
  refine lv_goto (tgt := 72) hx hb dL_digits_68 (by decide) ?_
  refine lv_iadd hx hb dL_digits_72 ?_
  refine lv_as (y := -13035) (by decide) ?_
  refine lv_istore_n (lv' := [(1, .int (-13035)), (3, .int (nI 8)), (2, .int (nI 65536)), (0, .ref (a 0))]) hx hb dL_digits_73 rfl hl (by decide) rfl (fun ls hl => ?_)
  refine lv_iload_n hx hb dL_digits_74 rfl (lv_at hl 2 rfl) ?_
  refine lv_iload_n hx hb dL_digits_75 rfl (lv_at hl 1 rfl) ?_
  refine lv_bipush (v := nI 14) hx hb dL_digits_76 (by decide) ?_
  refine lv_icmp_ge (tgt := 85) hx hb dL_digits_78 (by decide) (fun c => absurd c (by decide)) (fun _ => ?_)
  refine lv_iconst (v := nI 4) hx hb dL_digits_81 (by decide) ?_
  refine lv_goto (tgt := 86) hx hb dL_digits_82 (by decide) ?_
  refine lv_imul hx hb dL_digits_86 ?_
  refine lv_as (y := nI 262144) (by decide) ?_
  refine lv_istore_n (lv' := [(2, .int (nI 262144)), (1, .int (-13035)), (3, .int (nI 8)), (0, .ref (a 0))]) hx hb dL_digits_87 rfl hl (by decide) rfl (fun ls hl => ?_)
  refine lv_iinc (v := nI 9) (lv' := [(3, .int (nI 9)), (2, .int (nI 262144)), (1, .int (-13035)), (0, .ref (a 0))]) hx hb dL_digits_88 hl (k := 2) rfl (by decide) (by decide) rfl (fun ls hl => ?_)
  refine lv_goto (tgt := 6) hx hb dL_digits_91 (by decide) ?_
  refine lv_iload_n hx hb dL_digits_6 rfl (lv_at hl 0 rfl) ?_
  refine lv_bipush (v := nI 16) hx hb dL_digits_7 (by decide) ?_
  refine lv_icmp_ge (tgt := 94) hx hb dL_digits_9 (by decide) (fun c => absurd c (by decide)) (fun _ => ?_)
  refine lv_aload_n hx hb dL_digits_12 rfl (lv_at hl 3 rfl) ?_
  refine lv_iconst (v := nI 0) hx hb dL_digits_13 (by decide) ?_
  refine lv_iload_n hx hb dL_digits_14 rfl (lv_at hl 0 rfl) ?_
  refine wr_i (va_runV (As := [.int (nI 0), .int (nI 9)]) (rest := []) FX (n_digit l hfl G a ha t9 st 0 9 hO (by decide) (by decide)) (cwV 2 hts gL_digits_X11_digit rfl rfl rfl (by decide +kernel) ⟨Nat.le_of_ble_eq_true rfl, Nat.le_of_ble_eq_true rfl⟩) (preVX hK hNW hCW (hLow.at hS (fun q9 _ q => rng_M q9 q)) (hX.at hS (fun q9 _ q => rng_M q9 q)) (cw_recv hK hCW)) rfl rfl hl.1 rfl (lv_room (Nat.le_of_ble_eq_true rfl)) dL_digits_15 ⟨Nat.le_of_ble_eq_true rfl, Nat.le_of_ble_eq_true rfl⟩) hS (fun q h => h) (fun r _ H locs hp hCW hk hS => ?_)
  refine lv_as (y := nI 0) (hp.trans (by decide +kernel)) ?_
  refine lv_if_ne (tgt := 50) hx hb dL_digits_18 (by decide) (fun c => absurd c (by decide)) (fun _ => ?_)
  refine lv_aload_n hx hb dL_digits_21 rfl (lv_at hl 3 rfl) ?_
  refine lv_ldc (v := nI 2147483647) hx hb hown (hts (.constant RL 82 (2147483647)) (List.mem_of_getElem? (i := 1) (by decide +kernel))) dL_digits_22 ?_
  refine lv_iload_n hx hb dL_digits_24 rfl (lv_at hl 0 rfl) ?_
  refine wr_i (va_runV (As := [.int (nI 2147483647), .int (nI 9)]) (rest := []) FX (n_digit l hfl G a ha t9 st 2147483647 9 hO (by decide) (by decide)) (cwV 2 hts gL_digits_X11_digit rfl rfl rfl (by decide +kernel) ⟨Nat.le_of_ble_eq_true rfl, Nat.le_of_ble_eq_true rfl⟩) (preVX hK hNW hCW (hLow.at hS (fun q9 _ q => rng_M q9 q)) (hX.at hS (fun q9 _ q => rng_M q9 q)) (cw_recv hK hCW)) rfl rfl hl.1 rfl (lv_room (Nat.le_of_ble_eq_true rfl)) dL_digits_25 ⟨Nat.le_of_ble_eq_true rfl, Nat.le_of_ble_eq_true rfl⟩) hS (fun q h => h) (fun r _ H locs hp hCW hk hS => ?_)
  refine lv_as (y := nI 0) (hp.trans (by decide +kernel)) ?_
  refine lv_iload_n hx hb dL_digits_28 rfl (lv_at hl 0 rfl) ?_
  refine lv_if_ne (tgt := 36) hx hb dL_digits_29 (by decide) (fun _ => ?_) (fun c => absurd c (by decide))
  refine lv_iload_n hx hb dL_digits_36 rfl (lv_at hl 0 rfl) ?_
  refine lv_bipush (v := nI 15) hx hb dL_digits_37 (by decide) ?_
  refine lv_icmp_ne (tgt := 46) hx hb dL_digits_39 (by decide) (fun _ => ?_) (fun c => absurd c (by decide))
  refine lv_iconst (v := nI 0) hx hb dL_digits_46 (by decide) ?_
  refine lv_icmp_eq (tgt := 52) hx hb dL_digits_47 (by decide) (fun _ => ?_) (fun c => absurd c (by decide))
  refine lv_iload_n hx hb dL_digits_52 rfl (lv_at hl 2 rfl) ?_
  refine lv_iload_n hx hb dL_digits_53 rfl (lv_at hl 0 rfl) ?_
  refine lv_bipush (v := nI 15) hx hb dL_digits_54 (by decide) ?_
  refine lv_icmp_ge (tgt := 71) hx hb dL_digits_56 (by decide) (fun c => absurd c (by decide)) (fun _ => ?_)
  refine lv_aload_n hx hb dL_digits_59 rfl (lv_at hl 3 rfl) ?_
  refine lv_ldc (v := nI 123456789) hx hb hown (hts (.constant RL 126 (123456789)) (List.mem_of_getElem? (i := 2) (by decide +kernel))) dL_digits_60 ?_
  refine lv_iload_n hx hb dL_digits_62 rfl (lv_at hl 0 rfl) ?_
  refine wr_i (va_runV (As := [.int (nI 123456789), .int (nI 9)]) (rest := [.int (-13035)]) FX (n_digit l hfl G a ha t9 st 123456789 9 hO (by decide) (by decide)) (cwV 2 hts gL_digits_X11_digit rfl rfl rfl (by decide +kernel) ⟨Nat.le_of_ble_eq_true rfl, Nat.le_of_ble_eq_true rfl⟩) (preVX hK hNW hCW (hLow.at hS (fun q9 _ q => rng_M q9 q)) (hX.at hS (fun q9 _ q => rng_M q9 q)) (cw_recv hK hCW)) rfl rfl hl.1 rfl (lv_room (Nat.le_of_ble_eq_true rfl)) dL_digits_63 ⟨Nat.le_of_ble_eq_true rfl, Nat.le_of_ble_eq_true rfl⟩) hS (fun q h => h) (fun r _ H locs hp hCW hk hS => ?_)
  refine lv_as (y := -1) (hp.trans (by decide +kernel)) ?_
  refine lv_iload_n hx hb dL_digits_66 rfl (lv_at hl 1 rfl) ?_
  refine lv_imul hx hb dL_digits_67 ?_
  refine lv_as (y := -262144) (by decide) ?_
  refine lv_goto (tgt := 72) hx hb dL_digits_68 (by decide) ?_
  refine lv_iadd hx hb dL_digits_72 ?_
  refine lv_as (y := -275179) (by decide) ?_
  refine lv_istore_n (lv' := [(1, .int (-275179)), (3, .int (nI 9)), (2, .int (nI 262144)), (0, .ref (a 0))]) hx hb dL_digits_73 rfl hl (by decide) rfl (fun ls hl => ?_)
  refine lv_iload_n hx hb dL_digits_74 rfl (lv_at hl 2 rfl) ?_
  refine lv_iload_n hx hb dL_digits_75 rfl (lv_at hl 1 rfl) ?_
  refine lv_bipush (v := nI 14) hx hb dL_digits_76 (by decide) ?_
  refine lv_icmp_ge (tgt := 85) hx hb dL_digits_78 (by decide) (fun c => absurd c (by decide)) (fun _ => ?_)
  refine lv_iconst (v := nI 4) hx hb dL_digits_81 (by decide) ?_
  refine lv_goto (tgt := 86) hx hb dL_digits_82 (by decide) ?_
  refine lv_imul hx hb dL_digits_86 ?_
  refine lv_as (y := nI 1048576) (by decide) ?_
  refine lv_istore_n (lv' := [(2, .int (nI 1048576)), (1, .int (-275179)), (3, .int (nI 9)), (0, .ref (a 0))]) hx hb dL_digits_87 rfl hl (by decide) rfl (fun ls hl => ?_)
  refine lv_iinc (v := nI 10) (lv' := [(3, .int (nI 10)), (2, .int (nI 1048576)), (1, .int (-275179)), (0, .ref (a 0))]) hx hb dL_digits_88 hl (k := 2) rfl (by decide) (by decide) rfl (fun ls hl => ?_)
  refine lv_goto (tgt := 6) hx hb dL_digits_91 (by decide) ?_
  refine lv_iload_n hx hb dL_digits_6 rfl (lv_at hl 0 rfl) ?_
  refine lv_bipush (v := nI 16) hx hb dL_digits_7 (by decide) ?_
  refine lv_icmp_ge (tgt := 94) hx hb dL_digits_9 (by decide) (fun c => absurd c (by decide)) (fun _ => ?_)
  refine lv_aload_n hx hb dL_digits_12 rfl (lv_at hl 3 rfl) ?_
  refine lv_iconst (v := nI 0) hx hb dL_digits_13 (by decide) ?_
  refine lv_iload_n hx hb dL_digits_14 rfl (lv_at hl 0 rfl) ?_
  refine wr_i (va_runV (As := [.int (nI 0), .int (nI 10)]) (rest := []) FX (n_digit l hfl G a ha t9 st 0 10 hO (by decide) (by decide)) (cwV 2 hts gL_digits_X11_digit rfl rfl rfl (by decide +kernel) ⟨Nat.le_of_ble_eq_true rfl, Nat.le_of_ble_eq_true rfl⟩) (preVX hK hNW hCW (hLow.at hS (fun q9 _ q => rng_M q9 q)) (hX.at hS (fun q9 _ q => rng_M q9 q)) (cw_recv hK hCW)) rfl rfl hl.1 rfl (lv_room (Nat.le_of_ble_eq_true rfl)) dL_digits_15 ⟨Nat.le_of_ble_eq_true rfl, Nat.le_of_ble_eq_true rfl⟩) hS (fun q h => h) (fun r _ H locs hp hCW hk hS => ?_)
  refine lv_as (y := nI 0) (hp.trans (by decide +kernel)) ?_
  refine lv_if_ne (tgt := 50) hx hb dL_digits_18 (by decide) (fun c => absurd c (by decide)) (fun _ => ?_)
  refine lv_aload_n hx hb dL_digits_21 rfl (lv_at hl 3 rfl) ?_
  refine lv_ldc (v := nI 2147483647) hx hb hown (hts (.constant RL 82 (2147483647)) (List.mem_of_getElem? (i := 1) (by decide +kernel))) dL_digits_22 ?_
  refine lv_iload_n hx hb dL_digits_24 rfl (lv_at hl 0 rfl) ?_
  refine wr_i (va_runV (As := [.int (nI 2147483647), .int (nI 10)]) (rest := []) FX (n_digit l hfl G a ha t9 st 2147483647 10 hO (by decide) (by decide)) (cwV 2 hts gL_digits_X11_digit rfl rfl rfl (by decide +kernel) ⟨Nat.le_of_ble_eq_true rfl, Nat.le_of_ble_eq_true rfl⟩) (preVX hK hNW hCW (hLow.at hS (fun q9 _ q => rng_M q9 q)) (hX.at hS (fun q9 _ q => rng_M q9 q)) (cw_recv hK hCW)) rfl rfl hl.1 rfl (lv_room (Nat.le_of_ble_eq_true rfl)) dL_digits_25 ⟨Nat.le_of_ble_eq_true rfl, Nat.le_of_ble_eq_true rfl⟩) hS (fun q h => h) (fun r _ H locs hp hCW hk hS => ?_)
  refine lv_as (y := nI 0) (hp.trans (by decide +kernel)) ?_
  refine lv_iload_n hx hb dL_digits_28 rfl (lv_at hl 0 rfl) ?_
  refine lv_if_ne (tgt := 36) hx hb dL_digits_29 (by decide) (fun _ => ?_) (fun c => absurd c (by decide))
  refine lv_iload_n hx hb dL_digits_36 rfl (lv_at hl 0 rfl) ?_
  refine lv_bipush (v := nI 15) hx hb dL_digits_37 (by decide) ?_
  refine lv_icmp_ne (tgt := 46) hx hb dL_digits_39 (by decide) (fun _ => ?_) (fun c => absurd c (by decide))
  refine lv_iconst (v := nI 0) hx hb dL_digits_46 (by decide) ?_
  refine lv_icmp_eq (tgt := 52) hx hb dL_digits_47 (by decide) (fun _ => ?_) (fun c => absurd c (by decide))
  refine lv_iload_n hx hb dL_digits_52 rfl (lv_at hl 2 rfl) ?_
  refine lv_iload_n hx hb dL_digits_53 rfl (lv_at hl 0 rfl) ?_
  refine lv_bipush (v := nI 15) hx hb dL_digits_54 (by decide) ?_
  refine lv_icmp_ge (tgt := 71) hx hb dL_digits_56 (by decide) (fun c => absurd c (by decide)) (fun _ => ?_)
  refine lv_aload_n hx hb dL_digits_59 rfl (lv_at hl 3 rfl) ?_
  refine lv_ldc (v := nI 123456789) hx hb hown (hts (.constant RL 126 (123456789)) (List.mem_of_getElem? (i := 2) (by decide +kernel))) dL_digits_60 ?_
  refine lv_iload_n hx hb dL_digits_62 rfl (lv_at hl 0 rfl) ?_
  refine wr_i (va_runV (As := [.int (nI 123456789), .int (nI 10)]) (rest := [.int (-275179)]) FX (n_digit l hfl G a ha t9 st 123456789 10 hO (by decide) (by decide)) (cwV 2 hts gL_digits_X11_digit rfl rfl rfl (by decide +kernel) ⟨Nat.le_of_ble_eq_true rfl, Nat.le_of_ble_eq_true rfl⟩) (preVX hK hNW hCW (hLow.at hS (fun q9 _ q => rng_M q9 q)) (hX.at hS (fun q9 _ q => rng_M q9 q)) (cw_recv hK hCW)) rfl rfl hl.1 rfl (lv_room (Nat.le_of_ble_eq_true rfl)) dL_digits_63 ⟨Nat.le_of_ble_eq_true rfl, Nat.le_of_ble_eq_true rfl⟩) hS (fun q h => h) (fun r _ H locs hp hCW hk hS => ?_)
  refine lv_as (y := nI 2) (hp.trans (by decide +kernel)) ?_
  refine lv_iload_n hx hb dL_digits_66 rfl (lv_at hl 1 rfl) ?_
  refine lv_imul hx hb dL_digits_67 ?_
  refine lv_as (y := nI 2097152) (by decide) ?_
  refine lv_goto (tgt := 72) hx hb dL_digits_68 (by decide) ?_
  refine lv_iadd hx hb dL_digits_72 ?_
  refine lv_as (y := nI 1821973) (by decide) ?_
  refine lv_istore_n (lv' := [(1, .int (nI 1821973)), (3, .int (nI 10)), (2, .int (nI 1048576)), (0, .ref (a 0))]) hx hb dL_digits_73 rfl hl (by decide) rfl (fun ls hl => ?_)
  refine lv_iload_n hx hb dL_digits_74 rfl (lv_at hl 2 rfl) ?_
  refine lv_iload_n hx hb dL_digits_75 rfl (lv_at hl 1 rfl) ?_
  refine lv_bipush (v := nI 14) hx hb dL_digits_76 (by decide) ?_
  refine lv_icmp_ge (tgt := 85) hx hb dL_digits_78 (by decide) (fun c => absurd c (by decide)) (fun _ => ?_)
  refine lv_iconst (v := nI 4) hx hb dL_digits_81 (by decide) ?_
  refine lv_goto (tgt := 86) hx hb dL_digits_82 (by decide) ?_
  refine lv_imul hx hb dL_digits_86 ?_
  refine lv_as (y := nI 4194304) (by decide) ?_
  refine lv_istore_n (lv' := [(2, .int (nI 4194304)), (1, .int (nI 1821973)), (3, .int (nI 10)), (0, .ref (a 0))]) hx hb dL_digits_87 rfl hl (by decide) rfl (fun ls hl => ?_)
  refine lv_iinc (v := nI 11) (lv' := [(3, .int (nI 11)), (2, .int (nI 4194304)), (1, .int (nI 1821973)), (0, .ref (a 0))]) hx hb dL_digits_88 hl (k := 2) rfl (by decide) (by decide) rfl (fun ls hl => ?_)
  refine lv_goto (tgt := 6) hx hb dL_digits_91 (by decide) ?_
  refine lv_iload_n hx hb dL_digits_6 rfl (lv_at hl 0 rfl) ?_
  refine lv_bipush (v := nI 16) hx hb dL_digits_7 (by decide) ?_
  refine lv_icmp_ge (tgt := 94) hx hb dL_digits_9 (by decide) (fun c => absurd c (by decide)) (fun _ => ?_)
  refine lv_aload_n hx hb dL_digits_12 rfl (lv_at hl 3 rfl) ?_
  refine lv_iconst (v := nI 0) hx hb dL_digits_13 (by decide) ?_
  refine lv_iload_n hx hb dL_digits_14 rfl (lv_at hl 0 rfl) ?_
  refine wr_i (va_runV (As := [.int (nI 0), .int (nI 11)]) (rest := []) FX (n_digit l hfl G a ha t9 st 0 11 hO (by decide) (by decide)) (cwV 2 hts gL_digits_X11_digit rfl rfl rfl (by decide +kernel) ⟨Nat.le_of_ble_eq_true rfl, Nat.le_of_ble_eq_true rfl⟩) (preVX hK hNW hCW (hLow.at hS (fun q9 _ q => rng_M q9 q)) (hX.at hS (fun q9 _ q => rng_M q9 q)) (cw_recv hK hCW)) rfl rfl hl.1 rfl (lv_room (Nat.le_of_ble_eq_true rfl)) dL_digits_15 ⟨Nat.le_of_ble_eq_true rfl, Nat.le_of_ble_eq_true rfl⟩) hS (fun q h => h) (fun r _ H locs hp hCW hk hS => ?_)
  refine lv_as (y := nI 0) (hp.trans (by decide +kernel)) ?_
  refine lv_if_ne (tgt := 50) hx hb dL_digits_18 (by decide) (fun c => absurd c (by decide)) (fun _ => ?_)
  refine lv_aload_n hx hb dL_digits_21 rfl (lv_at hl 3 rfl) ?_
  refine lv_ldc (v := nI 2147483647) hx hb hown (hts (.constant RL 82 (2147483647)) (List.mem_of_getElem? (i := 1) (by decide +kernel))) dL_digits_22 ?_
  refine lv_iload_n hx hb dL_digits_24 rfl (lv_at hl 0 rfl) ?_
  refine wr_i (va_runV (As := [.int (nI 2147483647), .int (nI 11)]) (rest := []) FX (n_digit l hfl G a ha t9 st 2147483647 11 hO (by decide) (by decide)) (cwV 2 hts gL_digits_X11_digit rfl rfl rfl (by decide +kernel) ⟨Nat.le_of_ble_eq_true rfl, Nat.le_of_ble_eq_true rfl⟩) (preVX hK hNW hCW (hLow.at hS (fun q9 _ q => rng_M q9 q)) (hX.at hS (fun q9 _ q => rng_M q9 q)) (cw_recv hK hCW)) rfl rfl hl.1 rfl (lv_room (Nat.le_of_ble_eq_true rfl)) dL_digits_25 ⟨Nat.le_of_ble_eq_true rfl, Nat.le_of_ble_eq_true rfl⟩) hS (fun q h => h) (fun r _ H locs hp hCW hk hS => ?_)
  refine lv_as (y := nI 0) (hp.trans (by decide +kernel)) ?_
  refine lv_iload_n hx hb dL_digits_28 rfl (lv_at hl 0 rfl) ?_
  refine lv_if_ne (tgt := 36) hx hb dL_digits_29 (by decide) (fun _ => ?_) (fun c => absurd c (by decide))
  refine lv_iload_n hx hb dL_digits_36 rfl (lv_at hl 0 rfl) ?_
  refine lv_bipush (v := nI 15) hx hb dL_digits_37 (by decide) ?_
  refine lv_icmp_ne (tgt := 46) hx hb dL_digits_39 (by decide) (fun _ => ?_) (fun c => absurd c (by decide))
  refine lv_iconst (v := nI 0) hx hb dL_digits_46 (by decide) ?_
  refine lv_icmp_eq (tgt := 52) hx hb dL_digits_47 (by decide) (fun _ => ?_) (fun c => absurd c (by decide))
  refine lv_iload_n hx hb dL_digits_52 rfl (lv_at hl 2 rfl) ?_
  refine lv_iload_n hx hb dL_digits_53 rfl (lv_at hl 0 rfl) ?_
  refine lv_bipush (v := nI 15) hx hb dL_digits_54 (by decide) ?_
  refine lv_icmp_ge (tgt := 71) hx hb dL_digits_56 (by decide) (fun c => absurd c (by decide)) (fun _ => ?_)
  refine lv_aload_n hx hb dL_digits_59 rfl (lv_at hl 3 rfl) ?_
  refine lv_ldc (v := nI 123456789) hx hb hown (hts (.constant RL 126 (123456789)) (List.mem_of_getElem? (i := 2) (by decide +kernel))) dL_digits_60 ?_
  refine lv_iload_n hx hb dL_digits_62 rfl (lv_at hl 0 rfl) ?_
  refine wr_i (va_runV (As := [.int (nI 123456789), .int (nI 11)]) (rest := [.int (nI 1821973)]) FX (n_digit l hfl G a ha t9 st 123456789 11 hO (by decide) (by decide)) (cwV 2 hts gL_digits_X11_digit rfl rfl rfl (by decide +kernel) ⟨Nat.le_of_ble_eq_true rfl, Nat.le_of_ble_eq_true rfl⟩) (preVX hK hNW hCW (hLow.at hS (fun q9 _ q => rng_M q9 q)) (hX.at hS (fun q9 _ q => rng_M q9 q)) (cw_recv hK hCW)) rfl rfl hl.1 rfl (lv_room (Nat.le_of_ble_eq_true rfl)) dL_digits_63 ⟨Nat.le_of_ble_eq_true rfl, Nat.le_of_ble_eq_true rfl⟩) hS (fun q h => h) (fun r _ H locs hp hCW hk hS => ?_)
  refine lv_as (y := nI 1) (hp.trans (by decide +kernel)) ?_
  refine lv_iload_n hx hb dL_digits_66 rfl (lv_at hl 1 rfl) ?_
  refine lv_imul hx hb dL_digits_67 ?_
  refine lv_as (y := nI 4194304) (by decide) ?_
  refine lv_goto (tgt := 72) hx hb dL_digits_68 (by decide) ?_
  refine lv_iadd hx hb dL_digits_72 ?_
  refine lv_as (y := nI 6016277) (by decide) ?_
  refine lv_istore_n (lv' := [(1, .int (nI 6016277)), (3, .int (nI 11)), (2, .int (nI 4194304)), (0, .ref (a 0))]) hx hb dL_digits_73 rfl hl (by decide) rfl (fun ls hl => ?_)
  refine lv_iload_n hx hb dL_digits_74 rfl (lv_at hl 2 rfl) ?_
  refine lv_iload_n hx hb dL_digits_75 rfl (lv_at hl 1 rfl) ?_
  refine lv_bipush (v := nI 14) hx hb dL_digits_76 (by decide) ?_
  refine lv_icmp_ge (tgt := 85) hx hb dL_digits_78 (by decide) (fun c => absurd c (by decide)) (fun _ => ?_)
  refine lv_iconst (v := nI 4) hx hb dL_digits_81 (by decide) ?_
  refine lv_goto (tgt := 86) hx hb dL_digits_82 (by decide) ?_
  refine lv_imul hx hb dL_digits_86 ?_
  refine lv_as (y := nI 16777216) (by decide) ?_
  refine lv_istore_n (lv' := [(2, .int (nI 16777216)), (1, .int (nI 6016277)), (3, .int (nI 11)), (0, .ref (a 0))]) hx hb dL_digits_87 rfl hl (by decide) rfl (fun ls hl => ?_)
  refine lv_iinc (v := nI 12) (lv' := [(3, .int (nI 12)), (2, .int (nI 16777216)), (1, .int (nI 6016277)), (0, .ref (a 0))]) hx hb dL_digits_88 hl (k := 2) rfl (by decide) (by decide) rfl (fun ls hl => ?_)
  refine lv_goto (tgt := 6) hx hb dL_digits_91 (by decide) ?_
  refine lv_iload_n hx hb dL_digits_6 rfl (lv_at hl 0 rfl) ?_
  refine lv_bipush (v := nI 16) hx hb dL_digits_7 (by decide) ?_
  refine lv_icmp_ge (tgt := 94) hx hb dL_digits_9 (by decide) (fun c => absurd c (by decide)) (fun _ => ?_)
  refine lv_aload_n hx hb dL_digits_12 rfl (lv_at hl 3 rfl) ?_
  refine lv_iconst (v := nI 0) hx hb dL_digits_13 (by decide) ?_
  refine lv_iload_n hx hb dL_digits_14 rfl (lv_at hl 0 rfl) ?_
  refine wr_i (va_runV (As := [.int (nI 0), .int (nI 12)]) (rest := []) FX (n_digit l hfl G a ha t9 st 0 12 hO (by decide) (by decide)) (cwV 2 hts gL_digits_X11_digit rfl rfl rfl (by decide +kernel) ⟨Nat.le_of_ble_eq_true rfl, Nat.le_of_ble_eq_true rfl⟩) (preVX hK hNW hCW (hLow.at hS (fun q9 _ q => rng_M q9 q)) (hX.at hS (fun q9 _ q => rng_M q9 q)) (cw_recv hK hCW)) rfl rfl hl.1 rfl (lv_room (Nat.le_of_ble_eq_true rfl)) dL_digits_15 ⟨Nat.le_of_ble_eq_true rfl, Nat.le_of_ble_eq_true rfl⟩) hS (fun q h => h) (fun r _ H locs hp hCW hk hS => ?_)
  refine lv_as (y := nI 0) (hp.trans (by decide +kernel)) ?_
  refine lv_if_ne (tgt := 50) hx hb dL_digits_18 (by decide) (fun c => absurd c (by decide)) (fun _ => ?_)
  refine lv_aload_n hx hb dL_digits_21 rfl (lv_at hl 3 rfl) ?_
  refine lv_ldc (v := nI 2147483647) hx hb hown (hts (.constant RL 82 (2147483647)) (List.mem_of_getElem? (i := 1) (by decide +kernel))) dL_digits_22 ?_
  refine lv_iload_n hx hb dL_digits_24 rfl (lv_at hl 0 rfl) ?_
  refine wr_i (va_runV (As := [.int (nI 2147483647), .int (nI 12)]) (rest := []) FX (n_digit l hfl G a ha t9 st 2147483647 12 hO (by decide) (by decide)) (cwV 2 hts gL_digits_X11_digit rfl rfl rfl (by decide +kernel) ⟨Nat.le_of_ble_eq_true rfl, Nat.le_of_ble_eq_true rfl⟩) (preVX hK hNW hCW (hLow.at hS (fun q9 _ q => rng_M q9 q)) (hX.at hS (fun q9 _ q => rng_M q9 q)) (cw_recv hK hCW)) rfl rfl hl.1 rfl (lv_room (Nat.le_of_ble_eq_true rfl)) dL_digits_25 ⟨Nat.le_of_ble_eq_true rfl, Nat.le_of_ble_eq_true rfl⟩) hS (fun q h => h) (fun r _ H locs hp hCW hk hS => ?_)
  refine lv_as (y := nI 0) (hp.trans (by decide +kernel)) ?_
  refine lv_iload_n hx hb dL_digits_28 rfl (lv_at hl 0 rfl) ?_
  refine lv_if_ne (tgt := 36) hx hb dL_digits_29 (by decide) (fun _ => ?_) (fun c => absurd c (by decide))
  refine lv_iload_n hx hb dL_digits_36 rfl (lv_at hl 0 rfl) ?_
  refine lv_bipush (v := nI 15) hx hb dL_digits_37 (by decide) ?_
  refine lv_icmp_ne (tgt := 46) hx hb dL_digits_39 (by decide) (fun _ => ?_) (fun c => absurd c (by decide))
  refine lv_iconst (v := nI 0) hx hb dL_digits_46 (by decide) ?_
  refine lv_icmp_eq (tgt := 52) hx hb dL_digits_47 (by decide) (fun _ => ?_) (fun c => absurd c (by decide))
  refine lv_iload_n hx hb dL_digits_52 rfl (lv_at hl 2 rfl) ?_
  refine lv_iload_n hx hb dL_digits_53 rfl (lv_at hl 0 rfl) ?_
  refine lv_bipush (v := nI 15) hx hb dL_digits_54 (by decide) ?_
  refine lv_icmp_ge (tgt := 71) hx hb dL_digits_56 (by decide) (fun c => absurd c (by decide)) (fun _ => ?_)
  refine lv_aload_n hx hb dL_digits_59 rfl (lv_at hl 3 rfl) ?_
  refine lv_ldc (v := nI 123456789) hx hb hown (hts (.constant RL 126 (123456789)) (List.mem_of_getElem? (i := 2) (by decide +kernel))) dL_digits_60 ?_
  refine lv_iload_n hx hb dL_digits_62 rfl (lv_at hl 0 rfl) ?_
  refine wr_i (va_runV (As := [.int (nI 123456789), .int (nI 12)]) (rest := [.int (nI 6016277)]) FX (n_digit l hfl G a ha t9 st 123456789 12 hO (by decide) (by decide)) (cwV 2 hts gL_digits_X11_digit rfl rfl rfl (by decide +kernel) ⟨Nat.le_of_ble_eq_true rfl, Nat.le_of_ble_eq_true rfl⟩) (preVX hK hNW hCW (hLow.at hS (fun q9 _ q => rng_M q9 q)) (hX.at hS (fun q9 _ q => rng_M q9 q)) (cw_recv hK hCW)) rfl rfl hl.1 rfl (lv_room (Nat.le_of_ble_eq_true rfl)) dL_digits_63 ⟨Nat.le_of_ble_eq_true rfl, Nat.le_of_ble_eq_true rfl⟩) hS (fun q h => h) (fun r _ H locs hp hCW hk hS => ?_)
  refine lv_as (y := -1) (hp.trans (by decide +kernel)) ?_
  refine lv_iload_n hx hb dL_digits_66 rfl (lv_at hl 1 rfl) ?_
  refine lv_imul hx hb dL_digits_67 ?_
  refine lv_as (y := -16777216) (by decide) ?_
  refine lv_goto (tgt := 72) hx hb dL_digits_68 (by decide) ?_
  refine lv_iadd hx hb dL_digits_72 ?_
  refine lv_as (y := -10760939) (by decide) ?_
  refine lv_istore_n (lv' := [(1, .int (-10760939)), (3, .int (nI 12)), (2, .int (nI 16777216)), (0, .ref (a 0))]) hx hb dL_digits_73 rfl hl (by decide) rfl (fun ls hl => ?_)
  refine lv_iload_n hx hb dL_digits_74 rfl (lv_at hl 2 rfl) ?_
  refine lv_iload_n hx hb dL_digits_75 rfl (lv_at hl 1 rfl) ?_
  refine lv_bipush (v := nI 14) hx hb dL_digits_76 (by decide) ?_
  refine lv_icmp_ge (tgt := 85) hx hb dL_digits_78 (by decide) (fun c => absurd c (by decide)) (fun _ => ?_)
  refine lv_iconst (v := nI 4) hx hb dL_digits_81 (by decide) ?_
  refine lv_goto (tgt := 86) hx hb dL_digits_82 (by decide) ?_
  refine lv_imul hx hb dL_digits_86 ?_
  refine lv_as (y := nI 67108864) (by decide) ?_
  refine lv_istore_n (lv' := [(2, .int (nI 67108864)), (1, .int (-10760939)), (3, .int (nI 12)), (0, .ref (a 0))]) hx hb dL_digits_87 rfl hl (by decide) rfl (fun ls hl => ?_)
  refine lv_iinc (v := nI 13) (lv' := [(3, .int (nI 13)), (2, .int (nI 67108864)), (1, .int (-10760939)), (0, .ref (a 0))]) hx hb dL_digits_88 hl (k := 2) rfl (by decide) (by decide) rfl (fun ls hl => ?_)
  refine lv_goto (tgt := 6) hx hb dL_digits_91 (by decide) ?_
  refine lv_iload_n hx hb dL_digits_6 rfl (lv_at hl 0 rfl) ?_
  refine lv_bipush (v := nI 16) hx hb dL_digits_7 (by decide) ?_
  refine lv_icmp_ge (tgt := 94) hx hb dL_digits_9 (by decide) (fun c => absurd c (by decide)) (fun _ => ?_)
  refine lv_aload_n hx hb dL_digits_12 rfl (lv_at hl 3 rfl) ?_
  refine lv_iconst (v := nI 0) hx hb dL_digits_13 (by decide) ?_
  refine lv_iload_n hx hb dL_digits_14 rfl (lv_at hl 0 rfl) ?_
  refine wr_i (va_runV (As := [.int (nI 0), .int (nI 13)]) (rest := []) FX (n_digit l hfl G a ha t9 st 0 13 hO (by decide) (by decide)) (cwV 2 hts gL_digits_X11_digit rfl rfl rfl (by decide +kernel) ⟨Nat.le_of_ble_eq_true rfl, Nat.le_of_ble_eq_true rfl⟩) (preVX hK hNW hCW (hLow.at hS (fun q9 _ q => rng_M q9 q)) (hX.at hS (fun q9 _ q => rng_M q9 q)) (cw_recv hK hCW)) rfl rfl hl.1 rfl (lv_room (Nat.le_of_ble_eq_true rfl)) dL_digits_15 ⟨Nat.le_of_ble_eq_true rfl, Nat.le_of_ble_eq_true rfl⟩) hS (fun q h => h) (fun r _ H locs hp hCW hk hS => ?_)
  refine lv_as (y := nI 0) (hp.trans (by decide +kernel)) ?_
  refine lv_if_ne (tgt := 50) hx hb dL_digits_18 (by decide) (fun c => absurd c (by decide)) (fun _ => ?_)
  refine lv_aload_n hx hb dL_digits_21 rfl (lv_at hl 3 rfl) ?_
  refine lv_ldc (v := nI 2147483647) hx hb hown (hts (.constant RL 82 (2147483647)) (List.mem_of_getElem? (i := 1) (by decide +kernel))) dL_digits_22 ?_
  refine lv_iload_n hx hb dL_digits_24 rfl (lv_at hl 0 rfl) ?_
  refine wr_i (va_runV (As := [.int (nI 2147483647), .int (nI 13)]) (rest := []) FX (n_digit l hfl G a ha t9 st 2147483647 13 hO (by decide) (by decide)) (cwV 2 hts gL_digits_X11_digit rfl rfl rfl (by decide +kernel) ⟨Nat.le_of_ble_eq_true rfl, Nat.le_of_ble_eq_true rfl⟩) (preVX hK hNW hCW (hLow.at hS (fun q9 _ q => rng_M q9 q)) (hX.at hS (fun q9 _ q => rng_M q9 q)) (cw_recv hK hCW)) rfl rfl hl.1 rfl (lv_room (Nat.le_of_ble_eq_true rfl)) dL_digits_25 ⟨Nat.le_of_ble_eq_true rfl, Nat.le_of_ble_eq_true rfl⟩) hS (fun q h => h) (fun r _ H locs hp hCW hk hS => ?_)
  refine lv_as (y := nI 0) (hp.trans (by decide +kernel)) ?_
  refine lv_iload_n hx hb dL_digits_28 rfl (lv_at hl 0 rfl) ?_
  refine lv_if_ne (tgt := 36) hx hb dL_digits_29 (by decide) (fun _ => ?_) (fun c => absurd c (by decide))
  refine lv_iload_n hx hb dL_digits_36 rfl (lv_at hl 0 rfl) ?_
  refine lv_bipush (v := nI 15) hx hb dL_digits_37 (by decide) ?_
  refine lv_icmp_ne (tgt := 46) hx hb dL_digits_39 (by decide) (fun _ => ?_) (fun c => absurd c (by decide))
  refine lv_iconst (v := nI 0) hx hb dL_digits_46 (by decide) ?_
  refine lv_icmp_eq (tgt := 52) hx hb dL_digits_47 (by decide) (fun _ => ?_) (fun c => absurd c (by decide))
  refine lv_iload_n hx hb dL_digits_52 rfl (lv_at hl 2 rfl) ?_
  refine lv_iload_n hx hb dL_digits_53 rfl (lv_at hl 0 rfl) ?_
  refine lv_bipush (v := nI 15) hx hb dL_digits_54 (by decide) ?_
  refine lv_icmp_ge (tgt := 71) hx hb dL_digits_56 (by decide) (fun c => absurd c (by decide)) (fun _ => ?_)
  refine lv_aload_n hx hb dL_digits_59 rfl (lv_at hl 3 rfl) ?_
  refine lv_ldc (v := nI 123456789) hx hb hown (hts (.constant RL 126 (123456789)) (List.mem_of_getElem? (i := 2) (by decide +kernel))) dL_digits_60 ?_
  refine lv_iload_n hx hb dL_digits_62 rfl (lv_at hl 0 rfl) ?_
  refine wr_i (va_runV (As := [.int (nI 123456789), .int (nI 13)]) (rest := [.int (-10760939)]) FX (n_digit l hfl G a ha t9 st 123456789 13 hO (by decide) (by decide)) (cwV 2 hts gL_digits_X11_digit rfl rfl rfl (by decide +kernel) ⟨Nat.le_of_ble_eq_true rfl, Nat.le_of_ble_eq_true rfl⟩) (preVX hK hNW hCW (hLow.at hS (fun q9 _ q => rng_M q9 q)) (hX.at hS (fun q9 _ q => rng_M q9 q)) (cw_recv hK hCW)) rfl rfl hl.1 rfl (lv_room (Nat.le_of_ble_eq_true rfl)) dL_digits_63 ⟨Nat.le_of_ble_eq_true rfl, Nat.le_of_ble_eq_true rfl⟩) hS (fun q h => h) (fun r _ H locs hp hCW hk hS => ?_)
  refine lv_as (y := nI 2) (hp.trans (by decide +kernel)) ?_
  refine lv_iload_n hx hb dL_digits_66 rfl (lv_at hl 1 rfl) ?_
  refine lv_imul hx hb dL_digits_67 ?_
  refine lv_as (y := nI 134217728) (by decide) ?_
  refine lv_goto (tgt := 72) hx hb dL_digits_68 (by decide) ?_
  refine lv_iadd hx hb dL_digits_72 ?_
  refine lv_as (y := nI 123456789) (by decide) ?_
  refine lv_istore_n (lv' := [(1, .int (nI 123456789)), (3, .int (nI 13)), (2, .int (nI 67108864)), (0, .ref (a 0))]) hx hb dL_digits_73 rfl hl (by decide) rfl (fun ls hl => ?_)
  refine lv_iload_n hx hb dL_digits_74 rfl (lv_at hl 2 rfl) ?_
  refine lv_iload_n hx hb dL_digits_75 rfl (lv_at hl 1 rfl) ?_
  refine lv_bipush (v := nI 14) hx hb dL_digits_76 (by decide) ?_
  refine lv_icmp_ge (tgt := 85) hx hb dL_digits_78 (by decide) (fun c => absurd c (by decide)) (fun _ => ?_)
  refine lv_iconst (v := nI 4) hx hb dL_digits_81 (by decide) ?_
  refine lv_goto (tgt := 86) hx hb dL_digits_82 (by decide) ?_
  refine lv_imul hx hb dL_digits_86 ?_
  refine lv_as (y := nI 268435456) (by decide) ?_
  refine lv_istore_n (lv' := [(2, .int (nI 268435456)), (1, .int (nI 123456789)), (3, .int (nI 13)), (0, .ref (a 0))]) hx hb dL_digits_87 rfl hl (by decide) rfl (fun ls hl => ?_)
  refine lv_iinc (v := nI 14) (lv' := [(3, .int (nI 14)), (2, .int (nI 268435456)), (1, .int (nI 123456789)), (0, .ref (a 0))]) hx hb dL_digits_88 hl (k := 2) rfl (by decide) (by decide) rfl (fun ls hl => ?_)
  refine lv_goto (tgt := 6) hx hb dL_digits_91 (by decide) ?_
  refine lv_iload_n hx hb dL_digits_6 rfl (lv_at hl 0 rfl) ?_
  refine lv_bipush (v := nI 16) hx hb dL_digits_7 (by decide) ?_
  refine lv_icmp_ge (tgt := 94) hx hb dL_digits_9 (by decide) (fun c => absurd c (by decide)) (fun _ => ?_)
  refine lv_aload_n hx hb dL_digits_12 rfl (lv_at hl 3 rfl) ?_
  refine lv_iconst (v := nI 0) hx hb dL_digits_13 (by decide) ?_
  refine lv_iload_n hx hb dL_digits_14 rfl (lv_at hl 0 rfl) ?_
  refine wr_i (va_runV (As := [.int (nI 0), .int (nI 14)]) (rest := []) FX (n_digit l hfl G a ha t9 st 0 14 hO (by decide) (by decide)) (cwV 2 hts gL_digits_X11_digit rfl rfl rfl (by decide +kernel) ⟨Nat.le_of_ble_eq_true rfl, Nat.le_of_ble_eq_true rfl⟩) (preVX hK hNW hCW (hLow.at hS (fun q9 _ q => rng_M q9 q)) (hX.at hS (fun q9 _ q => rng_M q9 q)) (cw_recv hK hCW)) rfl rfl hl.1 rfl (lv_room (Nat.le_of_ble_eq_true rfl)) dL_digits_15 ⟨Nat.le_of_ble_eq_true rfl, Nat.le_of_ble_eq_true rfl⟩) hS (fun q h => h) (fun r _ H locs hp hCW hk hS => ?_)
  refine lv_as (y := nI 0) (hp.trans (by decide +kernel)) ?_
  refine lv_if_ne (tgt := 50) hx hb dL_digits_18 (by decide) (fun c => absurd c (by decide)) (fun _ => ?_)
  refine lv_aload_n hx hb dL_digits_21 rfl (lv_at hl 3 rfl) ?_
  refine lv_ldc (v := nI 2147483647) hx hb hown (hts (.constant RL 82 (2147483647)) (List.mem_of_getElem? (i := 1) (by decide +kernel))) dL_digits_22 ?_
  refine lv_iload_n hx hb dL_digits_24 rfl (lv_at hl 0 rfl) ?_
  refine wr_i (va_runV (As := [.int (nI 2147483647), .int (nI 14)]) (rest := []) FX (n_digit l hfl G a ha t9 st 2147483647 14 hO (by decide) (by decide)) (cwV 2 hts gL_digits_X11_digit rfl rfl rfl (by decide +kernel) ⟨Nat.le_of_ble_eq_true rfl, Nat.le_of_ble_eq_true rfl⟩) (preVX hK hNW hCW (hLow.at hS (fun q9 _ q => rng_M q9 q)) (hX.at hS (fun q9 _ q => rng_M q9 q)) (cw_recv hK hCW)) rfl rfl hl.1 rfl (lv_room (Nat.le_of_ble_eq_true rfl)) dL_digits_25 ⟨Nat.le_of_ble_eq_true rfl, Nat.le_of_ble_eq_true rfl⟩) hS (fun q h => h) (fun r _ H locs hp hCW hk hS => ?_)
  refine lv_as (y := nI 0) (hp.trans (by decide +kernel)) ?_
  refine lv_iload_n hx hb dL_digits_28 rfl (lv_at hl 0 rfl) ?_
  refine lv_if_ne (tgt := 36) hx hb dL_digits_29 (by decide) (fun _ => ?_) (fun c => absurd c (by decide))
  refine lv_iload_n hx hb dL_digits_36 rfl (lv_at hl 0 rfl) ?_
  refine lv_bipush (v := nI 15) hx hb dL_digits_37 (by decide) ?_
  refine lv_icmp_ne (tgt := 46) hx hb dL_digits_39 (by decide) (fun _ => ?_) (fun c => absurd c (by decide))
  refine lv_iconst (v := nI 0) hx hb dL_digits_46 (by decide) ?_
  refine lv_icmp_eq (tgt := 52) hx hb dL_digits_47 (by decide) (fun _ => ?_) (fun c => absurd c (by decide))
  refine lv_iload_n hx hb dL_digits_52 rfl (lv_at hl 2 rfl) ?_
  refine lv_iload_n hx hb dL_digits_53 rfl (lv_at hl 0 rfl) ?_
  refine lv_bipush (v := nI 15) hx hb dL_digits_54 (by decide) ?_
  refine lv_icmp_ge (tgt := 71) hx hb dL_digits_56 (by decide) (fun c => absurd c (by decide)) (fun _ => ?_)
  refine lv_aload_n hx hb dL_digits_59 rfl (lv_at hl 3 rfl) ?_
  refine lv_ldc (v := nI 123456789) hx hb hown (hts (.constant RL 126 (123456789)) (List.mem_of_getElem? (i := 2) (by decide +kernel))) dL_digits_60 ?_
  refine lv_iload_n hx hb dL_digits_62 rfl (lv_at hl 0 rfl) ?_
  refine wr_i (va_runV (As := [.int (nI 123456789), .int (nI 14)]) (rest := [.int (nI 123456789)]) FX (n_digit l hfl G a ha t9 st 123456789 14 hO (by decide) (by decide)) (cwV 2 hts gL_digits_X11_digit rfl rfl rfl (by decide +kernel) ⟨Nat.le_of_ble_eq_true rfl, Nat.le_of_ble_eq_true rfl⟩) (preVX hK hNW hCW (hLow.at hS (fun q9 _ q => rng_M q9 q)) (hX.at hS (fun q9 _ q => rng_M q9 q)) (cw_recv hK hCW)) rfl rfl hl.1 rfl (lv_room (Nat.le_of_ble_eq_true rfl)) dL_digits_63 ⟨Nat.le_of_ble_eq_true rfl, Nat.le_of_ble_eq_true rfl⟩) hS (fun q h => h) (fun r _ H locs hp hCW hk hS => ?_)
  refine lv_as (y := nI 0) (hp.trans (by decide +kernel)) ?_
  refine lv_iload_n hx hb dL_digits_66 rfl (lv_at hl 1 rfl) ?_
  refine lv_imul hx hb dL_digits_67 ?_
  refine lv_as (y := nI 0) (by decide) ?_
  refine lv_goto (tgt := 72) hx hb dL_digits_68 (by decide) ?_
  refine lv_iadd hx hb dL_digits_72 ?_
  refine lv_as (y := nI 123456789) (by decide) ?_
  refine lv_istore_n (lv' := [(1, .int (nI 123456789)), (3, .int (nI 14)), (2, .int (nI 268435456)), (0, .ref (a 0))]) hx hb dL_digits_73 rfl hl (by decide) rfl (fun ls hl => ?_)
  refine lv_iload_n hx hb dL_digits_74 rfl (lv_at hl 2 rfl) ?_
  refine lv_iload_n hx hb dL_digits_75 rfl (lv_at hl 1 rfl) ?_
  refine lv_bipush (v := nI 14) hx hb dL_digits_76 (by decide) ?_
  refine lv_icmp_ge (tgt := 85) hx hb dL_digits_78 (by decide) (fun _ => ?_) (fun c => absurd c (by decide))
  refine lv_iconst (v := nI 1) hx hb dL_digits_85 (by decide) ?_
  refine lv_imul hx hb dL_digits_86 ?_
  refine lv_as (y := nI 268435456) (by decide) ?_
  refine lv_istore_n (lv' := [(2, .int (nI 268435456)), (1, .int (nI 123456789)), (3, .int (nI 14)), (0, .ref (a 0))]) hx hb dL_digits_87 rfl hl (by decide) rfl (fun ls hl => ?_)
  refine lv_iinc (v := nI 15) (lv' := [(3, .int (nI 15)), (2, .int (nI 268435456)), (1, .int (nI 123456789)), (0, .ref (a 0))]) hx hb dL_digits_88 hl (k := 2) rfl (by decide) (by decide) rfl (fun ls hl => ?_)
  refine lv_goto (tgt := 6) hx hb dL_digits_91 (by decide) ?_
  refine lv_iload_n hx hb dL_digits_6 rfl (lv_at hl 0 rfl) ?_
  refine lv_bipush (v := nI 16) hx hb dL_digits_7 (by decide) ?_
  refine lv_icmp_ge (tgt := 94) hx hb dL_digits_9 (by decide) (fun c => absurd c (by decide)) (fun _ => ?_)
  refine lv_aload_n hx hb dL_digits_12 rfl (lv_at hl 3 rfl) ?_
  refine lv_iconst (v := nI 0) hx hb dL_digits_13 (by decide) ?_
  refine lv_iload_n hx hb dL_digits_14 rfl (lv_at hl 0 rfl) ?_
  refine wr_i (va_runV (As := [.int (nI 0), .int (nI 15)]) (rest := []) FX (n_digit l hfl G a ha t9 st 0 15 hO (by decide) (by decide)) (cwV 2 hts gL_digits_X11_digit rfl rfl rfl (by decide +kernel) ⟨Nat.le_of_ble_eq_true rfl, Nat.le_of_ble_eq_true rfl⟩) (preVX hK hNW hCW (hLow.at hS (fun q9 _ q => rng_M q9 q)) (hX.at hS (fun q9 _ q => rng_M q9 q)) (cw_recv hK hCW)) rfl rfl hl.1 rfl (lv_room (Nat.le_of_ble_eq_true rfl)) dL_digits_15 ⟨Nat.le_of_ble_eq_true rfl, Nat.le_of_ble_eq_true rfl⟩) hS (fun q h => h) (fun r _ H locs hp hCW hk hS => ?_)
  refine lv_as (y := nI 0) (hp.trans (by decide +kernel)) ?_
  refine lv_if_ne (tgt := 50) hx hb dL_digits_18 (by decide) (fun c => absurd c (by decide)) (fun _ => ?_)
  refine lv_aload_n hx hb dL_digits_21 rfl (lv_at hl 3 rfl) ?_
  refine lv_ldc (v := nI 2147483647) hx hb hown (hts (.constant RL 82 (2147483647)) (List.mem_of_getElem? (i := 1) (by decide +kernel))) dL_digits_22 ?_
  refine lv_iload_n hx hb dL_digits_24 rfl (lv_at hl 0 rfl) ?_
  refine wr_i (va_runV (As := [.int (nI 2147483647), .int (nI 15)]) (rest := []) FX (n_digit l hfl G a ha t9 st 2147483647 15 hO (by decide) (by decide)) (cwV 2 hts gL_digits_X11_digit rfl rfl rfl (by decide +kernel) ⟨Nat.le_of_ble_eq_true rfl, Nat.le_of_ble_eq_true rfl⟩) (preVX hK hNW hCW (hLow.at hS (fun q9 _ q => rng_M q9 q)) (hX.at hS (fun q9 _ q => rng_M q9 q)) (cw_recv hK hCW)) rfl rfl hl.1 rfl (lv_room (Nat.le_of_ble_eq_true rfl)) dL_digits_25 ⟨Nat.le_of_ble_eq_true rfl, Nat.le_of_ble_eq_true rfl⟩) hS (fun q h => h) (fun r _ H locs hp hCW hk hS => ?_)
  refine lv_as (y := nI 2) (hp.trans (by decide +kernel)) ?_
  refine lv_iload_n hx hb dL_digits_28 rfl (lv_at hl 0 rfl) ?_
  refine lv_if_ne (tgt := 36) hx hb dL_digits_29 (by decide) (fun _ => ?_) (fun c => absurd c (by decide))
  refine lv_iload_n hx hb dL_digits_36 rfl (lv_at hl 0 rfl) ?_
  refine lv_bipush (v := nI 15) hx hb dL_digits_37 (by decide) ?_
  refine lv_icmp_ne (tgt := 46) hx hb dL_digits_39 (by decide) (fun c => absurd c (by decide)) (fun _ => ?_)
  refine lv_iconst (v := nI 2) hx hb dL_digits_42 (by decide) ?_
  refine lv_goto (tgt := 47) hx hb dL_digits_43 (by decide) ?_
  refine lv_icmp_eq (tgt := 52) hx hb dL_digits_47 (by decide) (fun _ => ?_) (fun c => absurd c (by decide))
  refine lv_iload_n hx hb dL_digits_52 rfl (lv_at hl 2 rfl) ?_
  refine lv_iload_n hx hb dL_digits_53 rfl (lv_at hl 0 rfl) ?_
  refine lv_bipush (v := nI 15) hx hb dL_digits_54 (by decide) ?_
  refine lv_icmp_ge (tgt := 71) hx hb dL_digits_56 (by decide) (fun _ => ?_) (fun c => absurd c (by decide))
  refine lv_iconst (v := nI 0) hx hb dL_digits_71 (by decide) ?_
  refine lv_iadd hx hb dL_digits_72 ?_
  refine lv_as (y := nI 123456789) (by decide) ?_
  refine lv_istore_n (lv' := [(1, .int (nI 123456789)), (3, .int (nI 15)), (2, .int (nI 268435456)), (0, .ref (a 0))]) hx hb dL_digits_73 rfl hl (by decide) rfl (fun ls hl => ?_)
  refine lv_iload_n hx hb dL_digits_74 rfl (lv_at hl 2 rfl) ?_
  refine lv_iload_n hx hb dL_digits_75 rfl (lv_at hl 1 rfl) ?_
  refine lv_bipush (v := nI 14) hx hb dL_digits_76 (by decide) ?_
  refine lv_icmp_ge (tgt := 85) hx hb dL_digits_78 (by decide) (fun _ => ?_) (fun c => absurd c (by decide))
  refine lv_iconst (v := nI 1) hx hb dL_digits_85 (by decide) ?_
  refine lv_imul hx hb dL_digits_86 ?_
  refine lv_as (y := nI 268435456) (by decide) ?_
  refine lv_istore_n (lv' := [(2, .int (nI 268435456)), (1, .int (nI 123456789)), (3, .int (nI 15)), (0, .ref (a 0))]) hx hb dL_digits_87 rfl hl (by decide) rfl (fun ls hl => ?_)
  refine lv_iinc (v := nI 16) (lv' := [(3, .int (nI 16)), (2, .int (nI 268435456)), (1, .int (nI 123456789)), (0, .ref (a 0))]) hx hb dL_digits_88 hl (k := 2) rfl (by decide) (by decide) rfl (fun ls hl => ?_)
  refine lv_goto (tgt := 6) hx hb dL_digits_91 (by decide) ?_
  refine lv_iload_n hx hb dL_digits_6 rfl (lv_at hl 0 rfl) ?_
  refine lv_bipush (v := nI 16) hx hb dL_digits_7 (by decide) ?_
  refine lv_icmp_ge (tgt := 94) hx hb dL_digits_9 (by decide) (fun _ => ?_) (fun c => absurd c (by decide))
  refine lv_iload_n hx hb dL_digits_94 rfl (lv_at hl 2 rfl) ?_
  refine lv_ldc (v := nI 123456789) hx hb hown (hts (.constant RL 126 (123456789)) (List.mem_of_getElem? (i := 2) (by decide +kernel))) dL_digits_95 ?_
  refine lv_icmp_ne (tgt := 215) hx hb dL_digits_97 (by decide) (fun c => absurd c (by decide)) (fun _ => ?_)
  refine lv_aload_n hx hb dL_digits_100 rfl (lv_at hl 3 rfl) ?_
  refine lv_bipush (v := nI 27) hx hb dL_digits_101 (by decide) ?_
  refine lv_iconst (v := nI 0) hx hb dL_digits_103 (by decide) ?_
  refine wr_i (va_runV (As := [.int (nI 27), .int (nI 0)]) (rest := []) FX (n_digit l hfl G a ha t9 st 27 0 hO (by decide) (by decide)) (cwV 2 hts gL_digits_X11_digit rfl rfl rfl (by decide +kernel) ⟨Nat.le_of_ble_eq_true rfl, Nat.le_of_ble_eq_true rfl⟩) (preVX hK hNW hCW (hLow.at hS (fun q9 _ q => rng_M q9 q)) (hX.at hS (fun q9 _ q => rng_M q9 q)) (cw_recv hK hCW)) rfl rfl hl.1 rfl (lv_room (Nat.le_of_ble_eq_true rfl)) dL_digits_104 ⟨Nat.le_of_ble_eq_true rfl, Nat.le_of_ble_eq_true rfl⟩) hS (fun q h => h) (fun r _ H locs hp hCW hk hS => ?_)
  refine lv_as (y := -1) (hp.trans (by decide +kernel)) ?_
  refine lv_iconst (v := -1) hx hb dL_digits_107 (by decide) ?_
  refine lv_icmp_ne (tgt := 215) hx hb dL_digits_108 (by decide) (fun c => absurd c (by decide)) (fun _ => ?_)
  refine lv_aload_n hx hb dL_digits_111 rfl (lv_at hl 3 rfl) ?_
  refine lv_bipush (v := nI 27) hx hb dL_digits_112 (by decide) ?_
  refine lv_iconst (v := nI 1) hx hb dL_digits_114 (by decide) ?_
  refine wr_i (va_runV (As := [.int (nI 27), .int (nI 1)]) (rest := []) FX (n_digit l hfl G a ha t9 st 27 1 hO (by decide) (by decide)) (cwV 2 hts gL_digits_X11_digit rfl rfl rfl (by decide +kernel) ⟨Nat.le_of_ble_eq_true rfl, Nat.le_of_ble_eq_true rfl⟩) (preVX hK hNW hCW (hLow.at hS (fun q9 _ q => rng_M q9 q)) (hX.at hS (fun q9 _ q => rng_M q9 q)) (cw_recv hK hCW)) rfl rfl hl.1 rfl (lv_room (Nat.le_of_ble_eq_true rfl)) dL_digits_115 ⟨Nat.le_of_ble_eq_true rfl, Nat.le_of_ble_eq_true rfl⟩) hS (fun q h => h) (fun r _ H locs hp hCW hk hS => ?_)
  refine lv_as (y := -1) (hp.trans (by decide +kernel)) ?_
  refine lv_iconst (v := -1) hx hb dL_digits_118 (by decide) ?_
  refine lv_icmp_ne (tgt := 215) hx hb dL_digits_119 (by decide) (fun c => absurd c (by decide)) (fun _ => ?_)
  refine lv_aload_n hx hb dL_digits_122 rfl (lv_at hl 3 rfl) ?_
  refine lv_bipush (v := nI 27) hx hb dL_digits_123 (by decide) ?_
  refine lv_iconst (v := nI 2) hx hb dL_digits_125 (by decide) ?_
  refine wr_i (va_runV (As := [.int (nI 27), .int (nI 2)]) (rest := []) FX (n_digit l hfl G a ha t9 st 27 2 hO (by decide) (by decide)) (cwV 2 hts gL_digits_X11_digit rfl rfl rfl (by decide +kernel) ⟨Nat.le_of_ble_eq_true rfl, Nat.le_of_ble_eq_true rfl⟩) (preVX hK hNW hCW (hLow.at hS (fun q9 _ q => rng_M q9 q)) (hX.at hS (fun q9 _ q => rng_M q9 q)) (cw_recv hK hCW)) rfl rfl hl.1 rfl (lv_room (Nat.le_of_ble_eq_true rfl)) dL_digits_126 ⟨Nat.le_of_ble_eq_true rfl, Nat.le_of_ble_eq_true rfl⟩) hS (fun q h => h) (fun r _ H locs hp hCW hk hS => ?_)
  refine lv_as (y := nI 2) (hp.trans (by decide +kernel)) ?_
  refine lv_iconst (v := nI 2) hx hb dL_digits_129 (by decide) ?_
  refine lv_icmp_ne (tgt := 215) hx hb dL_digits_130 (by decide) (fun c => absurd c (by decide)) (fun _ => ?_)
  refine lv_aload_n hx hb dL_digits_133 rfl (lv_at hl 3 rfl) ?_
  refine lv_bipush (v := nI 27) hx hb dL_digits_134 (by decide) ?_
  refine lv_iconst (v := nI 3) hx hb dL_digits_136 (by decide) ?_
  refine wr_i (va_runV (As := [.int (nI 27), .int (nI 3)]) (rest := []) FX (n_digit l hfl G a ha t9 st 27 3 hO (by decide) (by decide)) (cwV 2 hts gL_digits_X11_digit rfl rfl rfl (by decide +kernel) ⟨Nat.le_of_ble_eq_true rfl, Nat.le_of_ble_eq_true rfl⟩) (preVX hK hNW hCW (hLow.at hS (fun q9 _ q => rng_M q9 q)) (hX.at hS (fun q9 _ q => rng_M q9 q)) (cw_recv hK hCW)) rfl rfl hl.1 rfl (lv_room (Nat.le_of_ble_eq_true rfl)) dL_digits_137 ⟨Nat.le_of_ble_eq_true rfl, Nat.le_of_ble_eq_true rfl⟩) hS (fun q h => h) (fun r _ H locs hp hCW hk hS => ?_)
  refine lv_as (y := nI 0) (hp.trans (by decide +kernel)) ?_
  refine lv_if_ne (tgt := 215) hx hb dL_digits_140 (by decide) (fun c => absurd c (by decide)) (fun _ => ?_)
  refine lv_aload_n hx hb dL_digits_143 rfl (lv_at hl 3 rfl) ?_
  refine lv_iconst (v := nI 2) hx hb dL_digits_144 (by decide) ?_
  refine lv_iconst (v := nI 0) hx hb dL_digits_145 (by decide) ?_
  refine wr_i (va_runV (As := [.int (nI 2), .int (nI 0)]) (rest := []) FX (n_digit l hfl G a ha t9 st 2 0 hO (by decide) (by decide)) (cwV 2 hts gL_digits_X11_digit rfl rfl rfl (by decide +kernel) ⟨Nat.le_of_ble_eq_true rfl, Nat.le_of_ble_eq_true rfl⟩) (preVX hK hNW hCW (hLow.at hS (fun q9 _ q => rng_M q9 q)) (hX.at hS (fun q9 _ q => rng_M q9 q)) (cw_recv hK hCW)) rfl rfl hl.1 rfl (lv_room (Nat.le_of_ble_eq_true rfl)) dL_digits_146 ⟨Nat.le_of_ble_eq_true rfl, Nat.le_of_ble_eq_true rfl⟩) hS (fun q h => h) (fun r _ H locs hp hCW hk hS => ?_)
  refine lv_as (y := -2) (hp.trans (by decide +kernel)) ?_
  refine lv_bipush (v := -2) hx hb dL_digits_149 (by decide) ?_
  refine lv_icmp_ne (tgt := 215) hx hb dL_digits_151 (by decide) (fun c => absurd c (by decide)) (fun _ => ?_)
  refine lv_aload_n hx hb dL_digits_154 rfl (lv_at hl 3 rfl) ?_
  refine lv_iconst (v := nI 2) hx hb dL_digits_155 (by decide) ?_
  refine lv_iconst (v := nI 1) hx hb dL_digits_156 (by decide) ?_
  refine wr_i (va_runV (As := [.int (nI 2), .int (nI 1)]) (rest := []) FX (n_digit l hfl G a ha t9 st 2 1 hO (by decide) (by decide)) (cwV 2 hts gL_digits_X11_digit rfl rfl rfl (by decide +kernel) ⟨Nat.le_of_ble_eq_true rfl, Nat.le_of_ble_eq_true rfl⟩) (preVX hK hNW hCW (hLow.at hS (fun q9 _ q => rng_M q9 q)) (hX.at hS (fun q9 _ q => rng_M q9 q)) (cw_recv hK hCW)) rfl rfl hl.1 rfl (lv_room (Nat.le_of_ble_eq_true rfl)) dL_digits_157 ⟨Nat.le_of_ble_eq_true rfl, Nat.le_of_ble_eq_true rfl⟩) hS (fun q h => h) (fun r _ H locs hp hCW hk hS => ?_)
  refine lv_as (y := nI 1) (hp.trans (by decide +kernel)) ?_
  refine lv_iconst (v := nI 1) hx hb dL_digits_160 (by decide) ?_
  refine lv_icmp_ne (tgt := 215) hx hb dL_digits_161 (by decide) (fun c => absurd c (by decide)) (fun _ => ?_)
  refine lv_aload_n hx hb dL_digits_164 rfl (lv_at hl 3 rfl) ?_
  refine lv_iconst (v := nI 1) hx hb dL_digits_165 (by decide) ?_
  refine lv_iconst (v := nI 0) hx hb dL_digits_166 (by decide) ?_
  refine wr_i (va_runV (As := [.int (nI 1), .int (nI 0)]) (rest := []) FX (n_digit l hfl G a ha t9 st 1 0 hO (by decide) (by decide)) (cwV 2 hts gL_digits_X11_digit rfl rfl rfl (by decide +kernel) ⟨Nat.le_of_ble_eq_true rfl, Nat.le_of_ble_eq_true rfl⟩) (preVX hK hNW hCW (hLow.at hS (fun q9 _ q => rng_M q9 q)) (hX.at hS (fun q9 _ q => rng_M q9 q)) (cw_recv hK hCW)) rfl rfl hl.1 rfl (lv_room (Nat.le_of_ble_eq_true rfl)) dL_digits_167 ⟨Nat.le_of_ble_eq_true rfl, Nat.le_of_ble_eq_true rfl⟩) hS (fun q h => h) (fun r _ H locs hp hCW hk hS => ?_)
  refine lv_as (y := nI 1) (hp.trans (by decide +kernel)) ?_
  refine lv_iconst (v := nI 1) hx hb dL_digits_170 (by decide) ?_
  refine lv_icmp_ne (tgt := 215) hx hb dL_digits_171 (by decide) (fun c => absurd c (by decide)) (fun _ => ?_)
  refine lv_aload_n hx hb dL_digits_174 rfl (lv_at hl 3 rfl) ?_
  refine lv_ldc (v := nI 1073741824) hx hb hown (hts (.constant RL 85 (1073741824)) (List.mem_of_getElem? (i := 3) (by decide +kernel))) dL_digits_175 ?_
  refine lv_bipush (v := nI 15) hx hb dL_digits_177 (by decide) ?_
  refine wr_i (va_runV (As := [.int (nI 1073741824), .int (nI 15)]) (rest := []) FX (n_digit l hfl G a ha t9 st 1073741824 15 hO (by decide) (by decide)) (cwV 2 hts gL_digits_X11_digit rfl rfl rfl (by decide +kernel) ⟨Nat.le_of_ble_eq_true rfl, Nat.le_of_ble_eq_true rfl⟩) (preVX hK hNW hCW (hLow.at hS (fun q9 _ q => rng_M q9 q)) (hX.at hS (fun q9 _ q => rng_M q9 q)) (cw_recv hK hCW)) rfl rfl hl.1 rfl (lv_room (Nat.le_of_ble_eq_true rfl)) dL_digits_179 ⟨Nat.le_of_ble_eq_true rfl, Nat.le_of_ble_eq_true rfl⟩) hS (fun q h => h) (fun r _ H locs hp hCW hk hS => ?_)
  refine lv_as (y := nI 1) (hp.trans (by decide +kernel)) ?_
  refine lv_iconst (v := nI 1) hx hb dL_digits_182 (by decide) ?_
  refine lv_icmp_ne (tgt := 215) hx hb dL_digits_183 (by decide) (fun c => absurd c (by decide)) (fun _ => ?_)
  refine lv_aload_n hx hb dL_digits_186 rfl (lv_at hl 3 rfl) ?_
  refine lv_ldc (v := nI 536870912) hx hb hown (hts (.constant RL 127 (536870912)) (List.mem_of_getElem? (i := 4) (by decide +kernel))) dL_digits_187 ?_
  refine lv_bipush (v := nI 15) hx hb dL_digits_189 (by decide) ?_
  refine wr_i (va_runV (As := [.int (nI 536870912), .int (nI 15)]) (rest := []) FX (n_digit l hfl G a ha t9 st 536870912 15 hO (by decide) (by decide)) (cwV 2 hts gL_digits_X11_digit rfl rfl rfl (by decide +kernel) ⟨Nat.le_of_ble_eq_true rfl, Nat.le_of_ble_eq_true rfl⟩) (preVX hK hNW hCW (hLow.at hS (fun q9 _ q => rng_M q9 q)) (hX.at hS (fun q9 _ q => rng_M q9 q)) (cw_recv hK hCW)) rfl rfl hl.1 rfl (lv_room (Nat.le_of_ble_eq_true rfl)) dL_digits_191 ⟨Nat.le_of_ble_eq_true rfl, Nat.le_of_ble_eq_true rfl⟩) hS (fun q h => h) (fun r _ H locs hp hCW hk hS => ?_)
  refine lv_as (y := nI 1) (hp.trans (by decide +kernel)) ?_
  refine lv_iconst (v := nI 1) hx hb dL_digits_194 (by decide) ?_
  refine lv_icmp_ne (tgt := 215) hx hb dL_digits_195 (by decide) (fun c => absurd c (by decide)) (fun _ => ?_)
  refine lv_aload_n hx hb dL_digits_198 rfl (lv_at hl 3 rfl) ?_
  refine lv_ldc (v := nI 536870912) hx hb hown (hts (.constant RL 127 (536870912)) (List.mem_of_getElem? (i := 4) (by decide +kernel))) dL_digits_199 ?_
  refine lv_bipush (v := nI 14) hx hb dL_digits_201 (by decide) ?_
  refine wr_i (va_runV (As := [.int (nI 536870912), .int (nI 14)]) (rest := []) FX (n_digit l hfl G a ha t9 st 536870912 14 hO (by decide) (by decide)) (cwV 2 hts gL_digits_X11_digit rfl rfl rfl (by decide +kernel) ⟨Nat.le_of_ble_eq_true rfl, Nat.le_of_ble_eq_true rfl⟩) (preVX hK hNW hCW (hLow.at hS (fun q9 _ q => rng_M q9 q)) (hX.at hS (fun q9 _ q => rng_M q9 q)) (cw_recv hK hCW)) rfl rfl hl.1 rfl (lv_room (Nat.le_of_ble_eq_true rfl)) dL_digits_203 ⟨Nat.le_of_ble_eq_true rfl, Nat.le_of_ble_eq_true rfl⟩) hS (fun q h => h) (fun r _ H locs hp hCW hk hS => ?_)
  refine lv_as (y := -2) (hp.trans (by decide +kernel)) ?_
  refine lv_bipush (v := -2) hx hb dL_digits_206 (by decide) ?_
  refine lv_icmp_ne (tgt := 215) hx hb dL_digits_208 (by decide) (fun c => absurd c (by decide)) (fun _ => ?_)
  refine lv_iconst (v := nI 1) hx hb dL_digits_211 (by decide) ?_
  refine lv_goto (tgt := 216) hx hb dL_digits_212 (by decide) ?_
  exact en_wz () hx hb hr hlocks hS nw1 rfl hCW dL_digits_216
