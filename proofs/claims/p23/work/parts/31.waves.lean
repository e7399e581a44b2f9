set_option maxRecDepth 20000 in
theorem inX8_hold_8 : ∀ w ∈ u_ws RX8 TX8 2, w ∈ wsX8_hold := by decide +kernel
set_option maxHeartbeats 4000000 in
set_option maxRecDepth 100000 in
/-- Waves.hold -/
theorem c_X8_hold (l : Launch) (G : GG) (a : Nat → Nat) (ha : Inj a) (i U : Nat) (hU : U ≤ 17) (f : Nat → Int64) (k : Nat) (x : Int64) (hk : k < 120) : Met l yX8_hold wsX8_hold ({ frames := 1, cells := 0, slots := 0, locals := 23 } : Room) (PcB G [.ref (a i), .int (nI k), .long x] (fun H => PP G (wavW G a i (nI U) f) H)) (QV (fun g : Nat → Int64 => (∀ r, r < U → g (k * 17 + r) = x) ∧ ∀ j, (j < k * 17 ∨ k * 17 + 17 ≤ j) → g j = f j) (fun g H => PP G (wavW G a i (nI U) g) H) (rng a i 3)) 0 0 (rng a i 3) := by
  refine Met.ofW (cc := cX8_hold) (maxL := 5) (ret := none) (by decide) rfl ?_
  intro p e s m args below meth c s₁ B hml hv
  obtain ⟨rfl, hB, hK, hNW⟩ := hv
  have hx := B.exec
  have hb := B.bytes
  have hr := B.returns
  have hts := atoms_spec (ws := wsX8_hold) B.pre
  have hown : s.vm.findClass RX8 = some m.cls := findClass_of_methodNamed B.named
  have hlocks := B.notSynchronized
  have FX : CallFix p m c cX8_hold 5 s ([.ref (a i), .int (nI k), .long x] : List Value).toArray wsX8_hold RX8 := ⟨hx, hb, hml, hown, hts⟩
  have hl := lv_entry ([.ref (a i), .int (nI k), .long x]) (n := 5) (Nat.le_of_ble_eq_true rfl)
  rw [lg_entry_eq]
  generalize (lg_sl ([.ref (a i), .int (nI k), .long x]) ++ List.replicate (5 - (lg_sl ([.ref (a i), .int (nI k), .long x])).length) Slot.unset).toArray = ls at hl ⊢
  have hl : lv_has ls 5 [(0, .ref (a i)), (1, .int (nI k)), (2, .long x)] := hl
  have h_o : PP G ([(a i, .inr (8, [.ref (a (i + 1)), .int (nI U)]))]) s.heap := P_app1 hB
  have h_w : PP G (wrowW G a (i + 1) 2040 f) s.heap := P_app2 hB
  have hS : va_S (rng a i 3) s.heap s.heap [] := va_S.rf
  refine lv_iconst (v := nI 0) hx hb dX8_hold_0 (by decide) ?_
  refine lv_istore (lv' := [(4, .int (nI 0)), (0, .ref (a i)), (1, .int (nI k)), (2, .long x)]) hx hb dX8_hold_1 hl (by decide) rfl (fun ls hl => ?_)
  refine lv_loop2 3 (fun (u : Nat) (g : Nat → Int64) => U - u) (fun (u : Nat) (g : Nat → Int64) (H : Heap) (locs : List Loc) (ls : Array Slot) => (PP G ([(a i, .inr (8, [.ref (a (i + 1)), .int (nI U)]))]) H) ∧ (PP G (wrowW G a (i + 1) 2040 g) H) ∧ (va_S (rng a i 3) s.heap H locs) ∧ (lv_has ls 5 [(0, .ref (a i)), (1, .int (nI k)), (2, .long x), (4, .int (nI u))]) ∧ (u ≤ U) ∧ (∀ r, r < u → g (k * 17 + r) = x) ∧ (∀ j, (j < k * 17 ∨ k * 17 + 17 ≤ j) → g j = f j)) (fun _ _ => []) (fun u g H locs ls hI ih => ?_) 0 f ⟨h_o, h_w, hS, lv_sub hl [1, 2, 3, 0] rfl, by omega, fun r h => absurd h (Nat.not_lt_zero r), fun _ _ => rfl⟩ rfl
  obtain ⟨h_o, h_w, hS, hl, hu, hg1, hg2⟩ := hI
  have ih1 := @ih
  clear ih
  refine lv_iload hx hb dX8_hold_3 (lv_at hl 3 rfl) ?_
  refine lv_aload_n hx hb dX8_hold_5 rfl (lv_at hl 0 rfl) ?_
  refine va_get (D := G.1) (ci := 8) (v := .int (nI U)) (C := RX8) (T := TX8) (N := 2) hx hb hts inX8_hold_8 hown hK h_o 0 rfl rfl 1 (by decide) (hts (.fieldLink RX8 26 "GateLedger$Waves" "used" "I") (List.mem_of_getElem? (i := 1) (by decide +kernel))) (fun _ h9 => h9) rfl dX8_hold_6 ?_
  refine lv_icmp_ge (tgt := 33) hx hb dX8_hold_9 (by decide) (fun c9 => ?_) (fun c9 => ?_)
  · skip
    have c9 := cv_le (by omega) (by omega) c9
    exact en_wv g hx hb hr hlocks hS (⟨fun r h => hg1 r (by omega), hg2⟩) (P_app h_o h_w) dX8_hold_33
  · skip
    have c9 := cv_nle (by omega) (by omega) c9
    refine lv_aload_n hx hb dX8_hold_12 rfl (lv_at hl 0 rfl) ?_
    refine va_get (D := G.1) (ci := 8) (v := .ref (a (i + 1))) (C := RX8) (T := TX8) (N := 2) hx hb hts inX8_hold_8 hown hK h_o 0 rfl rfl 0 (by decide) (hts (.fieldLink RX8 16 "GateLedger$Waves" "words" "LGateLedger$WideRow;") (List.mem_of_getElem? (i := 2) (by decide +kernel))) (fun _ h9 => h9) rfl dX8_hold_13 ?_
    refine lv_iload_n hx hb dX8_hold_16 rfl (lv_at hl 1 rfl) ?_
    refine lv_bipush (v := nI 17) hx hb dX8_hold_17 (by decide) ?_
    refine lv_imul hx hb dX8_hold_19 ?_
    refine lv_as (pk_mul _ _) ?_
    refine lv_iload hx hb dX8_hold_20 (lv_at hl 3 rfl) ?_
    refine lv_iadd hx hb dX8_hold_22 ?_
    refine lv_as (nI_add _ _) ?_
    refine lv_lload_n hx hb dX8_hold_23 rfl (lv_at hl 2 rfl) ?_
    refine wr_v (va_runV (As := [.int (nI ((k * 17) + u)), .long x]) (rest := []) FX (c_X9_put l G a ha (i + 1) 2040 g (nI ((k * 17) + u)) x (by decide)) (cwV 2 hts gX8_hold_X9_put rfl rfl rfl (by decide +kernel) ⟨Nat.le_of_ble_eq_true rfl, Nat.le_of_ble_eq_true rfl⟩) (preV hK hNW h_w (va_recv hK h_w (ci := 9) (q0 := 0) rfl rfl)) rfl rfl hl.1 rfl (lv_room (Nat.le_of_ble_eq_true rfl)) dX8_hold_24 ⟨Nat.le_of_ble_eq_true rfl, Nat.le_of_ble_eq_true rfl⟩) hS (rng_sub (by omega)) (fun _ H locs _ hP9 hk2 hS => ?_)
    rw [wrowPut_in (by omega) (by decide)] at hP9
    have h_w : PP G (wrowW G a (i + 1) 2040 (vp_updL g ((k * 17) + u) x)) H := hP9
    have h_o : PP G ([(a i, .inr (8, [.ref (a (i + 1)), .int (nI U)]))]) H := kp hk2 h_o (dj_cons (rng_no ha (by omega)) (dj_nil))
    refine lv_iinc (v := nI (u + 1)) (lv' := [(4, .int (nI (u + 1))), (0, .ref (a i)), (1, .int (nI k)), (2, .long x)]) hx hb dX8_hold_27 hl (k := 3) rfl (by first | exact nI_add _ 1 | decide) (by decide) rfl (fun ls hl => ?_)
    refine lv_goto (tgt := 3) hx hb dX8_hold_30 (by decide) ?_
    exact ih1 (u + 1) (vp_updL g (k * 17 + u) x) _ _ _ ⟨h_o, h_w, hS, lv_sub hl [1, 2, 3, 0] rfl, by omega, updL_seg (v := fun _ => x) hg1 rfl, updL_out hg2 (by omega)⟩ (by show U - (u + 1) < U - u; omega)
set_option maxRecDepth 20000 in
theorem inX8_delay_8 : ∀ w ∈ u_ws RX8 TX8 2, w ∈ wsX8_delay := by decide +kernel
set_option maxHeartbeats 4000000 in
set_option maxRecDepth 100000 in
/-- Waves.delay -/
theorem c_X8_delay (l : Launch) (G : GG) (a : Nat → Nat) (ha : Inj a) (i U : Nat) (hU : U ≤ 17) (f : Nat → Int64) (j : Nat) (hij : i + 3 ≤ j ∨ j + 11 ≤ i) (N : NT) (hN : WF N) (k d : Nat) (pb : Int64) (hk : k < nG N) (h4 : ¬ nK N k = 4) : Met l yX8_delay wsX8_delay ({ frames := 2, cells := 0, slots := 0, locals := 42 } : Room) (PcB G [.ref (a i), .ref (a j), .int (nI k), .int (nI d), .long pb] (fun H => PP G (wavW G a i (nI U) f) H ∧ PP G (netW G a j N) H)) (QV (fun g : Nat → Int64 => (∀ r, r < U → g (k * 17 + r) = dlyW (nK N k) f (nF N k * 17) (nS N k * 17) d pb r) ∧ ∀ j, (j < k * 17 ∨ k * 17 + 17 ≤ j) → g j = f j) (fun g H => PP G (wavW G a i (nI U) g) H) (rng a i 3)) 0 0 (rng a i 3) := by
  refine Met.ofW (cc := cX8_delay) (maxL := 13) (ret := none) (by decide) rfl ?_
  intro p e s m args below meth c s₁ B hml hv
  obtain ⟨rfl, hB, hK, hNW⟩ := hv
  have hx := B.exec
  have hb := B.bytes
  have hr := B.returns
  have hts := atoms_spec (ws := wsX8_delay) B.pre
  have hown : s.vm.findClass RX8 = some m.cls := findClass_of_methodNamed B.named
  have hlocks := B.notSynchronized
  have FX : CallFix p m c cX8_delay 13 s ([.ref (a i), .ref (a j), .int (nI k), .int (nI d), .long pb] : List Value).toArray wsX8_delay RX8 := ⟨hx, hb, hml, hown, hts⟩
  have hl := lv_entry ([.ref (a i), .ref (a j), .int (nI k), .int (nI d), .long pb]) (n := 13) (Nat.le_of_ble_eq_true rfl)
  rw [lg_entry_eq]
  generalize (lg_sl ([.ref (a i), .ref (a j), .int (nI k), .int (nI d), .long pb]) ++ List.replicate (13 - (lg_sl ([.ref (a i), .ref (a j), .int (nI k), .int (nI d), .long pb])).length) Slot.unset).toArray = ls at hl ⊢
  have hl : lv_has ls 13 [(0, .ref (a i)), (1, .ref (a j)), (2, .int (nI k)), (3, .int (nI d)), (4, .long pb)] := hl
  obtain ⟨hB, h_n⟩ := hB
  have h_o : PP G ([(a i, .inr (8, [.ref (a (i + 1)), .int (nI U)]))]) s.heap := P_app1 hB
  have h_w : PP G (wrowW G a (i + 1) 2040 f) s.heap := P_app2 hB
  have hdn : dj (rng a i 3) (netW G a j N) := dj_rng ha netW_in (by omega)
  have hg9 := hN.g
  have hfs := hN.fs hk h4
  have hk4 := hN.k hk
  have hS : va_S (rng a i 3) s.heap s.heap [] := va_S.rf
  refine lv_aload_n hx hb dX8_delay_0 rfl (lv_at hl 1 rfl) ?_
  refine lv_iload_n hx hb dX8_delay_1 rfl (lv_at hl 2 rfl) ?_
  refine ro_i (va_runV (As := [.int (nI k)]) (rest := []) FX (c_X3_firstOf l G a j N hN k hk) (cwV 1 hts gX8_delay_X3_firstOf rfl rfl rfl (by decide +kernel) ⟨Nat.le_of_ble_eq_true rfl, Nat.le_of_ble_eq_true rfl⟩) (preV hK hNW (ro hS h_n hdn) (va_recv hK (ro hS h_n hdn) (ci := 3) (q0 := 0) rfl rfl)) rfl rfl hl.1 rfl (lv_room (Nat.le_of_ble_eq_true rfl)) dX8_delay_2 ⟨Nat.le_of_ble_eq_true rfl, Nat.le_of_ble_eq_true rfl⟩) ?_
  refine lv_bipush (v := nI 17) hx hb dX8_delay_5 (by decide) ?_
  refine lv_imul hx hb dX8_delay_7 ?_
  refine lv_as (pk_mul _ _) ?_
  refine lv_istore (lv' := [(6, .int (nI ((nF N k) * 17))), (0, .ref (a i)), (1, .ref (a j)), (2, .int (nI k)), (3, .int (nI d)), (4, .long pb)]) hx hb dX8_delay_8 hl (by decide) rfl (fun ls hl => ?_)
  refine lv_aload_n hx hb dX8_delay_10 rfl (lv_at hl 2 rfl) ?_
  refine lv_iload_n hx hb dX8_delay_11 rfl (lv_at hl 3 rfl) ?_
  refine ro_i (va_runV (As := [.int (nI k)]) (rest := []) FX (c_X3_secondOf l G a j N hN k hk) (cwV 1 hts gX8_delay_X3_secondOf rfl rfl rfl (by decide +kernel) ⟨Nat.le_of_ble_eq_true rfl, Nat.le_of_ble_eq_true rfl⟩) (preV hK hNW (ro hS h_n hdn) (va_recv hK (ro hS h_n hdn) (ci := 3) (q0 := 0) rfl rfl)) rfl rfl hl.1 rfl (lv_room (Nat.le_of_ble_eq_true rfl)) dX8_delay_12 ⟨Nat.le_of_ble_eq_true rfl, Nat.le_of_ble_eq_true rfl⟩) ?_
  refine lv_bipush (v := nI 17) hx hb dX8_delay_15 (by decide) ?_
  refine lv_imul hx hb dX8_delay_17 ?_
  refine lv_as (pk_mul _ _) ?_
  refine lv_istore (lv' := [(7, .int (nI ((nS N k) * 17))), (6, .int (nI ((nF N k) * 17))), (0, .ref (a i)), (1, .ref (a j)), (2, .int (nI k)), (3, .int (nI d)), (4, .long pb)]) hx hb dX8_delay_18 hl (by decide) rfl (fun ls hl => ?_)
  refine lv_lload hx hb dX8_delay_20 (lv_at hl 6 rfl) ?_
  refine lv_lstore (lv' := [(8, .long pb), (7, .int (nI ((nS N k) * 17))), (6, .int (nI ((nF N k) * 17))), (0, .ref (a i)), (1, .ref (a j)), (2, .int (nI k)), (3, .int (nI d)), (4, .long pb)]) hx hb dX8_delay_22 hl (by decide) rfl (fun ls hl => ?_)
  refine lv_iconst (v := nI 0) hx hb dX8_delay_24 (by decide) ?_
  refine lv_istore (lv' := [(10, .int (nI 0)), (8, .long pb), (7, .int (nI ((nS N k) * 17))), (6, .int (nI ((nF N k) * 17))), (0, .ref (a i)), (1, .ref (a j)), (2, .int (nI k)), (3, .int (nI d)), (4, .long pb)]) hx hb dX8_delay_25 hl (by decide) rfl (fun ls hl => ?_)
  refine lv_loop2 27 (fun (u : Nat) (g : Nat → Int64) => U - u) (fun (u : Nat) (g : Nat → Int64) (H : Heap) (locs : List Loc) (ls : Array Slot) => (PP G ([(a i, .inr (8, [.ref (a (i + 1)), .int (nI U)]))]) H) ∧ (PP G (wrowW G a (i + 1) 2040 g) H) ∧ (va_S (rng a i 3) s.heap H locs) ∧ (lv_has ls 13 [(0, .ref (a i)), (1, .ref (a j)), (2, .int (nI k)), (3, .int (nI d)), (6, .int (nI (nF N k * 17))), (7, .int (nI (nS N k * 17))), (8, .long (if u = 0 then pb else dlyN (nK N k) f (nF N k * 17) (nS N k * 17) (u - 1))), (10, .int (nI u))]) ∧ (u ≤ U) ∧ (∀ r, r < u → g (k * 17 + r) = dlyW (nK N k) f (nF N k * 17) (nS N k * 17) d pb r) ∧ (∀ j, (j < k * 17 ∨ k * 17 + 17 ≤ j) → g j = f j)) (fun _ _ => []) (fun u g H locs ls hI ih => ?_) 0 f ⟨h_o, h_w, hS, lv_sub hl [4, 5, 6, 7, 3, 2, 1, 0] rfl, by omega, fun r h => absurd h (Nat.not_lt_zero r), fun _ _ => rfl⟩ rfl
  obtain ⟨h_o, h_w, hS, hl, hu, hg1, hg2⟩ := hI
  have ih1 := @ih
  clear ih
  refine lv_iload hx hb dX8_delay_27 (lv_at hl 7 rfl) ?_
  refine lv_aload_n hx hb dX8_delay_29 rfl (lv_at hl 0 rfl) ?_
  refine va_get (D := G.1) (ci := 8) (v := .int (nI U)) (C := RX8) (T := TX8) (N := 2) hx hb hts inX8_delay_8 hown hK h_o 0 rfl rfl 1 (by decide) (hts (.fieldLink RX8 26 "GateLedger$Waves" "used" "I") (List.mem_of_getElem? (i := 1) (by decide +kernel))) (fun _ h9 => h9) rfl dX8_delay_30 ?_
  refine lv_icmp_ge (tgt := 106) hx hb dX8_delay_33 (by decide) (fun c33 => ?_) (fun c33 => ?_)
  · skip
    have c33 := cv_le (by omega) (by omega) c33
    exact en_wv g hx hb hr hlocks hS (⟨fun r h => hg1 r (by omega), hg2⟩) (P_app h_o h_w) dX8_delay_106
  · skip
    have c33 := cv_nle (by omega) (by omega) c33
    refine lv_aload_n hx hb dX8_delay_36 rfl (lv_at hl 1 rfl) ?_
    refine lv_iload_n hx hb dX8_delay_37 rfl (lv_at hl 2 rfl) ?_
    refine ro_i (va_runV (As := [.int (nI k)]) (rest := []) FX (c_X3_kindOf l G a j N hN k hk) (cwV 1 hts gX8_delay_X3_kindOf rfl rfl rfl (by decide +kernel) ⟨Nat.le_of_ble_eq_true rfl, Nat.le_of_ble_eq_true rfl⟩) (preV hK hNW (ro hS h_n hdn) (va_recv hK (ro hS h_n hdn) (ci := 3) (q0 := 0) rfl rfl)) rfl rfl hl.1 rfl (lv_room (Nat.le_of_ble_eq_true rfl)) dX8_delay_38 ⟨Nat.le_of_ble_eq_true rfl, Nat.le_of_ble_eq_true rfl⟩) ?_
    refine lv_aload_n hx hb dX8_delay_41 rfl (lv_at hl 0 rfl) ?_
    refine va_get (D := G.1) (ci := 8) (v := .ref (a (i + 1))) (C := RX8) (T := TX8) (N := 2) hx hb hts inX8_delay_8 hown hK h_o 0 rfl rfl 0 (by decide) (hts (.fieldLink RX8 16 "GateLedger$Waves" "words" "LGateLedger$WideRow;") (List.mem_of_getElem? (i := 2) (by decide +kernel))) (fun _ h9 => h9) rfl dX8_delay_42 ?_
    refine lv_iload hx hb dX8_delay_45 (lv_at hl 4 rfl) ?_
    refine lv_iload hx hb dX8_delay_47 (lv_at hl 7 rfl) ?_
    refine lv_iadd hx hb dX8_delay_49 ?_
    refine lv_as (nI_add _ _) ?_
    refine ro_l (va_runV (As := [.int (nI ((nF N k * 17) + u))]) (rest := [.int (nI (nK N k))]) FX (c_X9_at l G a (i + 1) 2040 g (nI ((nF N k * 17) + u)) (by decide)) (cwV 1 hts gX8_delay_X9_at rfl rfl rfl (by decide +kernel) ⟨Nat.le_of_ble_eq_true rfl, Nat.le_of_ble_eq_true rfl⟩) (preV hK hNW (va_P.sub h_w [0, 1] rfl) (va_recv hK h_w (ci := 9) (q0 := 0) rfl rfl)) rfl rfl hl.1 rfl (lv_room (Nat.le_of_ble_eq_true rfl)) dX8_delay_50 ⟨Nat.le_of_ble_eq_true rfl, Nat.le_of_ble_eq_true rfl⟩) ?_
    refine lv_asl (y := f (nF N k * 17 + u)) ((wrowAt_in (by omega) (by decide)).trans (hg2 _ (by omega))) ?_
    refine lv_aload_n hx hb dX8_delay_53 rfl (lv_at hl 0 rfl) ?_
    refine va_get (D := G.1) (ci := 8) (v := .ref (a (i + 1))) (C := RX8) (T := TX8) (N := 2) hx hb hts inX8_delay_8 hown hK h_o 0 rfl rfl 0 (by decide) (hts (.fieldLink RX8 16 "GateLedger$Waves" "words" "LGateLedger$WideRow;") (List.mem_of_getElem? (i := 2) (by decide +kernel))) (fun _ h9 => h9) rfl dX8_delay_54 ?_
    refine lv_iload hx hb dX8_delay_57 (lv_at hl 5 rfl) ?_
    refine lv_iload hx hb dX8_delay_59 (lv_at hl 7 rfl) ?_
    refine lv_iadd hx hb dX8_delay_61 ?_
    refine lv_as (nI_add _ _) ?_
    refine ro_l (va_runV (As := [.int (nI ((nS N k * 17) + u))]) (rest := [.long (f (nF N k * 17 + u)), .int (nI (nK N k))]) FX (c_X9_at l G a (i + 1) 2040 g (nI ((nS N k * 17) + u)) (by decide)) (cwV 1 hts gX8_delay_X9_at rfl rfl rfl (by decide +kernel) ⟨Nat.le_of_ble_eq_true rfl, Nat.le_of_ble_eq_true rfl⟩) (preV hK hNW (va_P.sub h_w [0, 1] rfl) (va_recv hK h_w (ci := 9) (q0 := 0) rfl rfl)) rfl rfl hl.1 rfl (lv_room (Nat.le_of_ble_eq_true rfl)) dX8_delay_62 ⟨Nat.le_of_ble_eq_true rfl, Nat.le_of_ble_eq_true rfl⟩) ?_
    refine lv_asl (y := f (nS N k * 17 + u)) ((wrowAt_in (by omega) (by decide)).trans (hg2 _ (by omega))) ?_
    refine ro_l (va_runSN (As := [.int (nI (nK N k)), .long (f (nF N k * 17 + u)), .long (f (nS N k * 17 + u))]) (rest := []) FX (c_X11_join l G (nK N k) (f (nF N k * 17 + u)) (f (nS N k * 17 + u)) (by omega)) ⟨va_cnB 3 hts gX8_delay_X11_join_n84 rfl rfl rfl hNW.2.2.1 (hts (.initialized RX11) (List.mem_of_getElem? (i := 32) (by decide +kernel))) (by decide +kernel) ⟨Nat.le_of_ble_eq_true rfl, Nat.le_of_ble_eq_true rfl⟩, (hts (.static yX11_join) (List.mem_of_getElem? (i := 31) (by decide +kernel))), trivial⟩ (preS hK hNW trivial) rfl rfl hl.1 rfl (lv_room (Nat.le_of_ble_eq_true rfl)) dX8_delay_65 ⟨Nat.le_of_ble_eq_true rfl, Nat.le_of_ble_eq_true rfl⟩) ?_
    refine lv_asl (y := dlyN (nK N k) f (nF N k * 17) (nS N k * 17) u) rfl ?_
    refine lv_lstore (lv' := [(11, .long (dlyN (nK N k) f (nF N k * 17) (nS N k * 17) u)), (0, .ref (a i)), (1, .ref (a j)), (2, .int (nI k)), (3, .int (nI d)), (6, .int (nI (nF N k * 17))), (7, .int (nI (nS N k * 17))), (8, .long (if u = 0 then pb else dlyN (nK N k) f (nF N k * 17) (nS N k * 17) (u - 1))), (10, .int (nI u))]) hx hb dX8_delay_68 hl (by decide) rfl (fun ls hl => ?_)
    refine lv_aload_n hx hb dX8_delay_70 rfl (lv_at hl 1 rfl) ?_
    refine va_get (D := G.1) (ci := 8) (v := .ref (a (i + 1))) (C := RX8) (T := TX8) (N := 2) hx hb hts inX8_delay_8 hown hK h_o 0 rfl rfl 0 (by decide) (hts (.fieldLink RX8 16 "GateLedger$Waves" "words" "LGateLedger$WideRow;") (List.mem_of_getElem? (i := 2) (by decide +kernel))) (fun _ h9 => h9) rfl dX8_delay_71 ?_
    refine lv_iload_n hx hb dX8_delay_74 rfl (lv_at hl 3 rfl) ?_
    refine lv_bipush (v := nI 17) hx hb dX8_delay_75 (by decide) ?_
    refine lv_imul hx hb dX8_delay_77 ?_
    refine lv_as (pk_mul _ _) ?_
    refine lv_iload hx hb dX8_delay_78 (lv_at hl 8 rfl) ?_
    refine lv_iadd hx hb dX8_delay_80 ?_
    refine lv_as (nI_add _ _) ?_
    refine lv_lload hx hb dX8_delay_81 (lv_at hl 0 rfl) ?_
    refine lv_iload_n hx hb dX8_delay_83 rfl (lv_at hl 4 rfl) ?_
    refine lv_lshl (v := lshl_ (dlyN (nK N k) f (nF N k * 17) (nS N k * 17) u) (nI d)) hx hb dX8_delay_84 rfl ?_
    refine lv_lload hx hb dX8_delay_85 (lv_at hl 7 rfl) ?_
    refine lv_bipush (v := nI 64) hx hb dX8_delay_87 (by decide) ?_
    refine lv_iload_n hx hb dX8_delay_89 rfl (lv_at hl 4 rfl) ?_
    refine lv_isub hx hb dX8_delay_90 ?_
    refine lv_lushr (v := lushr_ (if u = 0 then pb else dlyN (nK N k) f (nF N k * 17) (nS N k * 17) (u - 1)) ((nI 64) - (nI d))) hx hb dX8_delay_91 rfl ?_
    refine lv_lor hx hb dX8_delay_92 ?_
    refine wr_v (va_runV (As := [.int (nI ((k * 17) + u)), .long ((lshl_ (dlyN (nK N k) f (nF N k * 17) (nS N k * 17) u) (nI d)) ||| (lushr_ (if u = 0 then pb else dlyN (nK N k) f (nF N k * 17) (nS N k * 17) (u - 1)) ((nI 64) - (nI d))))]) (rest := []) FX (c_X9_put l G a ha (i + 1) 2040 g (nI ((k * 17) + u)) ((lshl_ (dlyN (nK N k) f (nF N k * 17) (nS N k * 17) u) (nI d)) ||| (lushr_ (if u = 0 then pb else dlyN (nK N k) f (nF N k * 17) (nS N k * 17) (u - 1)) ((nI 64) - (nI d)))) (by decide)) (cwV 2 hts gX8_delay_X9_put rfl rfl rfl (by decide +kernel) ⟨Nat.le_of_ble_eq_true rfl, Nat.le_of_ble_eq_true rfl⟩) (preV hK hNW h_w (va_recv hK h_w (ci := 9) (q0 := 0) rfl rfl)) rfl rfl hl.1 rfl (lv_room (Nat.le_of_ble_eq_true rfl)) dX8_delay_93 ⟨Nat.le_of_ble_eq_true rfl, Nat.le_of_ble_eq_true rfl⟩) hS (rng_sub (by omega)) (fun _ H locs _ hP9 hk2 hS => ?_)
    rw [wrowPut_in (by omega) (by decide)] at hP9
    rw [show (lshl_ (dlyN (nK N k) f (nF N k * 17) (nS N k * 17) u) (nI d)) ||| (lushr_ (if u = 0 then pb else dlyN (nK N k) f (nF N k * 17) (nS N k * 17) (u - 1)) ((nI 64) - (nI d))) = dlyW (nK N k) f (nF N k * 17) (nS N k * 17) d pb u from rfl] at hP9
    have h_w : PP G (wrowW G a (i + 1) 2040 (vp_updL g (k * 17 + u) (dlyW (nK N k) f (nF N k * 17) (nS N k * 17) d pb u))) H := hP9
    have h_o : PP G ([(a i, .inr (8, [.ref (a (i + 1)), .int (nI U)]))]) H := kp hk2 h_o (dj_cons (rng_no ha (by omega)) (dj_nil))
    refine lv_lload hx hb dX8_delay_96 (lv_at hl 0 rfl) ?_
    refine lv_lstore (lv' := [(8, .long (dlyN (nK N k) f (nF N k * 17) (nS N k * 17) u)), (11, .long (dlyN (nK N k) f (nF N k * 17) (nS N k * 17) u)), (0, .ref (a i)), (1, .ref (a j)), (2, .int (nI k)), (3, .int (nI d)), (6, .int (nI (nF N k * 17))), (7, .int (nI (nS N k * 17))), (10, .int (nI u))]) hx hb dX8_delay_98 hl (by decide) rfl (fun ls hl => ?_)
    refine lv_iinc (v := nI (u + 1)) (lv' := [(10, .int (nI (u + 1))), (8, .long (dlyN (nK N k) f (nF N k * 17) (nS N k * 17) u)), (11, .long (dlyN (nK N k) f (nF N k * 17) (nS N k * 17) u)), (0, .ref (a i)), (1, .ref (a j)), (2, .int (nI k)), (3, .int (nI d)), (6, .int (nI (nF N k * 17))), (7, .int (nI (nS N k * 17)))]) hx hb dX8_delay_100 hl (k := 8) rfl (by first | exact nI_add _ 1 | decide) (by decide) rfl (fun ls hl => ?_)
    refine lv_goto (tgt := 27) hx hb dX8_delay_103 (by decide) ?_
    exact ih1 (u + 1) (vp_updL g (k * 17 + u) (dlyW (nK N k) f (nF N k * 17) (nS N k * 17) d pb u)) _ _ _ ⟨h_o, h_w, hS, lv_sub hl [3, 4, 5, 6, 7, 8, 1, 0] rfl, by omega, updL_seg hg1 rfl, updL_out hg2 (by omega)⟩ (by show U - (u + 1) < U - u; omega)
set_option maxRecDepth 20000 in
theorem inX8_run_8 : ∀ w ∈ u_ws RX8 TX8 2, w ∈ wsX8_run := by decide +kernel
set_option maxHeartbeats 4000000 in
set_option maxRecDepth 100000 in
/-- Waves.run -/
theorem c_X8_run (l : Launch) (G : GG) (a : Nat → Nat) (ha : Inj a) (i : Nat) (u0 : Int32) (f : Nat → Int64) (j h x y : Nat) (hij : i + 3 ≤ j ∨ j + 11 ≤ i) (hih : i + 3 ≤ h ∨ h + 2 ≤ i) (hix : i + 3 ≤ x ∨ x + 5 ≤ i) (hiy : i + 3 ≤ y ∨ y + 5 ≤ i) (N : NT) (hN : WF N) (dl : Nat → Nat) (w0 o0 w1 o1 : Nat → Int64) (T : Nat) (hT : T < 2 ^ 31) : Met l yX8_run wsX8_run ({ frames := 3, cells := 0, slots := 0, locals := 74 } : Room) (PcB G [.ref (a i), .ref (a j), .ref (a h), .ref (a x), .ref (a y), .int (nI T)] (fun H => PP G (wavW G a i u0 f) H ∧ PP G (netW G a j N) H ∧ PP G (rowW G a h 4 (fun z => nI (dl z))) H ∧ PP G (lanW G a x w0 o0) H ∧ PP G (lanW G a y w1 o1) H)) (QV (fun g : Nat → Int64 => ∀ r, r < nG N → SEG N dl w0 w1 (min 17 (T / 64 + 1)) g r) (fun g H => PP G (wavW G a i (nI (min 17 (T / 64 + 1))) g) H) (rng a i 3)) 0 0 (rng a i 3) := by
  refine Met.ofW (cc := cX8_run) (maxL := 7) (ret := none) (by decide) rfl ?_
  intro p e s m args below meth c s₁ B hml hv
  obtain ⟨rfl, hB, hK, hNW⟩ := hv
  have hx := B.exec
  have hb := B.bytes
  have hr := B.returns
  have hts := atoms_spec (ws := wsX8_run) B.pre
  have hown : s.vm.findClass RX8 = some m.cls := findClass_of_methodNamed B.named
  have hlocks := B.notSynchronized
  have FX : CallFix p m c cX8_run 7 s ([.ref (a i), .ref (a j), .ref (a h), .ref (a x), .ref (a y), .int (nI T)] : List Value).toArray wsX8_run RX8 := ⟨hx, hb, hml, hown, hts⟩
  have hl := lv_entry ([.ref (a i), .ref (a j), .ref (a h), .ref (a x), .ref (a y), .int (nI T)]) (n := 7) (Nat.le_of_ble_eq_true rfl)
  rw [lg_entry_eq]
  generalize (lg_sl ([.ref (a i), .ref (a j), .ref (a h), .ref (a x), .ref (a y), .int (nI T)]) ++ List.replicate (7 - (lg_sl ([.ref (a i), .ref (a j), .ref (a h), .ref (a x), .ref (a y), .int (nI T)])).length) Slot.unset).toArray = ls at hl ⊢
  have hl : lv_has ls 7 [(0, .ref (a i)), (1, .ref (a j)), (2, .ref (a h)), (3, .ref (a x)), (4, .ref (a y)), (5, .int (nI T))] := hl
  obtain ⟨hB, h_n, h_d, h_lb, h_la⟩ := hB
  have h_o : PP G ([(a i, .inr (8, [.ref (a (i + 1)), .int u0]))]) s.heap := P_app1 hB
  have h_w : PP G (wrowW G a (i + 1) 2040 f) s.heap := P_app2 hB
  have hdn : dj (rng a i 3) (netW G a j N) := dj_rng ha netW_in (by omega)
  have hdd : dj (rng a i 3) (rowW G a h 4 (fun z => nI (dl z))) := dj_rng ha rowW_in (by omega)
  have hdb : dj (rng a i 3) (lanW G a x w0 o0) := dj_rng ha lanW_in (by omega)
  have hda : dj (rng a i 3) (lanW G a y w1 o1) := dj_rng ha lanW_in (by omega)
  have hg9 := hN.g
  have hS : va_S (rng a i 3) s.heap s.heap [] := va_S.rf
  refine lv_aload_n hx hb dX8_run_0 rfl (lv_at hl 0 rfl) ?_
  refine lv_bipush (v := nI 17) hx hb dX8_run_1 (by decide) ?_
  refine lv_iload hx hb dX8_run_3 (lv_at hl 5 rfl) ?_
  refine lv_bipush (v := nI 6) hx hb dX8_run_5 (by decide) ?_
  refine lv_ishr hx hb dX8_run_7 ?_
  refine lv_as (y := nI (T / 64)) (shr6 (by omega)) ?_
  refine lv_iconst (v := nI 1) hx hb dX8_run_8 (by decide) ?_
  refine lv_iadd hx hb dX8_run_9 ?_
  refine lv_as (nI_add _ _) ?_
  refine va_mmin hx hb (hml.trans hl.1.symm) hown (hts (.methodLink RX8 20 Lib.Math.min.name) (List.mem_of_getElem? (i := 1) (by decide +kernel))) (hts (.static Lib.Math.min.name) (List.mem_of_getElem? (i := 2) (by decide +kernel))) (hts (.initialized "java/lang/Math") (List.mem_of_getElem? (i := 3) (by decide +kernel))) (hts (.code Lib.Math.min.name Lib.Math.min.code 2 (some .int)) (List.mem_of_getElem? (i := 4) (by decide +kernel))) (Nat.le_of_ble_eq_true rfl) (Nat.le_of_ble_eq_true rfl) (Nat.le_of_ble_eq_true rfl) (Nat.le_of_ble_eq_true rfl) dX8_run_10 ?_
  refine lv_as (y := nI (min 17 ((T / 64) + 1))) (mmin_nat (by omega) (by omega)) ?_
  refine pp_put (ci := 8) (v := .int (nI (min 17 ((T / 64) + 1)))) (ty := .int) (C := RX8) (T := TX8) (N := 2) hx hb hts inX8_run_8 tyX8 tyX8_ok nmX8 hown hK h_o hS (rng_in (by omega)) rfl 1 (by decide) (hts (.fieldLink RX8 26 "GateLedger$Waves" "used" "I") (List.mem_of_getElem? (i := 5) (by decide +kernel))) (fun _ h9 => h9) rfl (by decide +kernel) rfl rfl (Nat.le_of_ble_eq_true rfl) dX8_run_13 (fun H locs hP9 hk1 _ hS => ?_)
  have h_o : PP G ([(a i, .inr (8, [.ref (a (i + 1)), .int (nI (min 17 ((T / 64) + 1)))]))]) H := hP9
  have h_w : PP G (wrowW G a (i + 1) 2040 f) H := kp hk1 h_w (dj_cons (ne_a ha (by omega)) (dj_cons (ne_a ha (by omega)) (dj_nil)))
  refine lv_iconst (v := nI 0) hx hb dX8_run_16 (by decide) ?_
  refine lv_istore (lv' := [(6, .int (nI 0)), (0, .ref (a i)), (1, .ref (a j)), (2, .ref (a h)), (3, .ref (a x)), (4, .ref (a y)), (5, .int (nI T))]) hx hb dX8_run_17 hl (by decide) rfl (fun ls hl => ?_)
  refine lv_loop2 19 (fun (k : Nat) (g : Nat → Int64) => nG N - k) (fun (k : Nat) (g : Nat → Int64) (H : Heap) (locs : List Loc) (ls : Array Slot) => (PP G ([(a i, .inr (8, [.ref (a (i + 1)), .int (nI (min 17 (T / 64 + 1)))]))]) H) ∧ (PP G (wrowW G a (i + 1) 2040 g) H) ∧ (va_S (rng a i 3) s.heap H locs) ∧ (lv_has ls 7 [(0, .ref (a i)), (1, .ref (a j)), (2, .ref (a h)), (3, .ref (a x)), (4, .ref (a y)), (6, .int (nI k))]) ∧ (k ≤ nG N) ∧ (∀ r, r < k → SEG N dl w0 w1 (min 17 (T / 64 + 1)) g r)) (fun _ _ => []) (fun k g H locs ls hI ih => ?_) 0 f ⟨h_o, h_w, hS, lv_sub hl [1, 2, 3, 4, 5, 0] rfl, by omega, fun r h => absurd h (Nat.not_lt_zero r)⟩ rfl
  obtain ⟨h_o, h_w, hS, hl, hk, hs⟩ := hI
  have ih2 := @ih
  clear ih
  refine lv_iload hx hb dX8_run_19 (lv_at hl 5 rfl) ?_
  refine lv_aload_n hx hb dX8_run_21 rfl (lv_at hl 1 rfl) ?_
  refine ro_i (va_runV (As := []) (rest := [.int (nI k)]) FX (c_X3_size l G a j N) (cwV 0 hts gX8_run_X3_size rfl rfl rfl (by decide +kernel) ⟨Nat.le_of_ble_eq_true rfl, Nat.le_of_ble_eq_true rfl⟩) (preV hK hNW (ro hS h_n hdn) (va_recv hK (ro hS h_n hdn) (ci := 3) (q0 := 0) rfl rfl)) rfl rfl hl.1 rfl (lv_room (Nat.le_of_ble_eq_true rfl)) dX8_run_22 ⟨Nat.le_of_ble_eq_true rfl, Nat.le_of_ble_eq_true rfl⟩) ?_
  refine lv_icmp_ge (tgt := 92) hx hb dX8_run_25 (by decide) (fun c25 => ?_) (fun c25 => ?_)
  · skip
    have c25 := cv_le (by omega) (by omega) c25
    exact en_wv g hx hb hr hlocks hS (fun r h => hs r (by omega)) (P_app h_o h_w) dX8_run_92
  · skip
    have c25 := cv_nle (by omega) (by omega) c25
    have hk4 := hN.k c25
    refine lv_aload_n hx hb dX8_run_28 rfl (lv_at hl 1 rfl) ?_
    refine lv_iload hx hb dX8_run_29 (lv_at hl 5 rfl) ?_
    refine ro_i (va_runV (As := [.int (nI k)]) (rest := []) FX (c_X3_isInput l G a j N hN k c25) (cwV 1 hts gX8_run_X3_isInput rfl rfl rfl (by decide +kernel) ⟨Nat.le_of_ble_eq_true rfl, Nat.le_of_ble_eq_true rfl⟩) (preV hK hNW (ro hS h_n hdn) (va_recv hK (ro hS h_n hdn) (ci := 3) (q0 := 0) rfl rfl)) rfl rfl hl.1 rfl (lv_room (Nat.le_of_ble_eq_true rfl)) dX8_run_31 ⟨Nat.le_of_ble_eq_true rfl, Nat.le_of_ble_eq_true rfl⟩) ?_
    refine lv_if_ne (tgt := 47) hx hb dX8_run_34 (by decide) (fun c34 => ?_) (fun c34 => ?_)
    · skip
      have c34 := bI_1 c34
      refine lv_aload_n hx hb dX8_run_47 rfl (lv_at hl 0 rfl) ?_
      refine lv_iload hx hb dX8_run_48 (lv_at hl 5 rfl) ?_
      refine lv_aload hx hb dX8_run_50 (lv_at hl 4 rfl) ?_
      refine lv_iload hx hb dX8_run_52 (lv_at hl 5 rfl) ?_
      refine ro_l (va_runV (As := [.int (nI k)]) (rest := [.int (nI k), .ref (a i)]) FX (c_X1_wordOf l G a y w1 o1 k (by omega)) (cwV 1 hts gX8_run_X1_wordOf rfl rfl rfl (by decide +kernel) ⟨Nat.le_of_ble_eq_true rfl, Nat.le_of_ble_eq_true rfl⟩) (preV hK hNW (ro hS h_la hda) (va_recv hK (ro hS h_la hda) (ci := 1) (q0 := 0) rfl rfl)) rfl rfl hl.1 rfl (lv_room (Nat.le_of_ble_eq_true rfl)) dX8_run_54 ⟨Nat.le_of_ble_eq_true rfl, Nat.le_of_ble_eq_true rfl⟩) ?_
      refine wr_v (va_runV (As := [.int (nI k), .long (w1 k)]) (rest := []) FX (c_X8_hold l G a ha i (min 17 (T / 64 + 1)) (by omega) g k (w1 k) (by omega)) (cwV 2 hts gX8_run_X8_hold rfl rfl rfl (by decide +kernel) ⟨Nat.le_of_ble_eq_true rfl, Nat.le_of_ble_eq_true rfl⟩) (preV hK hNW (P_app h_o h_w) (va_recv hK h_o (ci := 8) (q0 := 0) rfl rfl)) rfl rfl hl.1 rfl (lv_room (Nat.le_of_ble_eq_true rfl)) dX8_run_57 ⟨Nat.le_of_ble_eq_true rfl, Nat.le_of_ble_eq_true rfl⟩) hS (rng_sub (by omega)) (fun v9 H locs hv9 hP9 hk3 hS => ?_)
      have h_o : PP G ([(a i, .inr (8, [.ref (a (i + 1)), .int (nI (min 17 (T / 64 + 1)))]))]) H := P_app1 hP9
      have h_w : PP G (wrowW G a (i + 1) 2040 v9) H := P_app2 hP9
      refine lv_goto (tgt := 86) hx hb dX8_run_60 (by decide) ?_
      refine lv_iinc (v := nI (k + 1)) (lv' := [(6, .int (nI (k + 1))), (0, .ref (a i)), (1, .ref (a j)), (2, .ref (a h)), (3, .ref (a x)), (4, .ref (a y))]) hx hb dX8_run_86 hl (k := 5) rfl (by first | exact nI_add _ 1 | decide) (by decide) rfl (fun ls hl => ?_)
      refine lv_goto (tgt := 19) hx hb dX8_run_89 (by decide) ?_
      exact ih2 (k + 1) v9 _ _ _ ⟨h_o, h_w, hS, lv_sub hl [1, 2, 3, 4, 5, 0] rfl, by omega, fun r h => by rcases Nat.lt_succ_iff_lt_or_eq.mp h with h | h; exact SEG_keep hN (by omega) h (by omega) hv9.2 (hs r h); rw [h]; exact SEG_hold (by first | exact Or.inr c34 | exact Or.inl c44) hv9.1⟩ (by show nG N - (k + 1) < nG N - k; omega)
    · skip
      have c34 := bI_0.mp c34
      refine lv_aload_n hx hb dX8_run_37 rfl (lv_at hl 1 rfl) ?_
      refine lv_iload hx hb dX8_run_38 (lv_at hl 5 rfl) ?_
      refine ro_i (va_runV (As := [.int (nI k)]) (rest := []) FX (c_X3_stuckBitOf l G a j N hN k c25) (cwV 1 hts gX8_run_X3_stuckBitOf rfl rfl rfl (by decide +kernel) ⟨Nat.le_of_ble_eq_true rfl, Nat.le_of_ble_eq_true rfl⟩) (preV hK hNW (ro hS h_n hdn) (va_recv hK (ro hS h_n hdn) (ci := 3) (q0 := 0) rfl rfl)) rfl rfl hl.1 rfl (lv_room (Nat.le_of_ble_eq_true rfl)) dX8_run_40 ⟨Nat.le_of_ble_eq_true rfl, Nat.le_of_ble_eq_true rfl⟩) ?_
      refine lv_iconst (v := -1) hx hb dX8_run_43 (by decide) ?_
      refine lv_icmp_eq (tgt := 63) hx hb dX8_run_44 (by decide) (fun c44 => ?_) (fun c44 => ?_)
      · skip
        refine lv_aload_n hx hb dX8_run_63 rfl (lv_at hl 0 rfl) ?_
        refine lv_aload_n hx hb dX8_run_64 rfl (lv_at hl 1 rfl) ?_
        refine lv_iload hx hb dX8_run_65 (lv_at hl 5 rfl) ?_
        refine lv_aload_n hx hb dX8_run_67 rfl (lv_at hl 2 rfl) ?_
        refine lv_aload_n hx hb dX8_run_68 rfl (lv_at hl 1 rfl) ?_
        refine lv_iload hx hb dX8_run_69 (lv_at hl 5 rfl) ?_
        refine ro_i (va_runV (As := [.int (nI k)]) (rest := [.ref (a h), .int (nI k), .ref (a j), .ref (a i)]) FX (c_X3_kindOf l G a j N hN k c25) (cwV 1 hts gX8_run_X3_kindOf rfl rfl rfl (by decide +kernel) ⟨Nat.le_of_ble_eq_true rfl, Nat.le_of_ble_eq_true rfl⟩) (preV hK hNW (ro hS h_n hdn) (va_recv hK (ro hS h_n hdn) (ci := 3) (q0 := 0) rfl rfl)) rfl rfl hl.1 rfl (lv_room (Nat.le_of_ble_eq_true rfl)) dX8_run_71 ⟨Nat.le_of_ble_eq_true rfl, Nat.le_of_ble_eq_true rfl⟩) ?_
        refine ro_i (va_runV (As := [.int (nI (nK N k))]) (rest := [.int (nI k), .ref (a j), .ref (a i)]) FX (c_X4_at l G a h 4 (fun z => nI (dl z)) (nI (nK N k)) (by decide)) (cwV 1 hts gX8_run_X4_at rfl rfl rfl (by decide +kernel) ⟨Nat.le_of_ble_eq_true rfl, Nat.le_of_ble_eq_true rfl⟩) (preV hK hNW (va_P.sub (ro hS h_d hdd) [0, 1] rfl) (va_recv hK (ro hS h_d hdd) (ci := 4) (q0 := 0) rfl rfl)) rfl rfl hl.1 rfl (lv_room (Nat.le_of_ble_eq_true rfl)) dX8_run_74 ⟨Nat.le_of_ble_eq_true rfl, Nat.le_of_ble_eq_true rfl⟩) ?_
        refine lv_as (y := nI (dl (nK N k))) (rowAt_in (by omega) (by decide)) ?_
        refine lv_aload_n hx hb dX8_run_77 rfl (lv_at hl 3 rfl) ?_
        refine lv_iload hx hb dX8_run_78 (lv_at hl 5 rfl) ?_
        refine ro_l (va_runV (As := [.int (nI k)]) (rest := [.int (nI (dl (nK N k))), .int (nI k), .ref (a j), .ref (a i)]) FX (c_X1_wordOf l G a x w0 o0 k (by omega)) (cwV 1 hts gX8_run_X1_wordOf rfl rfl rfl (by decide +kernel) ⟨Nat.le_of_ble_eq_true rfl, Nat.le_of_ble_eq_true rfl⟩) (preV hK hNW (ro hS h_lb hdb) (va_recv hK (ro hS h_lb hdb) (ci := 1) (q0 := 0) rfl rfl)) rfl rfl hl.1 rfl (lv_room (Nat.le_of_ble_eq_true rfl)) dX8_run_80 ⟨Nat.le_of_ble_eq_true rfl, Nat.le_of_ble_eq_true rfl⟩) ?_
        refine wr_v (va_runV (As := [.ref (a j), .int (nI k), .int (nI (dl (nK N k))), .long (w0 k)]) (rest := []) FX (c_X8_delay l G a ha i (min 17 (T / 64 + 1)) (by omega) g j (by omega) N hN k (dl (nK N k)) (w0 k) c25 c34) (cwV 4 hts gX8_run_X8_delay rfl rfl rfl (by decide +kernel) ⟨Nat.le_of_ble_eq_true rfl, Nat.le_of_ble_eq_true rfl⟩) (preV hK hNW (⟨P_app h_o h_w, (ro hS h_n hdn)⟩) (va_recv hK h_o (ci := 8) (q0 := 0) rfl rfl)) rfl rfl hl.1 rfl (lv_room (Nat.le_of_ble_eq_true rfl)) dX8_run_83 ⟨Nat.le_of_ble_eq_true rfl, Nat.le_of_ble_eq_true rfl⟩) hS (rng_sub (by omega)) (fun v9 H locs hv9 hP9 hk5 hS => ?_)
        have h_o : PP G ([(a i, .inr (8, [.ref (a (i + 1)), .int (nI (min 17 (T / 64 + 1)))]))]) H := P_app1 hP9
        have h_w : PP G (wrowW G a (i + 1) 2040 v9) H := P_app2 hP9
        refine lv_iinc (v := nI (k + 1)) (lv' := [(6, .int (nI (k + 1))), (0, .ref (a i)), (1, .ref (a j)), (2, .ref (a h)), (3, .ref (a x)), (4, .ref (a y))]) hx hb dX8_run_86 hl (k := 5) rfl (by first | exact nI_add _ 1 | decide) (by decide) rfl (fun ls hl => ?_)
        refine lv_goto (tgt := 19) hx hb dX8_run_89 (by decide) ?_
        exact ih2 (k + 1) v9 _ _ _ ⟨h_o, h_w, hS, lv_sub hl [1, 2, 3, 4, 5, 0] rfl, by omega, fun r h => by rcases Nat.lt_succ_iff_lt_or_eq.mp h with h | h; exact SEG_keep hN (by omega) h (by omega) hv9.2 (hs r h); rw [h]; exact SEG_delay hN (by omega) c25 c44 c34 hv9.1 hv9.2⟩ (by show nG N - (k + 1) < nG N - k; omega)
      · skip
        refine lv_aload_n hx hb dX8_run_47 rfl (lv_at hl 0 rfl) ?_
        refine lv_iload hx hb dX8_run_48 (lv_at hl 5 rfl) ?_
        refine lv_aload hx hb dX8_run_50 (lv_at hl 4 rfl) ?_
        refine lv_iload hx hb dX8_run_52 (lv_at hl 5 rfl) ?_
        refine ro_l (va_runV (As := [.int (nI k)]) (rest := [.int (nI k), .ref (a i)]) FX (c_X1_wordOf l G a y w1 o1 k (by omega)) (cwV 1 hts gX8_run_X1_wordOf rfl rfl rfl (by decide +kernel) ⟨Nat.le_of_ble_eq_true rfl, Nat.le_of_ble_eq_true rfl⟩) (preV hK hNW (ro hS h_la hda) (va_recv hK (ro hS h_la hda) (ci := 1) (q0 := 0) rfl rfl)) rfl rfl hl.1 rfl (lv_room (Nat.le_of_ble_eq_true rfl)) dX8_run_54 ⟨Nat.le_of_ble_eq_true rfl, Nat.le_of_ble_eq_true rfl⟩) ?_
        refine wr_v (va_runV (As := [.int (nI k), .long (w1 k)]) (rest := []) FX (c_X8_hold l G a ha i (min 17 (T / 64 + 1)) (by omega) g k (w1 k) (by omega)) (cwV 2 hts gX8_run_X8_hold rfl rfl rfl (by decide +kernel) ⟨Nat.le_of_ble_eq_true rfl, Nat.le_of_ble_eq_true rfl⟩) (preV hK hNW (P_app h_o h_w) (va_recv hK h_o (ci := 8) (q0 := 0) rfl rfl)) rfl rfl hl.1 rfl (lv_room (Nat.le_of_ble_eq_true rfl)) dX8_run_57 ⟨Nat.le_of_ble_eq_true rfl, Nat.le_of_ble_eq_true rfl⟩) hS (rng_sub (by omega)) (fun v9 H locs hv9 hP9 hk7 hS => ?_)
        have h_o : PP G ([(a i, .inr (8, [.ref (a (i + 1)), .int (nI (min 17 (T / 64 + 1)))]))]) H := P_app1 hP9
        have h_w : PP G (wrowW G a (i + 1) 2040 v9) H := P_app2 hP9
        refine lv_goto (tgt := 86) hx hb dX8_run_60 (by decide) ?_
        refine lv_iinc (v := nI (k + 1)) (lv' := [(6, .int (nI (k + 1))), (0, .ref (a i)), (1, .ref (a j)), (2, .ref (a h)), (3, .ref (a x)), (4, .ref (a y))]) hx hb dX8_run_86 hl (k := 5) rfl (by first | exact nI_add _ 1 | decide) (by decide) rfl (fun ls hl => ?_)
        refine lv_goto (tgt := 19) hx hb dX8_run_89 (by decide) ?_
        exact ih2 (k + 1) v9 _ _ _ ⟨h_o, h_w, hS, lv_sub hl [1, 2, 3, 4, 5, 0] rfl, by omega, fun r h => by rcases Nat.lt_succ_iff_lt_or_eq.mp h with h | h; exact SEG_keep hN (by omega) h (by omega) hv9.2 (hs r h); rw [h]; exact SEG_hold (by first | exact Or.inr c34 | exact Or.inl c44) hv9.1⟩ (by show nG N - (k + 1) < nG N - k; omega)
set_option maxHeartbeats 4000000 in
set_option maxRecDepth 100000 in
/-- Waves.highestBit -/
theorem c_X8_highestBit (l : Launch) (G : GG) (x : Int64)  : Met l yX8_highestBit wsX8_highestBit ({ frames := 0, cells := 0, slots := 0, locals := 0 } : Room) (PcB G [.long x] (fun H => True)) (vp_Si (fun r => r = nI (hiT x 64))) 0 0 (fun _ => False) := by
  refine Met.ofW (cc := cX8_highestBit) (maxL := 4) (ret := (some .int)) (by decide) rfl ?_
  intro p e s m args below meth c s₁ B hml hv
  obtain ⟨rfl, hB, hK, hNW⟩ := hv
  have hx := B.exec
  have hb := B.bytes
  have hr := B.returns
  have hts := atoms_spec (ws := wsX8_highestBit) B.pre
  have hown : s.vm.findClass RX8 = some m.cls := findClass_of_methodNamed B.named
  have hlocks := B.notSynchronized
  have FX : CallFix p m c cX8_highestBit 4 s ([.long x] : List Value).toArray wsX8_highestBit RX8 := ⟨hx, hb, hml, hown, hts⟩
  have hl := lv_entry ([.long x]) (n := 4) (Nat.le_of_ble_eq_true rfl)
  rw [lg_entry_eq]
  generalize (lg_sl ([.long x]) ++ List.replicate (4 - (lg_sl ([.long x])).length) Slot.unset).toArray = ls at hl ⊢
  have hl : lv_has ls 4 [(0, .long x)] := hl
  refine lv_iconst (v := nI 0) hx hb dX8_highestBit_0 (by decide) ?_
  refine lv_istore_n (lv' := [(2, .int (nI 0)), (0, .long x)]) hx hb dX8_highestBit_1 rfl hl (by decide) rfl (fun ls hl => ?_)
  refine lv_iconst (v := nI 1) hx hb dX8_highestBit_2 (by decide) ?_
  refine lv_istore_n (lv' := [(3, .int (nI 1)), (2, .int (nI 0)), (0, .long x)]) hx hb dX8_highestBit_3 rfl hl (by decide) rfl (fun ls hl => ?_)
  refine lv_loop1 4 (fun (q : Nat) => 64 - q) (fun (q : Nat) (H : Heap) (locs : List Loc) (ls : Array Slot) => (H = s.heap) ∧ (locs = []) ∧ (lv_has ls 4 [(0, .long x), (2, .int (nI (hiT x q))), (3, .int (nI q))]) ∧ (q ≤ 64 ∧ 1 ≤ q)) (fun _ => []) (fun q H locs ls hI ih => ?_) 1 ⟨rfl, rfl, by rw [hiT_1]; exact lv_sub hl [2, 1, 0] rfl, by omega⟩ rfl
  obtain ⟨rfl, rfl, hl, hq⟩ := hI
  have ih1 := @ih
  clear ih
  refine lv_iload_n hx hb dX8_highestBit_4 rfl (lv_at hl 2 rfl) ?_
  refine lv_bipush (v := nI 64) hx hb dX8_highestBit_5 (by decide) ?_
  refine lv_icmp_ge (tgt := 28) hx hb dX8_highestBit_7 (by decide) (fun c7 => ?_) (fun c7 => ?_)
  · skip
    have c7 := cv_le (by omega) (by omega) c7
    refine lv_iload_n hx hb dX8_highestBit_28 rfl (lv_at hl 1 rfl) ?_
    exact en_i hx hb hr hlocks (by rw [show q = 64 by omega]) dX8_highestBit_29
  · skip
    have c7 := cv_nle (by omega) (by omega) c7
    have hh := hiT_lt x (q - 1)
    refine lv_lload_n hx hb dX8_highestBit_10 rfl (lv_at hl 0 rfl) ?_
    refine lv_iload_n hx hb dX8_highestBit_11 rfl (lv_at hl 2 rfl) ?_
    refine lv_lushr (v := lushr_ x (nI q)) hx hb dX8_highestBit_12 rfl ?_
    refine lv_lconst (v := 1) hx hb dX8_highestBit_13 (by decide) ?_
    refine lv_land hx hb dX8_highestBit_14 ?_
    refine lv_lconst (v := 0) hx hb dX8_highestBit_15 (by decide) ?_
    refine W.lcmp hx hb dX8_highestBit_16 ?_
    refine lv_if_eq (tgt := 22) hx hb dX8_highestBit_17 (by decide) (fun c17 => ?_) (fun c17 => ?_)
    · skip
      have c17 := (lsb_lb (by omega)).mp (lg_eq.mp c17)
      refine lv_iinc (v := nI (q + 1)) (lv' := [(3, .int (nI (q + 1))), (0, .long x), (2, .int (nI (hiT x q)))]) hx hb dX8_highestBit_22 hl (k := 2) rfl (by first | exact nI_add _ 1 | decide) (by decide) rfl (fun ls hl => ?_)
      refine lv_goto (tgt := 4) hx hb dX8_highestBit_25 (by decide) ?_
      exact ih1 (q + 1) _ _ _ ⟨rfl, rfl, by first | (rw [hiT_y c17]; exact lv_sub hl [1, 2, 0] rfl) | (rw [hiT_n c17]; exact lv_sub hl [1, 2, 0] rfl), by omega⟩ (by show 64 - (q + 1) < 64 - q; omega)
    · skip
      have c17 : lb x q = true := by cases hq9 : lb x q; exact absurd (lg_eq.mpr ((lsb_lb (by omega)).mpr hq9)) c17; rfl
      refine lv_iload_n hx hb dX8_highestBit_20 rfl (lv_at hl 2 rfl) ?_
      refine lv_istore_n (lv' := [(2, .int (nI q)), (0, .long x), (3, .int (nI q))]) hx hb dX8_highestBit_21 rfl hl (by decide) rfl (fun ls hl => ?_)
      refine lv_iinc (v := nI (q + 1)) (lv' := [(3, .int (nI (q + 1))), (2, .int (nI q)), (0, .long x)]) hx hb dX8_highestBit_22 hl (k := 2) rfl (by first | exact nI_add _ 1 | decide) (by decide) rfl (fun ls hl => ?_)
      refine lv_goto (tgt := 4) hx hb dX8_highestBit_25 (by decide) ?_
      exact ih1 (q + 1) _ _ _ ⟨rfl, rfl, by first | (rw [hiT_y c17]; exact lv_sub hl [2, 1, 0] rfl) | (rw [hiT_n c17]; exact lv_sub hl [2, 1, 0] rfl), by omega⟩ (by show 64 - (q + 1) < 64 - q; omega)
set_option maxHeartbeats 4000000 in
set_option maxRecDepth 100000 in
/-- Long.bitCount -/
theorem c_J13_bitCount_95d88 (l : Launch) (G : GG) (x : Int64)  : Met l yJ13_bitCount_95d88 wsJ13_bitCount_95d88 ({ frames := 0, cells := 0, slots := 0, locals := 0 } : Room) (PcB G [.long x] (fun H => True)) (vp_Si (fun r => r = nI (popT x 64))) 0 0 (fun _ => False) := by
  refine Met.ofW (cc := cJ13_bitCount_95d88) (maxL := 2) (ret := (some .int)) (by decide) rfl ?_
  intro p e s m args below meth c s₁ B hml hv
  obtain ⟨rfl, hB, hK, hNW⟩ := hv
  have hx := B.exec
  have hb := B.bytes
  have hr := B.returns
  have hts := atoms_spec (ws := wsJ13_bitCount_95d88) B.pre
  have hown : s.vm.findClass RJ13 = some m.cls := findClass_of_methodNamed B.named
  have hlocks := B.notSynchronized
  have FX : CallFix p m c cJ13_bitCount_95d88 2 s ([.long x] : List Value).toArray wsJ13_bitCount_95d88 RJ13 := ⟨hx, hb, hml, hown, hts⟩
  have hl := lv_entry ([.long x]) (n := 2) (Nat.le_of_ble_eq_true rfl)
  rw [lg_entry_eq]
  generalize (lg_sl ([.long x]) ++ List.replicate (2 - (lg_sl ([.long x])).length) Slot.unset).toArray = ls at hl ⊢
  have hl : lv_has ls 2 [(0, .long x)] := hl
  refine lv_lload_n hx hb dJ13_bitCount_95d88_0 rfl (lv_at hl 0 rfl) ?_
  refine lv_lload_n hx hb dJ13_bitCount_95d88_1 rfl (lv_at hl 0 rfl) ?_
  refine lv_iconst (v := nI 1) hx hb dJ13_bitCount_95d88_2 (by decide) ?_
  refine lv_lushr (v := lushr_ x (nI 1)) hx hb dJ13_bitCount_95d88_3 rfl ?_
  refine lv_ldc2 (v := 6148914691236517205) hx hb hown (hts (.constantLong RJ13 314 (6148914691236517205)) (List.mem_of_getElem? (i := 1) (by decide +kernel))) dJ13_bitCount_95d88_4 ?_
  refine lv_land hx hb dJ13_bitCount_95d88_7 ?_
  refine lv_lsub hx hb dJ13_bitCount_95d88_8 ?_
  refine lv_asl (y := bc1 x) rfl ?_
  refine lv_lstore_n (lv' := [(0, .long (bc1 x))]) hx hb dJ13_bitCount_95d88_9 rfl hl (by decide) rfl (fun ls hl => ?_)
  refine lv_lload_n hx hb dJ13_bitCount_95d88_10 rfl (lv_at hl 0 rfl) ?_
  refine lv_ldc2 (v := 3689348814741910323) hx hb hown (hts (.constantLong RJ13 316 (3689348814741910323)) (List.mem_of_getElem? (i := 2) (by decide +kernel))) dJ13_bitCount_95d88_11 ?_
  refine lv_land hx hb dJ13_bitCount_95d88_14 ?_
  refine lv_lload_n hx hb dJ13_bitCount_95d88_15 rfl (lv_at hl 0 rfl) ?_
  refine lv_iconst (v := nI 2) hx hb dJ13_bitCount_95d88_16 (by decide) ?_
  refine lv_lushr (v := lushr_ (bc1 x) (nI 2)) hx hb dJ13_bitCount_95d88_17 rfl ?_
  refine lv_ldc2 (v := 3689348814741910323) hx hb hown (hts (.constantLong RJ13 316 (3689348814741910323)) (List.mem_of_getElem? (i := 2) (by decide +kernel))) dJ13_bitCount_95d88_18 ?_
  refine lv_land hx hb dJ13_bitCount_95d88_21 ?_
  refine lv_ladd hx hb dJ13_bitCount_95d88_22 ?_
  refine lv_asl (y := bc2 (bc1 x)) rfl ?_
  refine lv_lstore_n (lv' := [(0, .long (bc2 (bc1 x)))]) hx hb dJ13_bitCount_95d88_23 rfl hl (by decide) rfl (fun ls hl => ?_)
  refine lv_lload_n hx hb dJ13_bitCount_95d88_24 rfl (lv_at hl 0 rfl) ?_
  refine lv_lload_n hx hb dJ13_bitCount_95d88_25 rfl (lv_at hl 0 rfl) ?_
  refine lv_iconst (v := nI 4) hx hb dJ13_bitCount_95d88_26 (by decide) ?_
  refine lv_lushr (v := lushr_ (bc2 (bc1 x)) (nI 4)) hx hb dJ13_bitCount_95d88_27 rfl ?_
  refine lv_ladd hx hb dJ13_bitCount_95d88_28 ?_
  refine lv_ldc2 (v := 1085102592571150095) hx hb hown (hts (.constantLong RJ13 318 (1085102592571150095)) (List.mem_of_getElem? (i := 3) (by decide +kernel))) dJ13_bitCount_95d88_29 ?_
  refine lv_land hx hb dJ13_bitCount_95d88_32 ?_
  refine lv_asl (y := bc3 (bc2 (bc1 x))) rfl ?_
  refine lv_lstore_n (lv' := [(0, .long (bc3 (bc2 (bc1 x))))]) hx hb dJ13_bitCount_95d88_33 rfl hl (by decide) rfl (fun ls hl => ?_)
  refine lv_lload_n hx hb dJ13_bitCount_95d88_34 rfl (lv_at hl 0 rfl) ?_
  refine lv_lload_n hx hb dJ13_bitCount_95d88_35 rfl (lv_at hl 0 rfl) ?_
  refine lv_bipush (v := nI 8) hx hb dJ13_bitCount_95d88_36 (by decide) ?_
  refine lv_lushr (v := lushr_ (bc3 (bc2 (bc1 x))) (nI 8)) hx hb dJ13_bitCount_95d88_38 rfl ?_
  refine lv_ladd hx hb dJ13_bitCount_95d88_39 ?_
  refine lv_asl (y := bc4 (bc3 (bc2 (bc1 x)))) rfl ?_
  refine lv_lstore_n (lv' := [(0, .long (bc4 (bc3 (bc2 (bc1 x)))))]) hx hb dJ13_bitCount_95d88_40 rfl hl (by decide) rfl (fun ls hl => ?_)
  refine lv_lload_n hx hb dJ13_bitCount_95d88_41 rfl (lv_at hl 0 rfl) ?_
  refine lv_lload_n hx hb dJ13_bitCount_95d88_42 rfl (lv_at hl 0 rfl) ?_
  refine lv_bipush (v := nI 16) hx hb dJ13_bitCount_95d88_43 (by decide) ?_
  refine lv_lushr (v := lushr_ (bc4 (bc3 (bc2 (bc1 x)))) (nI 16)) hx hb dJ13_bitCount_95d88_45 rfl ?_
  refine lv_ladd hx hb dJ13_bitCount_95d88_46 ?_
  refine lv_asl (y := bc5 (bc4 (bc3 (bc2 (bc1 x))))) rfl ?_
  refine lv_lstore_n (lv' := [(0, .long (bc5 (bc4 (bc3 (bc2 (bc1 x))))))]) hx hb dJ13_bitCount_95d88_47 rfl hl (by decide) rfl (fun ls hl => ?_)
  refine lv_lload_n hx hb dJ13_bitCount_95d88_48 rfl (lv_at hl 0 rfl) ?_
  refine lv_lload_n hx hb dJ13_bitCount_95d88_49 rfl (lv_at hl 0 rfl) ?_
  refine lv_bipush (v := nI 32) hx hb dJ13_bitCount_95d88_50 (by decide) ?_
  refine lv_lushr (v := lushr_ (bc5 (bc4 (bc3 (bc2 (bc1 x))))) (nI 32)) hx hb dJ13_bitCount_95d88_52 rfl ?_
  refine lv_ladd hx hb dJ13_bitCount_95d88_53 ?_
  refine lv_asl (y := bc6 (bc5 (bc4 (bc3 (bc2 (bc1 x)))))) rfl ?_
  refine lv_lstore_n (lv' := [(0, .long (bc6 (bc5 (bc4 (bc3 (bc2 (bc1 x)))))))]) hx hb dJ13_bitCount_95d88_54 rfl hl (by decide) rfl (fun ls hl => ?_)
  refine lv_lload_n hx hb dJ13_bitCount_95d88_55 rfl (lv_at hl 0 rfl) ?_
  refine lv_l2i (v := (bc6 (bc5 (bc4 (bc3 (bc2 (bc1 x)))))).toInt32) hx hb dJ13_bitCount_95d88_56 rfl ?_
  refine lv_bipush (v := nI 127) hx hb dJ13_bitCount_95d88_57 (by decide) ?_
  refine lv_iand hx hb dJ13_bitCount_95d88_59 ?_
  exact en_i hx hb hr hlocks (bc_popT x) dJ13_bitCount_95d88_60
set_option maxRecDepth 20000 in
theorem inX8_countGate_8 : ∀ w ∈ u_ws RX8 TX8 2, w ∈ wsX8_countGate := by decide +kernel
set_option maxHeartbeats 4000000 in
set_option maxRecDepth 100000 in
/-- Waves.countGate -/
theorem c_X8_countGate (l : Launch) (G : GG) (a : Nat → Nat) (ha : Inj a) (i U : Nat) (hU : U ≤ 17) (f : Nat → Int64) (tz : Nat) (hit : i + 3 ≤ tz ∨ tz + 1 ≤ i) (x y z k : Nat) (pb : Int64) (q : Prop) [Decidable q] (hk : k < 120) (hy : y ≤ 1087) : Met l yX8_countGate wsX8_countGate ({ frames := 2, cells := 0, slots := 0, locals := 44 } : Room) (PcB G [.ref (a i), .int (nI k), .long pb, .int (bI q), .ref (a tz)] (fun H => PP G (talW a tz x y z) H ∧ PP G (wavW G a i (nI U) f) H)) (QV (fun _ : Unit => True) (fun _ H => PP G (talW a tz (x + cgX f (k * 17) pb U) (cgY f (k * 17) pb y U) (z + if q then cgX f (k * 17) pb U else 0)) H) (rng a tz 1)) 0 0 (rng a tz 1) := by
  refine Met.ofW (cc := cX8_countGate) (maxL := 13) (ret := none) (by decide) rfl ?_
  intro p e s m args below meth c s₁ B hml hv
  obtain ⟨rfl, hB, hK, hNW⟩ := hv
  have hx := B.exec
  have hb := B.bytes
  have hr := B.returns
  have hts := atoms_spec (ws := wsX8_countGate) B.pre
  have hown : s.vm.findClass RX8 = some m.cls := findClass_of_methodNamed B.named
  have hlocks := B.notSynchronized
  have FX : CallFix p m c cX8_countGate 13 s ([.ref (a i), .int (nI k), .long pb, .int (bI q), .ref (a tz)] : List Value).toArray wsX8_countGate RX8 := ⟨hx, hb, hml, hown, hts⟩
  have hl := lv_entry ([.ref (a i), .int (nI k), .long pb, .int (bI q), .ref (a tz)]) (n := 13) (Nat.le_of_ble_eq_true rfl)
  rw [lg_entry_eq]
  generalize (lg_sl ([.ref (a i), .int (nI k), .long pb, .int (bI q), .ref (a tz)]) ++ List.replicate (13 - (lg_sl ([.ref (a i), .int (nI k), .long pb, .int (bI q), .ref (a tz)])).length) Slot.unset).toArray = ls at hl ⊢
  have hl : lv_has ls 13 [(0, .ref (a i)), (1, .int (nI k)), (2, .long pb), (4, .int (bI q)), (5, .ref (a tz))] := hl
  obtain ⟨h_tal, h_w⟩ := hB
  have hdw : dj (rng a tz 1) (wavW G a i (nI U) f) := dj_rng ha wavW_in (by omega)
  have hS : va_S (rng a tz 1) s.heap s.heap [] := va_S.rf
  refine lv_lload_n hx hb dX8_countGate_0 rfl (lv_at hl 2 rfl) ?_
  refine lv_lstore (lv' := [(6, .long pb), (0, .ref (a i)), (1, .int (nI k)), (2, .long pb), (4, .int (bI q)), (5, .ref (a tz))]) hx hb dX8_countGate_1 hl (by decide) rfl (fun ls hl => ?_)
  refine lv_iconst (v := nI 0) hx hb dX8_countGate_3 (by decide) ?_
  refine lv_istore (lv' := [(8, .int (nI 0)), (6, .long pb), (0, .ref (a i)), (1, .int (nI k)), (2, .long pb), (4, .int (bI q)), (5, .ref (a tz))]) hx hb dX8_countGate_4 hl (by decide) rfl (fun ls hl => ?_)
  refine lv_loop1 6 (fun (u : Nat) => U - u) (fun (u : Nat) (H : Heap) (locs : List Loc) (ls : Array Slot) => (PP G (talW a tz (x + cgX f (k * 17) pb u) (cgY f (k * 17) pb y u) (z + if q then cgX f (k * 17) pb u else 0)) H) ∧ (va_S (rng a tz 1) s.heap H locs) ∧ (lv_has ls 13 [(0, .ref (a i)), (1, .int (nI k)), (4, .int (bI q)), (5, .ref (a tz)), (6, .long (pstW f (k * 17) pb u)), (8, .int (nI u))]) ∧ (u ≤ U)) (fun _ => []) (fun u H locs ls hI ih => ?_) 0 ⟨(by show PP G (talW a tz (x + 0) y (z + if q then 0 else 0)) _; rw [ite_self]; exact h_tal), hS, lv_sub hl [2, 3, 5, 6, 1, 0] rfl, by omega⟩ rfl
  obtain ⟨h_tal, hS, hl, hu⟩ := hI
  have ih1 := @ih
  clear ih
  refine lv_iload hx hb dX8_countGate_6 (lv_at hl 5 rfl) ?_
  refine lv_aload_n hx hb dX8_countGate_8 rfl (lv_at hl 0 rfl) ?_
  refine va_get (D := G.1) (ci := 8) (v := .int (nI U)) (C := RX8) (T := TX8) (N := 2) hx hb hts inX8_countGate_8 hown hK (ro hS h_w hdw) 0 rfl rfl 1 (by decide) (hts (.fieldLink RX8 26 "GateLedger$Waves" "used" "I") (List.mem_of_getElem? (i := 1) (by decide +kernel))) (fun _ h9 => h9) rfl dX8_countGate_9 ?_
  refine lv_icmp_ge (tgt := 86) hx hb dX8_countGate_12 (by decide) (fun c12 => ?_) (fun c12 => ?_)
  · skip
    have c12 := cv_le (by omega) (by omega) c12
    have eu : u = U := by omega
    exact en_wv () hx hb hr hlocks hS (trivial) (eu ▸ h_tal) dX8_countGate_86
  · skip
    have c12 := cv_nle (by omega) (by omega) c12
    have hyy := cgY_le (f := f) (b := k * 17) (pb := pb) hy u (by omega)
    have hh : hiT (trW f (k * 17) pb u) 64 ≤ 63 := hiT_lt _ 63
    refine lv_aload_n hx hb dX8_countGate_15 rfl (lv_at hl 0 rfl) ?_
    refine va_get (D := G.1) (ci := 8) (v := .ref (a (i + 1))) (C := RX8) (T := TX8) (N := 2) hx hb hts inX8_countGate_8 hown hK (ro hS h_w hdw) 0 rfl rfl 0 (by decide) (hts (.fieldLink RX8 16 "GateLedger$Waves" "words" "LGateLedger$WideRow;") (List.mem_of_getElem? (i := 2) (by decide +kernel))) (fun _ h9 => h9) rfl dX8_countGate_16 ?_
    refine lv_iload_n hx hb dX8_countGate_19 rfl (lv_at hl 1 rfl) ?_
    refine lv_bipush (v := nI 17) hx hb dX8_countGate_20 (by decide) ?_
    refine lv_imul hx hb dX8_countGate_22 ?_
    refine lv_as (pk_mul _ _) ?_
    refine lv_iload hx hb dX8_countGate_23 (lv_at hl 5 rfl) ?_
    refine lv_iadd hx hb dX8_countGate_25 ?_
    refine lv_as (nI_add _ _) ?_
    refine ro_l (va_runV (As := [.int (nI ((k * 17) + u))]) (rest := []) FX (c_X9_at l G a (i + 1) 2040 f (nI ((k * 17) + u)) (by decide)) (cwV 1 hts gX8_countGate_X9_at rfl rfl rfl (by decide +kernel) ⟨Nat.le_of_ble_eq_true rfl, Nat.le_of_ble_eq_true rfl⟩) (preV hK hNW (va_P.sub (ro hS h_w hdw) [1, 2] rfl) (va_recv hK (ro hS h_w hdw) (ci := 9) (q0 := 1) rfl rfl)) rfl rfl hl.1 rfl (lv_room (Nat.le_of_ble_eq_true rfl)) dX8_countGate_26 ⟨Nat.le_of_ble_eq_true rfl, Nat.le_of_ble_eq_true rfl⟩) ?_
    refine lv_asl (y := f ((k * 17) + u)) (wrowAt_in (by omega) (by decide)) ?_
    refine lv_lstore (lv' := [(9, .long (f ((k * 17) + u))), (0, .ref (a i)), (1, .int (nI k)), (4, .int (bI q)), (5, .ref (a tz)), (6, .long (pstW f (k * 17) pb u)), (8, .int (nI u))]) hx hb dX8_countGate_29 hl (by decide) rfl (fun ls hl => ?_)
    refine lv_lload hx hb dX8_countGate_31 (lv_at hl 0 rfl) ?_
    refine lv_lload hx hb dX8_countGate_33 (lv_at hl 0 rfl) ?_
    refine lv_iconst (v := nI 1) hx hb dX8_countGate_35 (by decide) ?_
    refine lv_lshl (v := lshl_ (f ((k * 17) + u)) (nI 1)) hx hb dX8_countGate_36 rfl ?_
    refine lv_lload hx hb dX8_countGate_37 (lv_at hl 5 rfl) ?_
    refine lv_bipush (v := nI 63) hx hb dX8_countGate_39 (by decide) ?_
    refine lv_lushr (v := lushr_ (pstW f (k * 17) pb u) (nI 63)) hx hb dX8_countGate_41 rfl ?_
    refine lv_lor hx hb dX8_countGate_42 ?_
    refine lv_lxor hx hb dX8_countGate_43 ?_
    refine lv_asl (y := trW f (k * 17) pb u) rfl ?_
    refine lv_lstore (lv' := [(11, .long (trW f (k * 17) pb u)), (9, .long (f ((k * 17) + u))), (0, .ref (a i)), (1, .int (nI k)), (4, .int (bI q)), (5, .ref (a tz)), (6, .long (pstW f (k * 17) pb u)), (8, .int (nI u))]) hx hb dX8_countGate_44 hl (by decide) rfl (fun ls hl => ?_)
    refine lv_lload hx hb dX8_countGate_46 (lv_at hl 0 rfl) ?_
    refine lv_lconst (v := 0) hx hb dX8_countGate_48 (by decide) ?_
    refine W.lcmp hx hb dX8_countGate_49 ?_
    refine lv_if_eq (tgt := 76) hx hb dX8_countGate_50 (by decide) (fun c50 => ?_) (fun c50 => ?_)
    · skip
      have c50 := lg_eq.mp c50
      refine lv_lload hx hb dX8_countGate_76 (lv_at hl 1 rfl) ?_
      refine lv_lstore (lv' := [(6, .long (f ((k * 17) + u))), (11, .long (trW f (k * 17) pb u)), (9, .long (f ((k * 17) + u))), (0, .ref (a i)), (1, .int (nI k)), (4, .int (bI q)), (5, .ref (a tz)), (8, .int (nI u))]) hx hb dX8_countGate_78 hl (by decide) rfl (fun ls hl => ?_)
      refine lv_iinc (v := nI (u + 1)) (lv' := [(8, .int (nI (u + 1))), (6, .long (f ((k * 17) + u))), (11, .long (trW f (k * 17) pb u)), (9, .long (f ((k * 17) + u))), (0, .ref (a i)), (1, .int (nI k)), (4, .int (bI q)), (5, .ref (a tz))]) hx hb dX8_countGate_80 hl (k := 7) rfl (by first | exact nI_add _ 1 | decide) (by decide) rfl (fun ls hl => ?_)
      refine lv_goto (tgt := 6) hx hb dX8_countGate_83 (by decide) ?_
      exact ih1 (u + 1) _ _ _ ⟨(by rw [cg_x0 c50, cg_y0 c50, cg_z0 c50]; exact h_tal), hS, lv_sub hl [4, 5, 6, 7, 1, 0] rfl, by omega⟩ (by show U - (u + 1) < U - u; omega)
    · skip
      have c50 := fun z9 => c50 (lg_eq.mpr z9)
      refine lv_aload hx hb dX8_countGate_53 (lv_at hl 5 rfl) ?_
      refine lv_lload hx hb dX8_countGate_55 (lv_at hl 0 rfl) ?_
      refine ro_i (va_runS (As := [.long (trW f (k * 17) pb u)]) (rest := [.ref (a tz)]) FX (c_J13_bitCount_95d88 l G (trW f (k * 17) pb u)) (va_cwS 1 hts gX8_countGate_J13_bitCount_95d88 rfl rfl rfl (by decide +kernel) ⟨Nat.le_of_ble_eq_true rfl, Nat.le_of_ble_eq_true rfl⟩) (preS hK hNW trivial) rfl rfl hl.1 rfl (lv_room (Nat.le_of_ble_eq_true rfl)) dX8_countGate_57 ⟨Nat.le_of_ble_eq_true rfl, Nat.le_of_ble_eq_true rfl⟩) ?_
      refine lv_iload hx hb dX8_countGate_60 (lv_at hl 7 rfl) ?_
      refine lv_bipush (v := nI 64) hx hb dX8_countGate_62 (by decide) ?_
      refine lv_imul hx hb dX8_countGate_64 ?_
      refine lv_as (pk_mul _ _) ?_
      refine lv_lload hx hb dX8_countGate_65 (lv_at hl 0 rfl) ?_
      refine ro_i (va_runS (As := [.long (trW f (k * 17) pb u)]) (rest := [.int (nI (u * 64)), .int (nI (popT (trW f (k * 17) pb u) 64)), .ref (a tz)]) FX (c_X8_highestBit l G (trW f (k * 17) pb u)) (va_cwS 1 hts gX8_countGate_X8_highestBit rfl rfl rfl (by decide +kernel) ⟨Nat.le_of_ble_eq_true rfl, Nat.le_of_ble_eq_true rfl⟩) (preS hK hNW trivial) rfl rfl hl.1 rfl (lv_room (Nat.le_of_ble_eq_true rfl)) dX8_countGate_67 ⟨Nat.le_of_ble_eq_true rfl, Nat.le_of_ble_eq_true rfl⟩) ?_
      refine lv_iadd hx hb dX8_countGate_70 ?_
      refine lv_as (nI_add _ _) ?_
      refine lv_iload hx hb dX8_countGate_71 (lv_at hl 4 rfl) ?_
      refine wr_v (va_runV (As := [.int (nI (popT (trW f (k * 17) pb u) 64)), .int (nI ((u * 64) + (hiT (trW f (k * 17) pb u) 64))), .int (bI q)]) (rest := []) FX (c_X5_add l G a ha tz (x + cgX f (k * 17) pb u) (cgY f (k * 17) pb y u) (z + if q then cgX f (k * 17) pb u else 0) (popT (trW f (k * 17) pb u) 64) ((u * 64) + (hiT (trW f (k * 17) pb u) 64)) q (by omega) (by omega)) (cwV 3 hts gX8_countGate_X5_add rfl rfl rfl (by decide +kernel) ⟨Nat.le_of_ble_eq_true rfl, Nat.le_of_ble_eq_true rfl⟩) (preV hK hNW h_tal (va_recv hK h_tal (ci := 5) (q0 := 0) rfl rfl)) rfl rfl hl.1 rfl (lv_room (Nat.le_of_ble_eq_true rfl)) dX8_countGate_73 ⟨Nat.le_of_ble_eq_true rfl, Nat.le_of_ble_eq_true rfl⟩) hS (rng_sub (by omega)) (fun _ H locs _ hP9 hk2 hS => ?_)
      have h_tal : PP G (talW a tz (x + cgX f (k * 17) pb u + (popT (trW f (k * 17) pb u) 64)) (max (cgY f (k * 17) pb y u) ((u * 64) + (hiT (trW f (k * 17) pb u) 64))) ((z + if q then cgX f (k * 17) pb u else 0) + if q then popT (trW f (k * 17) pb u) 64 else 0)) H := hP9
      refine lv_lload hx hb dX8_countGate_76 (lv_at hl 1 rfl) ?_
      refine lv_lstore (lv' := [(6, .long (f ((k * 17) + u))), (11, .long (trW f (k * 17) pb u)), (9, .long (f ((k * 17) + u))), (0, .ref (a i)), (1, .int (nI k)), (4, .int (bI q)), (5, .ref (a tz)), (8, .int (nI u))]) hx hb dX8_countGate_78 hl (by decide) rfl (fun ls hl => ?_)
      refine lv_iinc (v := nI (u + 1)) (lv' := [(8, .int (nI (u + 1))), (6, .long (f ((k * 17) + u))), (11, .long (trW f (k * 17) pb u)), (9, .long (f ((k * 17) + u))), (0, .ref (a i)), (1, .int (nI k)), (4, .int (bI q)), (5, .ref (a tz))]) hx hb dX8_countGate_80 hl (k := 7) rfl (by first | exact nI_add _ 1 | decide) (by decide) rfl (fun ls hl => ?_)
      refine lv_goto (tgt := 6) hx hb dX8_countGate_83 (by decide) ?_
      exact ih1 (u + 1) _ _ _ ⟨(by rw [cg_x1, cg_y1 c50, cg_z1]; exact h_tal), hS, lv_sub hl [4, 5, 6, 7, 1, 0] rfl, by omega⟩ (by show U - (u + 1) < U - u; omega)
set_option maxHeartbeats 4000000 in
set_option maxRecDepth 100000 in
/-- Waves.count -/
theorem c_X8_count (l : Launch) (G : GG) (a : Nat → Nat) (ha : Inj a) (i U : Nat) (hU : U ≤ 17) (f : Nat → Int64) (tz : Nat) (hit : i + 3 ≤ tz ∨ tz + 1 ≤ i) (j x : Nat) (hjt : j + 11 ≤ tz ∨ tz + 1 ≤ j) (hxt : x + 5 ≤ tz ∨ tz + 1 ≤ x) (N : NT) (hN : WF N) (w0 o0 : Nat → Int64)  : Met l yX8_count wsX8_count ({ frames := 3, cells := 0, slots := 0, locals := 76 } : Room) (PcB G [.ref (a i), .ref (a j), .ref (a x), .ref (a tz)] (fun H => PP G (talW a tz 0 0 0) H ∧ PP G (wavW G a i (nI U) f) H ∧ PP G (netW G a j N) H ∧ PP G (lanW G a x w0 o0) H)) (QV (fun _ : Unit => True) (fun _ H => PP G (talW a tz (cnX N f w0 U (nG N)) (cnY N f w0 U (nG N)) (cnZ N f w0 U (nG N))) H) (rng a tz 1)) 0 0 (rng a tz 1) := by
  refine Met.ofW (cc := cX8_count) (maxL := 5) (ret := none) (by decide) rfl ?_
  intro p e s m args below meth c s₁ B hml hv
  obtain ⟨rfl, hB, hK, hNW⟩ := hv
  have hx := B.exec
  have hb := B.bytes
  have hr := B.returns
  have hts := atoms_spec (ws := wsX8_count) B.pre
  have hown : s.vm.findClass RX8 = some m.cls := findClass_of_methodNamed B.named
  have hlocks := B.notSynchronized
  have FX : CallFix p m c cX8_count 5 s ([.ref (a i), .ref (a j), .ref (a x), .ref (a tz)] : List Value).toArray wsX8_count RX8 := ⟨hx, hb, hml, hown, hts⟩
  have hl := lv_entry ([.ref (a i), .ref (a j), .ref (a x), .ref (a tz)]) (n := 5) (Nat.le_of_ble_eq_true rfl)
  rw [lg_entry_eq]
  generalize (lg_sl ([.ref (a i), .ref (a j), .ref (a x), .ref (a tz)]) ++ List.replicate (5 - (lg_sl ([.ref (a i), .ref (a j), .ref (a x), .ref (a tz)])).length) Slot.unset).toArray = ls at hl ⊢
  have hl : lv_has ls 5 [(0, .ref (a i)), (1, .ref (a j)), (2, .ref (a x)), (3, .ref (a tz))] := hl
  obtain ⟨h_tal, h_w, h_n, h_lb⟩ := hB
  have hdw : dj (rng a tz 1) (wavW G a i (nI U) f) := dj_rng ha wavW_in (by omega)
  have hdn : dj (rng a tz 1) (netW G a j N) := dj_rng ha netW_in (by omega)
  have hdb : dj (rng a tz 1) (lanW G a x w0 o0) := dj_rng ha lanW_in (by omega)
  have hg9 := hN.g
  have hS : va_S (rng a tz 1) s.heap s.heap [] := va_S.rf
  refine lv_iconst (v := nI 0) hx hb dX8_count_0 (by decide) ?_
  refine lv_istore (lv' := [(4, .int (nI 0)), (0, .ref (a i)), (1, .ref (a j)), (2, .ref (a x)), (3, .ref (a tz))]) hx hb dX8_count_1 hl (by decide) rfl (fun ls hl => ?_)
  refine lv_loop1 3 (fun (k : Nat) => nG N - k) (fun (k : Nat) (H : Heap) (locs : List Loc) (ls : Array Slot) => (PP G (talW a tz (cnX N f w0 U k) (cnY N f w0 U k) (cnZ N f w0 U k)) H) ∧ (va_S (rng a tz 1) s.heap H locs) ∧ (lv_has ls 5 [(0, .ref (a i)), (1, .ref (a j)), (2, .ref (a x)), (3, .ref (a tz)), (4, .int (nI k))]) ∧ (k ≤ nG N)) (fun _ => []) (fun k H locs ls hI ih => ?_) 0 ⟨h_tal, hS, lv_sub hl [1, 2, 3, 4, 0] rfl, by omega⟩ rfl
  obtain ⟨h_tal, hS, hl, hk⟩ := hI
  have ih1 := @ih
  clear ih
  refine lv_iload hx hb dX8_count_3 (lv_at hl 4 rfl) ?_
  refine lv_aload_n hx hb dX8_count_5 rfl (lv_at hl 1 rfl) ?_
  refine ro_i (va_runV (As := []) (rest := [.int (nI k)]) FX (c_X3_size l G a j N) (cwV 0 hts gX8_count_X3_size rfl rfl rfl (by decide +kernel) ⟨Nat.le_of_ble_eq_true rfl, Nat.le_of_ble_eq_true rfl⟩) (preV hK hNW (ro hS h_n hdn) (va_recv hK (ro hS h_n hdn) (ci := 3) (q0 := 0) rfl rfl)) rfl rfl hl.1 rfl (lv_room (Nat.le_of_ble_eq_true rfl)) dX8_count_6 ⟨Nat.le_of_ble_eq_true rfl, Nat.le_of_ble_eq_true rfl⟩) ?_
  refine lv_icmp_ge (tgt := 46) hx hb dX8_count_9 (by decide) (fun c9 => ?_) (fun c9 => ?_)
  · skip
    have c9 := cv_le (by omega) (by omega) c9
    have ek : k = nG N := by omega
    exact en_wv () hx hb hr hlocks hS (trivial) (ek ▸ h_tal) dX8_count_46
  · skip
    have c9 := cv_nle (by omega) (by omega) c9
    refine lv_aload_n hx hb dX8_count_12 rfl (lv_at hl 1 rfl) ?_
    refine lv_iload hx hb dX8_count_13 (lv_at hl 4 rfl) ?_
    refine ro_i (va_runV (As := [.int (nI k)]) (rest := []) FX (c_X3_isInput l G a j N hN k c9) (cwV 1 hts gX8_count_X3_isInput rfl rfl rfl (by decide +kernel) ⟨Nat.le_of_ble_eq_true rfl, Nat.le_of_ble_eq_true rfl⟩) (preV hK hNW (ro hS h_n hdn) (va_recv hK (ro hS h_n hdn) (ci := 3) (q0 := 0) rfl rfl)) rfl rfl hl.1 rfl (lv_room (Nat.le_of_ble_eq_true rfl)) dX8_count_15 ⟨Nat.le_of_ble_eq_true rfl, Nat.le_of_ble_eq_true rfl⟩) ?_
    refine lv_if_ne (tgt := 40) hx hb dX8_count_18 (by decide) (fun c18 => ?_) (fun c18 => ?_)
    · skip
      have c18 := bI_1 c18
      refine lv_iinc (v := nI (k + 1)) (lv' := [(4, .int (nI (k + 1))), (0, .ref (a i)), (1, .ref (a j)), (2, .ref (a x)), (3, .ref (a tz))]) hx hb dX8_count_40 hl (k := 4) rfl (by first | exact nI_add _ 1 | decide) (by decide) rfl (fun ls hl => ?_)
      refine lv_goto (tgt := 3) hx hb dX8_count_43 (by decide) ?_
      exact ih1 (k + 1) _ _ _ ⟨(by rw [cn_x0 c18, cn_y0 c18, cn_z0 c18]; exact h_tal), hS, lv_sub hl [1, 2, 3, 4, 0] rfl, by omega⟩ (by show nG N - (k + 1) < nG N - k; omega)
    · skip
      have c18 := bI_0.mp c18
      refine lv_aload_n hx hb dX8_count_21 rfl (lv_at hl 0 rfl) ?_
      refine lv_iload hx hb dX8_count_22 (lv_at hl 4 rfl) ?_
      refine lv_aload_n hx hb dX8_count_24 rfl (lv_at hl 2 rfl) ?_
      refine lv_iload hx hb dX8_count_25 (lv_at hl 4 rfl) ?_
      refine ro_l (va_runV (As := [.int (nI k)]) (rest := [.int (nI k), .ref (a i)]) FX (c_X1_wordOf l G a x w0 o0 k (by omega)) (cwV 1 hts gX8_count_X1_wordOf rfl rfl rfl (by decide +kernel) ⟨Nat.le_of_ble_eq_true rfl, Nat.le_of_ble_eq_true rfl⟩) (preV hK hNW (ro hS h_lb hdb) (va_recv hK (ro hS h_lb hdb) (ci := 1) (q0 := 0) rfl rfl)) rfl rfl hl.1 rfl (lv_room (Nat.le_of_ble_eq_true rfl)) dX8_count_27 ⟨Nat.le_of_ble_eq_true rfl, Nat.le_of_ble_eq_true rfl⟩) ?_
      refine lv_aload_n hx hb dX8_count_30 rfl (lv_at hl 1 rfl) ?_
      refine lv_iload hx hb dX8_count_31 (lv_at hl 4 rfl) ?_
      refine ro_i (va_runV (As := [.int (nI k)]) (rest := [.long (w0 k), .int (nI k), .ref (a i)]) FX (c_X3_isOut l G a j N hN k c9) (cwV 1 hts gX8_count_X3_isOut rfl rfl rfl (by decide +kernel) ⟨Nat.le_of_ble_eq_true rfl, Nat.le_of_ble_eq_true rfl⟩) (preV hK hNW (ro hS h_n hdn) (va_recv hK (ro hS h_n hdn) (ci := 3) (q0 := 0) rfl rfl)) rfl rfl hl.1 rfl (lv_room (Nat.le_of_ble_eq_true rfl)) dX8_count_33 ⟨Nat.le_of_ble_eq_true rfl, Nat.le_of_ble_eq_true rfl⟩) ?_
      refine lv_aload_n hx hb dX8_count_36 rfl (lv_at hl 3 rfl) ?_
      refine wr_v (va_runV (As := [.int (nI k), .long (w0 k), .int (bI (∃ r, r < nO N ∧ nU N r = k)), .ref (a tz)]) (rest := []) FX (c_X8_countGate l G a ha i U hU f tz hit (cnX N f w0 U k) (cnY N f w0 U k) (cnZ N f w0 U k) k (w0 k) (∃ r, r < nO N ∧ nU N r = k) (by omega) (cnY_le hU k)) (cwV 4 hts gX8_count_X8_countGate rfl rfl rfl (by decide +kernel) ⟨Nat.le_of_ble_eq_true rfl, Nat.le_of_ble_eq_true rfl⟩) (preV hK hNW (⟨h_tal, (ro hS h_w hdw)⟩) (va_recv hK (ro hS h_w hdw) (ci := 8) (q0 := 0) rfl rfl)) rfl rfl hl.1 rfl (lv_room (Nat.le_of_ble_eq_true rfl)) dX8_count_37 ⟨Nat.le_of_ble_eq_true rfl, Nat.le_of_ble_eq_true rfl⟩) hS (rng_sub (by omega)) (fun _ H locs _ hP9 hk2 hS => ?_)
      have h_tal : PP G (talW a tz (cnX N f w0 U k + cgX f (k * 17) (w0 k) U) (cgY f (k * 17) (w0 k) (cnY N f w0 U k) U) (cnZ N f w0 U k + if (∃ r, r < nO N ∧ nU N r = k) then cgX f (k * 17) (w0 k) U else 0)) H := hP9
      refine lv_iinc (v := nI (k + 1)) (lv' := [(4, .int (nI (k + 1))), (0, .ref (a i)), (1, .ref (a j)), (2, .ref (a x)), (3, .ref (a tz))]) hx hb dX8_count_40 hl (k := 4) rfl (by first | exact nI_add _ 1 | decide) (by decide) rfl (fun ls hl => ?_)
      refine lv_goto (tgt := 3) hx hb dX8_count_43 (by decide) ?_
      exact ih1 (k + 1) _ _ _ ⟨(by rw [cn_x1 c18, cn_y1 c18, cn_z1 c18]; exact h_tal), hS, lv_sub hl [1, 2, 3, 4, 0] rfl, by omega⟩ (by show nG N - (k + 1) < nG N - k; omega)
