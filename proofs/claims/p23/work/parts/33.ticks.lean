set_option maxHeartbeats 4000000 in
set_option maxRecDepth 100000 in
/-- Ticks.cellOf -/
theorem c_X6_cellOf (l : Launch) (G : GG) (k r9 : Nat) (x : Int32) (hx0 : x &&& nI 15 = nI r9) : Met l yX6_cellOf wsX6_cellOf ({ frames := 0, cells := 0, slots := 0, locals := 0 } : Room) (PcB G [.int (nI k), .int x] (fun H => True)) (vp_Si (fun r => r = nI (k * 16 + r9))) 0 0 (fun _ => False) := by
  refine Met.ofW (cc := cX6_cellOf) (maxL := 2) (ret := (some .int)) (by decide) rfl ?_
  intro p e s m args below meth c s₁ B hml hv
  obtain ⟨rfl, hB, hK, hNW⟩ := hv
  have hx := B.exec
  have hb := B.bytes
  have hr := B.returns
  have hts := atoms_spec (ws := wsX6_cellOf) B.pre
  have hown : s.vm.findClass RX6 = some m.cls := findClass_of_methodNamed B.named
  have hlocks := B.notSynchronized
  have FX : CallFix p m c cX6_cellOf 2 s ([.int (nI k), .int x] : List Value).toArray wsX6_cellOf RX6 := ⟨hx, hb, hml, hown, hts⟩
  have hl := lv_entry ([.int (nI k), .int x]) (n := 2) (Nat.le_of_ble_eq_true rfl)
  rw [lg_entry_eq]
  generalize (lg_sl ([.int (nI k), .int x]) ++ List.replicate (2 - (lg_sl ([.int (nI k), .int x])).length) Slot.unset).toArray = ls at hl ⊢
  have hl : lv_has ls 2 [(0, .int (nI k)), (1, .int x)] := hl
  refine lv_iload_n hx hb dX6_cellOf_0 rfl (lv_at hl 0 rfl) ?_
  refine lv_bipush (v := nI 16) hx hb dX6_cellOf_1 (by decide) ?_
  refine lv_imul hx hb dX6_cellOf_3 ?_
  refine lv_as (pk_mul _ _) ?_
  refine lv_iload_n hx hb dX6_cellOf_4 rfl (lv_at hl 1 rfl) ?_
  refine lv_bipush (v := nI 15) hx hb dX6_cellOf_5 (by decide) ?_
  refine lv_iand hx hb dX6_cellOf_7 ?_
  refine lv_as (y := nI r9) hx0 ?_
  refine lv_iadd hx hb dX6_cellOf_8 ?_
  refine lv_as (nI_add _ _) ?_
  exact en_i hx hb hr hlocks (rfl) dX6_cellOf_9
set_option maxRecDepth 20000 in
theorem inX6_bitAt_6 : ∀ w ∈ u_ws RX6 TX6 1, w ∈ wsX6_bitAt := by decide +kernel
set_option maxHeartbeats 4000000 in
set_option maxRecDepth 100000 in
/-- Ticks.bitAt -/
theorem c_X6_bitAt (l : Launch) (G : GG) (a : Nat → Nat) (i : Nat) (f : Nat → Int32) (k r9 : Nat) (x : Int32) (hx0 : x &&& nI 15 = nI r9) (hr9 : r9 < 16) (hk : k < 120) : Met l yX6_bitAt wsX6_bitAt ({ frames := 1, cells := 0, slots := 0, locals := 21 } : Room) (PcB G [.ref (a i), .int (nI k), .int x] (fun H => PP G (ticW G a i f) H)) (vp_Si (fun r => r = f (k * 16 + r9))) 0 0 (fun _ => False) := by
  refine Met.ofW (cc := cX6_bitAt) (maxL := 3) (ret := (some .int)) (by decide) rfl ?_
  intro p e s m args below meth c s₁ B hml hv
  obtain ⟨rfl, hB, hK, hNW⟩ := hv
  have hx := B.exec
  have hb := B.bytes
  have hr := B.returns
  have hts := atoms_spec (ws := wsX6_bitAt) B.pre
  have hown : s.vm.findClass RX6 = some m.cls := findClass_of_methodNamed B.named
  have hlocks := B.notSynchronized
  have FX : CallFix p m c cX6_bitAt 3 s ([.ref (a i), .int (nI k), .int x] : List Value).toArray wsX6_bitAt RX6 := ⟨hx, hb, hml, hown, hts⟩
  have hl := lv_entry ([.ref (a i), .int (nI k), .int x]) (n := 3) (Nat.le_of_ble_eq_true rfl)
  rw [lg_entry_eq]
  generalize (lg_sl ([.ref (a i), .int (nI k), .int x]) ++ List.replicate (3 - (lg_sl ([.ref (a i), .int (nI k), .int x])).length) Slot.unset).toArray = ls at hl ⊢
  have hl : lv_has ls 3 [(0, .ref (a i)), (1, .int (nI k)), (2, .int x)] := hl
  have h_b := hB
  refine lv_aload_n hx hb dX6_bitAt_0 rfl (lv_at hl 0 rfl) ?_
  refine va_get (D := G.1) (ci := 6) (v := .ref (a (i + 1))) (C := RX6) (T := TX6) (N := 1) hx hb hts inX6_bitAt_6 hown hK h_b 0 rfl rfl 0 (by decide) (hts (.fieldLink RX6 16 "GateLedger$Ticks" "bits" "LGateLedger$Row;") (List.mem_of_getElem? (i := 1) (by decide +kernel))) (fun _ h9 => h9) rfl dX6_bitAt_1 ?_
  refine lv_iload_n hx hb dX6_bitAt_4 rfl (lv_at hl 1 rfl) ?_
  refine lv_iload_n hx hb dX6_bitAt_5 rfl (lv_at hl 2 rfl) ?_
  refine ro_i (va_runS (As := [.int (nI k), .int x]) (rest := [.ref (a (i + 1))]) FX (c_X6_cellOf l G k r9 x hx0) (va_cwS 2 hts gX6_bitAt_X6_cellOf rfl rfl rfl (by decide +kernel) ⟨Nat.le_of_ble_eq_true rfl, Nat.le_of_ble_eq_true rfl⟩) (preS hK hNW trivial) rfl rfl hl.1 rfl (lv_room (Nat.le_of_ble_eq_true rfl)) dX6_bitAt_6 ⟨Nat.le_of_ble_eq_true rfl, Nat.le_of_ble_eq_true rfl⟩) ?_
  refine ro_i (va_runV (As := [.int (nI (k * 16 + r9))]) (rest := []) FX (c_X4_at l G a (i + 1) 1920 f (nI (k * 16 + r9)) (by decide)) (cwV 1 hts gX6_bitAt_X4_at rfl rfl rfl (by decide +kernel) ⟨Nat.le_of_ble_eq_true rfl, Nat.le_of_ble_eq_true rfl⟩) (preV hK hNW (va_P.sub h_b [1, 2] rfl) (va_recv hK h_b (ci := 4) (q0 := 1) rfl rfl)) rfl rfl hl.1 rfl (lv_room (Nat.le_of_ble_eq_true rfl)) dX6_bitAt_9 ⟨Nat.le_of_ble_eq_true rfl, Nat.le_of_ble_eq_true rfl⟩) ?_
  refine lv_as (y := f (k * 16 + r9)) (rowAt_in (by omega) (by decide)) ?_
  exact en_i hx hb hr hlocks (rfl) dX6_bitAt_12
set_option maxHeartbeats 4000000 in
set_option maxRecDepth 100000 in
/-- Ticks.followingBit -/
theorem c_X6_followingBit (l : Launch) (G : GG) (a : Nat → Nat) (i j : Nat) (f : Nat → Int32) (N : NT) (hN : WF N) (k now d : Nat) (W1 W2 : Bool) (hk : k < nG N) (h4 : ¬ nK N k = 4) (hd : d ≤ 16) (hnow : now < 2 ^ 30) (hbq : f (nF N k * 16 + (now + 16 - d) % 16) = bi W1 ∧ f (nS N k * 16 + (now + 16 - d) % 16) = bi W2) : Met l yX6_followingBit wsX6_followingBit ({ frames := 2, cells := 0, slots := 0, locals := 43 } : Room) (PcB G [.ref (a i), .ref (a j), .int (nI k), .int (nI now - nI d)] (fun H => PP G (ticW G a i f) H ∧ PP G (netW G a j N) H)) (vp_Si (fun r => r = bi (jn (nK N k) W1 W2))) 0 0 (fun _ => False) := by
  refine Met.ofW (cc := cX6_followingBit) (maxL := 8) (ret := (some .int)) (by decide) rfl ?_
  intro p e s m args below meth c s₁ B hml hv
  obtain ⟨rfl, hB, hK, hNW⟩ := hv
  have hx := B.exec
  have hb := B.bytes
  have hr := B.returns
  have hts := atoms_spec (ws := wsX6_followingBit) B.pre
  have hown : s.vm.findClass RX6 = some m.cls := findClass_of_methodNamed B.named
  have hlocks := B.notSynchronized
  have FX : CallFix p m c cX6_followingBit 8 s ([.ref (a i), .ref (a j), .int (nI k), .int (nI now - nI d)] : List Value).toArray wsX6_followingBit RX6 := ⟨hx, hb, hml, hown, hts⟩
  have hl := lv_entry ([.ref (a i), .ref (a j), .int (nI k), .int (nI now - nI d)]) (n := 8) (Nat.le_of_ble_eq_true rfl)
  rw [lg_entry_eq]
  generalize (lg_sl ([.ref (a i), .ref (a j), .int (nI k), .int (nI now - nI d)]) ++ List.replicate (8 - (lg_sl ([.ref (a i), .ref (a j), .int (nI k), .int (nI now - nI d)])).length) Slot.unset).toArray = ls at hl ⊢
  have hl : lv_has ls 8 [(0, .ref (a i)), (1, .ref (a j)), (2, .int (nI k)), (3, .int (nI now - nI d))] := hl
  obtain ⟨h_b, h_n⟩ := hB
  have hg9 := hN.g
  have hfs := hN.fs hk h4
  have hk4 := hN.k hk
  refine lv_aload_n hx hb dX6_followingBit_0 rfl (lv_at hl 0 rfl) ?_
  refine lv_aload_n hx hb dX6_followingBit_1 rfl (lv_at hl 1 rfl) ?_
  refine lv_iload_n hx hb dX6_followingBit_2 rfl (lv_at hl 2 rfl) ?_
  refine ro_i (va_runV (As := [.int (nI k)]) (rest := [.ref (a i)]) FX (c_X3_firstOf l G a j N hN k hk) (cwV 1 hts gX6_followingBit_X3_firstOf rfl rfl rfl (by decide +kernel) ⟨Nat.le_of_ble_eq_true rfl, Nat.le_of_ble_eq_true rfl⟩) (preV hK hNW h_n (va_recv hK h_n (ci := 3) (q0 := 0) rfl rfl)) rfl rfl hl.1 rfl (lv_room (Nat.le_of_ble_eq_true rfl)) dX6_followingBit_3 ⟨Nat.le_of_ble_eq_true rfl, Nat.le_of_ble_eq_true rfl⟩) ?_
  refine lv_iload_n hx hb dX6_followingBit_6 rfl (lv_at hl 3 rfl) ?_
  refine ro_i (va_runV (As := [.int (nI (nF N k)), .int (nI now - nI d)]) (rest := []) FX (c_X6_bitAt l G a i f (nF N k) ((now + 16 - d) % 16) (nI now - nI d) (and15 now d hd hnow) (by omega) (by omega)) (cwV 2 hts gX6_followingBit_X6_bitAt rfl rfl rfl (by decide +kernel) ⟨Nat.le_of_ble_eq_true rfl, Nat.le_of_ble_eq_true rfl⟩) (preV hK hNW h_b (va_recv hK h_b (ci := 6) (q0 := 0) rfl rfl)) rfl rfl hl.1 rfl (lv_room (Nat.le_of_ble_eq_true rfl)) dX6_followingBit_7 ⟨Nat.le_of_ble_eq_true rfl, Nat.le_of_ble_eq_true rfl⟩) ?_
  refine lv_as (y := bi (W1)) hbq.1 ?_
  refine lv_i2l (v := (bi (W1)).toInt64) hx hb dX6_followingBit_10 rfl ?_
  refine lv_lstore (lv' := [(4, .long ((bi (W1)).toInt64)), (0, .ref (a i)), (1, .ref (a j)), (2, .int (nI k)), (3, .int (nI now - nI d))]) hx hb dX6_followingBit_11 hl (by decide) rfl (fun ls hl => ?_)
  refine lv_aload_n hx hb dX6_followingBit_13 rfl (lv_at hl 1 rfl) ?_
  refine lv_aload_n hx hb dX6_followingBit_14 rfl (lv_at hl 2 rfl) ?_
  refine lv_iload_n hx hb dX6_followingBit_15 rfl (lv_at hl 3 rfl) ?_
  refine ro_i (va_runV (As := [.int (nI k)]) (rest := [.ref (a i)]) FX (c_X3_secondOf l G a j N hN k hk) (cwV 1 hts gX6_followingBit_X3_secondOf rfl rfl rfl (by decide +kernel) ⟨Nat.le_of_ble_eq_true rfl, Nat.le_of_ble_eq_true rfl⟩) (preV hK hNW h_n (va_recv hK h_n (ci := 3) (q0 := 0) rfl rfl)) rfl rfl hl.1 rfl (lv_room (Nat.le_of_ble_eq_true rfl)) dX6_followingBit_16 ⟨Nat.le_of_ble_eq_true rfl, Nat.le_of_ble_eq_true rfl⟩) ?_
  refine lv_iload_n hx hb dX6_followingBit_19 rfl (lv_at hl 4 rfl) ?_
  refine ro_i (va_runV (As := [.int (nI (nS N k)), .int (nI now - nI d)]) (rest := []) FX (c_X6_bitAt l G a i f (nS N k) ((now + 16 - d) % 16) (nI now - nI d) (and15 now d hd hnow) (by omega) (by omega)) (cwV 2 hts gX6_followingBit_X6_bitAt rfl rfl rfl (by decide +kernel) ⟨Nat.le_of_ble_eq_true rfl, Nat.le_of_ble_eq_true rfl⟩) (preV hK hNW h_b (va_recv hK h_b (ci := 6) (q0 := 0) rfl rfl)) rfl rfl hl.1 rfl (lv_room (Nat.le_of_ble_eq_true rfl)) dX6_followingBit_20 ⟨Nat.le_of_ble_eq_true rfl, Nat.le_of_ble_eq_true rfl⟩) ?_
  refine lv_as (y := bi (W2)) hbq.2 ?_
  refine lv_i2l (v := (bi (W2)).toInt64) hx hb dX6_followingBit_23 rfl ?_
  refine lv_lstore (lv' := [(6, .long ((bi (W2)).toInt64)), (4, .long ((bi (W1)).toInt64)), (0, .ref (a i)), (1, .ref (a j)), (2, .int (nI k)), (3, .int (nI now - nI d))]) hx hb dX6_followingBit_24 hl (by decide) rfl (fun ls hl => ?_)
  refine lv_aload_n hx hb dX6_followingBit_26 rfl (lv_at hl 3 rfl) ?_
  refine lv_iload_n hx hb dX6_followingBit_27 rfl (lv_at hl 4 rfl) ?_
  refine ro_i (va_runV (As := [.int (nI k)]) (rest := []) FX (c_X3_kindOf l G a j N hN k hk) (cwV 1 hts gX6_followingBit_X3_kindOf rfl rfl rfl (by decide +kernel) ⟨Nat.le_of_ble_eq_true rfl, Nat.le_of_ble_eq_true rfl⟩) (preV hK hNW h_n (va_recv hK h_n (ci := 3) (q0 := 0) rfl rfl)) rfl rfl hl.1 rfl (lv_room (Nat.le_of_ble_eq_true rfl)) dX6_followingBit_28 ⟨Nat.le_of_ble_eq_true rfl, Nat.le_of_ble_eq_true rfl⟩) ?_
  refine lv_lload hx hb dX6_followingBit_31 (lv_at hl 1 rfl) ?_
  refine lv_lload hx hb dX6_followingBit_33 (lv_at hl 0 rfl) ?_
  refine ro_l (va_runSN (As := [.int (nI (nK N k)), .long ((bi (W1)).toInt64), .long ((bi (W2)).toInt64)]) (rest := []) FX (c_X11_join l G (nK N k) ((bi (W1)).toInt64) ((bi (W2)).toInt64) (by omega)) ⟨va_cnB 3 hts gX6_followingBit_X11_join_n75 rfl rfl rfl hNW.2.1 (hts (.initialized RX11) (List.mem_of_getElem? (i := 34) (by decide +kernel))) (by decide +kernel) ⟨Nat.le_of_ble_eq_true rfl, Nat.le_of_ble_eq_true rfl⟩, (hts (.static yX11_join) (List.mem_of_getElem? (i := 33) (by decide +kernel))), trivial⟩ (preS hK hNW trivial) rfl rfl hl.1 rfl (lv_room (Nat.le_of_ble_eq_true rfl)) dX6_followingBit_35 ⟨Nat.le_of_ble_eq_true rfl, Nat.le_of_ble_eq_true rfl⟩) ?_
  refine lv_lconst (v := 1) hx hb dX6_followingBit_38 (by decide) ?_
  refine lv_land hx hb dX6_followingBit_39 ?_
  refine lv_l2i (v := ((jnW (nK N k) ((bi (W1)).toInt64) ((bi (W2)).toInt64)) &&& 1).toInt32) hx hb dX6_followingBit_40 rfl ?_
  exact en_i hx hb hr hlocks (jn_bi) dX6_followingBit_41
set_option maxRecDepth 20000 in
theorem inX6_begin_6 : ∀ w ∈ u_ws RX6 TX6 1, w ∈ wsX6_begin := by decide +kernel
set_option maxHeartbeats 4000000 in
set_option maxRecDepth 100000 in
/-- Ticks.begin -/
theorem c_X6_begin (l : Launch) (G : GG) (a : Nat → Nat) (ha : Inj a) (i j x : Nat) (f : Nat → Int32) (hij : i + 3 ≤ j ∨ j + 11 ≤ i) (hix : i + 3 ≤ x ∨ x + 5 ≤ i) (N : NT) (hN : WF N) (w0 o0 : Nat → Int64) (b0 : Nat → Bool) (hw0 : ∀ r, r < nG N → w0 r = lv64 (b0 r))  : Met l yX6_begin wsX6_begin ({ frames := 2, cells := 0, slots := 0, locals := 42 } : Room) (PcB G [.ref (a i), .ref (a j), .ref (a x)] (fun H => PP G (ticW G a i f) H ∧ PP G (netW G a j N) H ∧ PP G (lanW G a x w0 o0) H)) (QV (fun g : Nat → Int32 => ∀ r, r < nG N → ∀ z, z < 16 → g (r * 16 + z) = bi (b0 r)) (fun g H => PP G (ticW G a i g) H) (rng a i 3)) 0 0 (rng a i 3) := by
  refine Met.ofW (cc := cX6_begin) (maxL := 5) (ret := none) (by decide) rfl ?_
  intro p e s m args below meth c s₁ B hml hv
  obtain ⟨rfl, hB, hK, hNW⟩ := hv
  have hx := B.exec
  have hb := B.bytes
  have hr := B.returns
  have hts := atoms_spec (ws := wsX6_begin) B.pre
  have hown : s.vm.findClass RX6 = some m.cls := findClass_of_methodNamed B.named
  have hlocks := B.notSynchronized
  have FX : CallFix p m c cX6_begin 5 s ([.ref (a i), .ref (a j), .ref (a x)] : List Value).toArray wsX6_begin RX6 := ⟨hx, hb, hml, hown, hts⟩
  have hl := lv_entry ([.ref (a i), .ref (a j), .ref (a x)]) (n := 5) (Nat.le_of_ble_eq_true rfl)
  rw [lg_entry_eq]
  generalize (lg_sl ([.ref (a i), .ref (a j), .ref (a x)]) ++ List.replicate (5 - (lg_sl ([.ref (a i), .ref (a j), .ref (a x)])).length) Slot.unset).toArray = ls at hl ⊢
  have hl : lv_has ls 5 [(0, .ref (a i)), (1, .ref (a j)), (2, .ref (a x))] := hl
  obtain ⟨hB, h_n, h_lb⟩ := hB
  have h_o : PP G ([(a i, .inr (6, [.ref (a (i + 1))]))]) s.heap := P_app1 hB
  have h_b : PP G (rowW G a (i + 1) 1920 f) s.heap := P_app2 hB
  have hdn : dj (rng a i 3) (netW G a j N) := dj_rng ha netW_in (by omega)
  have hdb : dj (rng a i 3) (lanW G a x w0 o0) := dj_rng ha lanW_in (by omega)
  have hg9 := hN.g
  have hS : va_S (rng a i 3) s.heap s.heap [] := va_S.rf
  refine lv_iconst (v := nI 0) hx hb dX6_begin_0 (by decide) ?_
  refine lv_istore_n (lv' := [(3, .int (nI 0)), (0, .ref (a i)), (1, .ref (a j)), (2, .ref (a x))]) hx hb dX6_begin_1 rfl hl (by decide) rfl (fun ls hl => ?_)
  refine lv_loop2 2 (fun (k : Nat) (g : Nat → Int32) => nG N - k) (fun (k : Nat) (g : Nat → Int32) (H : Heap) (locs : List Loc) (ls : Array Slot) => (PP G ([(a i, .inr (6, [.ref (a (i + 1))]))]) H) ∧ (PP G (rowW G a (i + 1) 1920 g) H) ∧ (va_S (rng a i 3) s.heap H locs) ∧ (lv_has ls 5 [(0, .ref (a i)), (1, .ref (a j)), (2, .ref (a x)), (3, .int (nI k))]) ∧ (k ≤ nG N) ∧ (∀ r, r < k → ∀ z, z < 16 → g (r * 16 + z) = bi (b0 r))) (fun _ _ => []) (fun k g H locs ls hI ih => ?_) 0 f ⟨h_o, h_b, hS, lv_sub hl [1, 2, 3, 0] rfl, by omega, fun r h => absurd h (Nat.not_lt_zero r)⟩ rfl
  obtain ⟨h_o, h_b, hS, hl, hk, hg⟩ := hI
  have ih1 := @ih
  clear ih
  refine lv_iload_n hx hb dX6_begin_2 rfl (lv_at hl 3 rfl) ?_
  refine lv_aload_n hx hb dX6_begin_3 rfl (lv_at hl 1 rfl) ?_
  refine ro_i (va_runV (As := []) (rest := [.int (nI k)]) FX (c_X3_size l G a j N) (cwV 0 hts gX6_begin_X3_size rfl rfl rfl (by decide +kernel) ⟨Nat.le_of_ble_eq_true rfl, Nat.le_of_ble_eq_true rfl⟩) (preV hK hNW (ro hS h_n hdn) (va_recv hK (ro hS h_n hdn) (ci := 3) (q0 := 0) rfl rfl)) rfl rfl hl.1 rfl (lv_room (Nat.le_of_ble_eq_true rfl)) dX6_begin_4 ⟨Nat.le_of_ble_eq_true rfl, Nat.le_of_ble_eq_true rfl⟩) ?_
  refine lv_icmp_ge (tgt := 51) hx hb dX6_begin_7 (by decide) (fun c7 => ?_) (fun c7 => ?_)
  · skip
    have c7 := cv_le (by omega) (by omega) c7
    exact en_wv g hx hb hr hlocks hS (fun r hr => hg r (by omega)) (P_app h_o h_b) dX6_begin_51
  · skip
    have c7 := cv_nle (by omega) (by omega) c7
    refine lv_iconst (v := nI 0) hx hb dX6_begin_10 (by decide) ?_
    refine lv_istore (lv' := [(4, .int (nI 0)), (0, .ref (a i)), (1, .ref (a j)), (2, .ref (a x)), (3, .int (nI k))]) hx hb dX6_begin_11 hl (by decide) rfl (fun ls hl => ?_)
    refine lv_loop2 13 (fun (u : Nat) (g2 : Nat → Int32) => 16 - u) (fun (u : Nat) (g2 : Nat → Int32) (H : Heap) (locs : List Loc) (ls : Array Slot) => (PP G ([(a i, .inr (6, [.ref (a (i + 1))]))]) H) ∧ (PP G (rowW G a (i + 1) 1920 g2) H) ∧ (va_S (rng a i 3) s.heap H locs) ∧ (lv_has ls 5 [(0, .ref (a i)), (1, .ref (a j)), (2, .ref (a x)), (3, .int (nI k)), (4, .int (nI u))]) ∧ (u ≤ 16) ∧ (∀ z, z < u → g2 (k * 16 + z) = bi (b0 k)) ∧ (∀ r, r < k * 16 → g2 r = g r)) (fun _ _ => []) (fun u g2 H locs ls hI ih => ?_) 0 g ⟨h_o, h_b, hS, lv_sub hl [1, 2, 3, 4, 0] rfl, by omega, fun r h => absurd h (Nat.not_lt_zero r), fun _ _ => rfl⟩ rfl
    obtain ⟨h_o, h_b, hS, hl, hu, hg2, hg3⟩ := hI
    have ih2 := @ih
    clear ih
    refine lv_iload hx hb dX6_begin_13 (lv_at hl 4 rfl) ?_
    refine lv_bipush (v := nI 16) hx hb dX6_begin_15 (by decide) ?_
    refine lv_icmp_ge (tgt := 45) hx hb dX6_begin_17 (by decide) (fun c17 => ?_) (fun c17 => ?_)
    · skip
      have c17 := cv_le (by omega) (by omega) c17
      refine lv_iinc (v := nI (k + 1)) (lv' := [(3, .int (nI (k + 1))), (0, .ref (a i)), (1, .ref (a j)), (2, .ref (a x)), (4, .int (nI u))]) hx hb dX6_begin_45 hl (k := 3) rfl (by first | exact nI_add _ 1 | decide) (by decide) rfl (fun ls hl => ?_)
      refine lv_goto (tgt := 2) hx hb dX6_begin_48 (by decide) ?_
      exact ih1 (k + 1) g2 _ _ _ ⟨h_o, h_b, hS, lv_sub hl [1, 2, 3, 0] rfl, by omega, fun r h z hz => by rcases Nat.lt_succ_iff_lt_or_eq.mp h with h | h; rw [hg3 _ (by omega)]; exact hg r h z hz; rw [h]; exact hg2 z (by omega)⟩ (by show nG N - (k + 1) < nG N - k; omega)
    · skip
      have c17 := cv_nle (by omega) (by omega) c17
      refine lv_aload_n hx hb dX6_begin_20 rfl (lv_at hl 0 rfl) ?_
      refine va_get (D := G.1) (ci := 6) (v := .ref (a (i + 1))) (C := RX6) (T := TX6) (N := 1) hx hb hts inX6_begin_6 hown hK h_o 0 rfl rfl 0 (by decide) (hts (.fieldLink RX6 16 "GateLedger$Ticks" "bits" "LGateLedger$Row;") (List.mem_of_getElem? (i := 1) (by decide +kernel))) (fun _ h9 => h9) rfl dX6_begin_21 ?_
      refine lv_iload_n hx hb dX6_begin_24 rfl (lv_at hl 3 rfl) ?_
      refine lv_bipush (v := nI 16) hx hb dX6_begin_25 (by decide) ?_
      refine lv_imul hx hb dX6_begin_27 ?_
      refine lv_as (pk_mul _ _) ?_
      refine lv_iload hx hb dX6_begin_28 (lv_at hl 4 rfl) ?_
      refine lv_iadd hx hb dX6_begin_30 ?_
      refine lv_as (nI_add _ _) ?_
      refine lv_aload_n hx hb dX6_begin_31 rfl (lv_at hl 2 rfl) ?_
      refine lv_iload_n hx hb dX6_begin_32 rfl (lv_at hl 3 rfl) ?_
      refine ro_i (va_runV (As := [.int (nI k)]) (rest := [.int (nI ((k * 16) + u)), .ref (a (i + 1))]) FX (c_X1_bitOf l G a x w0 o0 k (by omega)) (cwV 1 hts gX6_begin_X1_bitOf rfl rfl rfl (by decide +kernel) ⟨Nat.le_of_ble_eq_true rfl, Nat.le_of_ble_eq_true rfl⟩) (preV hK hNW (ro hS h_lb hdb) (va_recv hK (ro hS h_lb hdb) (ci := 1) (q0 := 0) rfl rfl)) rfl rfl hl.1 rfl (lv_room (Nat.le_of_ble_eq_true rfl)) dX6_begin_33 ⟨Nat.le_of_ble_eq_true rfl, Nat.le_of_ble_eq_true rfl⟩) ?_
      refine lv_as (y := bi (b0 k)) (by rw [hw0 k c7]; exact low_lv) ?_
      refine wr_v (va_runV (As := [.int (nI ((k * 16) + u)), .int (bi (b0 k))]) (rest := []) FX (c_X4_put l G a ha (i + 1) 1920 g2 (nI ((k * 16) + u)) (bi (b0 k)) (by decide)) (cwV 2 hts gX6_begin_X4_put rfl rfl rfl (by decide +kernel) ⟨Nat.le_of_ble_eq_true rfl, Nat.le_of_ble_eq_true rfl⟩) (preV hK hNW h_b (va_recv hK h_b (ci := 4) (q0 := 0) rfl rfl)) rfl rfl hl.1 rfl (lv_room (Nat.le_of_ble_eq_true rfl)) dX6_begin_36 ⟨Nat.le_of_ble_eq_true rfl, Nat.le_of_ble_eq_true rfl⟩) hS (rng_sub (by omega)) (fun _ H locs _ hP9 hk3 hS => ?_)
      rw [rowPut_in (by omega) (by decide)] at hP9
      have h_b : PP G (rowW G a (i + 1) 1920 (upd g2 ((k * 16) + u) (bi (b0 k)))) H := hP9
      have h_o : PP G ([(a i, .inr (6, [.ref (a (i + 1))]))]) H := kp hk3 h_o (dj_cons (rng_no ha (by omega)) (dj_nil))
      refine lv_iinc (v := nI (u + 1)) (lv' := [(4, .int (nI (u + 1))), (0, .ref (a i)), (1, .ref (a j)), (2, .ref (a x)), (3, .int (nI k))]) hx hb dX6_begin_39 hl (k := 4) rfl (by first | exact nI_add _ 1 | decide) (by decide) rfl (fun ls hl => ?_)
      refine lv_goto (tgt := 13) hx hb dX6_begin_42 (by decide) ?_
      exact ih2 (u + 1) (upd g2 (k * 16 + u) (bi (b0 k))) _ _ _ ⟨h_o, h_b, hS, lv_sub hl [1, 2, 3, 4, 0] rfl, by omega, fun z hz => by rcases Nat.lt_succ_iff_lt_or_eq.mp hz with h | h; exact (pk_un (by omega)).trans (hg2 z h); rw [h]; exact pk_us, fun r hr => (pk_un (by omega)).trans (hg3 r hr)⟩ (by show 16 - (u + 1) < 16 - u; omega)
set_option maxRecDepth 20000 in
theorem inX6_run_6 : ∀ w ∈ u_ws RX6 TX6 1, w ∈ wsX6_run := by decide +kernel
set_option maxHeartbeats 4000000 in
set_option maxRecDepth 100000 in
/-- Ticks.run: one time -/
theorem c_X6_run (l : Launch) (G : GG) (a : Nat → Nat) (ha : Inj a) (i j h x tz : Nat) (f : Nat → Int32) (hij : i + 3 ≤ j ∨ j + 11 ≤ i) (hih : i + 3 ≤ h ∨ h + 2 ≤ i) (hix : i + 3 ≤ x ∨ x + 5 ≤ i) (hit : i + 3 ≤ tz ∨ tz + 1 ≤ i) (htj : tz + 1 ≤ j ∨ j + 11 ≤ tz) (hth : tz + 1 ≤ h ∨ h + 2 ≤ tz) (htx : tz + 1 ≤ x ∨ x + 5 ≤ tz) (N : NT) (hN : WF N) (dl : Nat → Nat) (hd : DL dl) (n0 n1 : Nat) (w1 o1 : Nat → Int64) (hw1 : ∀ r, r < nG N → w1 r = lv64 (bt N n1 r)) (now x1 y1 z1 : Nat) (hnow : now < 2 ^ 20) (hy : y1 ≤ now) (hw : WIN N dl n0 n1 now f) : Met l yX6_run wsX6_run ({ frames := 3, cells := 0, slots := 0, locals := 70 } : Room) (PcB G [.ref (a i), .ref (a j), .ref (a h), .ref (a x), .int (nI now), .ref (a tz)] (fun H => PP G (ticW G a i f) H ∧ PP G (talW a tz x1 y1 z1) H ∧ PP G (netW G a j N) H ∧ PP G (rowW G a h 4 (fun z => nI (dl z))) H ∧ PP G (lanW G a x w1 o1) H)) (QV (fun g : Nat → Int32 => WIN N dl n0 n1 (now + 1) g) (fun g H => PP G (ticW G a i g) H ∧ PP G (talW a tz (x1 + rX N dl n0 n1 now (nG N)) (rY N dl n0 n1 now y1 (nG N)) (z1 + rZ N dl n0 n1 now (nG N))) H) (orA (rng a i 3) (rng a tz 1))) 0 0 (orA (rng a i 3) (rng a tz 1)) := by
  refine Met.ofW (cc := cX6_run) (maxL := 10) (ret := none) (by decide) rfl ?_
  intro p e s m args below meth c s₁ B hml hv
  obtain ⟨rfl, hB, hK, hNW⟩ := hv
  have hx := B.exec
  have hb := B.bytes
  have hr := B.returns
  have hts := atoms_spec (ws := wsX6_run) B.pre
  have hown : s.vm.findClass RX6 = some m.cls := findClass_of_methodNamed B.named
  have hlocks := B.notSynchronized
  have FX : CallFix p m c cX6_run 10 s ([.ref (a i), .ref (a j), .ref (a h), .ref (a x), .int (nI now), .ref (a tz)] : List Value).toArray wsX6_run RX6 := ⟨hx, hb, hml, hown, hts⟩
  have hl := lv_entry ([.ref (a i), .ref (a j), .ref (a h), .ref (a x), .int (nI now), .ref (a tz)]) (n := 10) (Nat.le_of_ble_eq_true rfl)
  rw [lg_entry_eq]
  generalize (lg_sl ([.ref (a i), .ref (a j), .ref (a h), .ref (a x), .int (nI now), .ref (a tz)]) ++ List.replicate (10 - (lg_sl ([.ref (a i), .ref (a j), .ref (a h), .ref (a x), .int (nI now), .ref (a tz)])).length) Slot.unset).toArray = ls at hl ⊢
  have hl : lv_has ls 10 [(0, .ref (a i)), (1, .ref (a j)), (2, .ref (a h)), (3, .ref (a x)), (4, .int (nI now)), (5, .ref (a tz))] := hl
  obtain ⟨hB, h_tal, h_n, h_d, h_la⟩ := hB
  have h_o : PP G ([(a i, .inr (6, [.ref (a (i + 1))]))]) s.heap := P_app1 hB
  have h_b : PP G (rowW G a (i + 1) 1920 f) s.heap := P_app2 hB
  have hdn : dj (orA (rng a i 3) (rng a tz 1)) (netW G a j N) := dj_or (dj_rng ha netW_in (by omega)) (dj_rng ha netW_in (by omega))
  have hdd : dj (orA (rng a i 3) (rng a tz 1)) (rowW G a h 4 (fun z => nI (dl z))) := dj_or (dj_rng ha rowW_in (by omega)) (dj_rng ha rowW_in (by omega))
  have hda : dj (orA (rng a i 3) (rng a tz 1)) (lanW G a x w1 o1) := dj_or (dj_rng ha lanW_in (by omega)) (dj_rng ha lanW_in (by omega))
  have hg9 := hN.g
  have hS : va_S (orA (rng a i 3) (rng a tz 1)) s.heap s.heap [] := va_S.rf
  refine lv_iconst (v := nI 0) hx hb dX6_run_0 (by decide) ?_
  refine lv_istore (lv' := [(6, .int (nI 0)), (0, .ref (a i)), (1, .ref (a j)), (2, .ref (a h)), (3, .ref (a x)), (4, .int (nI now)), (5, .ref (a tz))]) hx hb dX6_run_1 hl (by decide) rfl (fun ls hl => ?_)
  refine lv_loop2 3 (fun (k : Nat) (g : Nat → Int32) => nG N - k) (fun (k : Nat) (g : Nat → Int32) (H : Heap) (locs : List Loc) (ls : Array Slot) => (PP G ([(a i, .inr (6, [.ref (a (i + 1))]))]) H) ∧ (PP G (rowW G a (i + 1) 1920 g) H) ∧ (PP G (talW a tz (x1 + rX N dl n0 n1 now k) (rY N dl n0 n1 now y1 k) (z1 + rZ N dl n0 n1 now k)) H) ∧ (va_S (orA (rng a i 3) (rng a tz 1)) s.heap H locs) ∧ (lv_has ls 10 [(0, .ref (a i)), (1, .ref (a j)), (2, .ref (a h)), (3, .ref (a x)), (4, .int (nI now)), (5, .ref (a tz)), (6, .int (nI k))]) ∧ (k ≤ nG N) ∧ (WIK N dl n0 n1 now k g)) (fun _ _ => []) (fun k g H locs ls hI ih => ?_) 0 f ⟨h_o, h_b, h_tal, hS, lv_sub hl [1, 2, 3, 4, 5, 6, 0] rfl, by omega, WIK_0 hw⟩ rfl
  obtain ⟨h_o, h_b, h_tal, hS, hl, hk, hg⟩ := hI
  have ih1 := @ih
  clear ih
  refine lv_iload hx hb dX6_run_3 (lv_at hl 6 rfl) ?_
  refine lv_aload_n hx hb dX6_run_5 rfl (lv_at hl 1 rfl) ?_
  refine ro_i (va_runV (As := []) (rest := [.int (nI k)]) FX (c_X3_size l G a j N) (cwV 0 hts gX6_run_X3_size rfl rfl rfl (by decide +kernel) ⟨Nat.le_of_ble_eq_true rfl, Nat.le_of_ble_eq_true rfl⟩) (preV hK hNW (ro hS h_n hdn) (va_recv hK (ro hS h_n hdn) (ci := 3) (q0 := 0) rfl rfl)) rfl rfl hl.1 rfl (lv_room (Nat.le_of_ble_eq_true rfl)) dX6_run_6 ⟨Nat.le_of_ble_eq_true rfl, Nat.le_of_ble_eq_true rfl⟩) ?_
  refine lv_icmp_ge (tgt := 138) hx hb dX6_run_9 (by decide) (fun c9 => ?_) (fun c9 => ?_)
  · skip
    have c9 := cv_le (by omega) (by omega) c9
    have ek : k = nG N := by omega
    exact en_wv g hx hb hr hlocks hS (WIK_e (ek ▸ hg)) (⟨P_app h_o h_b, ek ▸ h_tal⟩) dX6_run_138
  · skip
    have c9 := cv_nle (by omega) (by omega) c9
    have hk4 := hN.k c9
    have hyy := rY_le (N := N) (dl := dl) (n0 := n0) (n1 := n1) (y := y1) hy k
    refine lv_lab0 36 (fun (H : Heap) (locs : List Loc) (ls : Array Slot) => (PP G ([(a i, .inr (6, [.ref (a (i + 1))]))]) H) ∧ (PP G (rowW G a (i + 1) 1920 g) H) ∧ (PP G (talW a tz (x1 + rX N dl n0 n1 now k) (rY N dl n0 n1 now y1 k) (z1 + rZ N dl n0 n1 now k)) H) ∧ (va_S (orA (rng a i 3) (rng a tz 1)) s.heap H locs) ∧ (lv_has ls 10 [(0, .ref (a i)), (1, .ref (a j)), (2, .ref (a h)), (3, .ref (a x)), (4, .int (nI now)), (5, .ref (a tz)), (6, .int (nI k))])) ([.int (bI (¬ nT N k = -1 ∨ nK N k = 4))]) (fun H locs ls hI => ?_) (fun lab2 => ?_)
    · skip
      obtain ⟨h_o, h_b, h_tal, hS, hl⟩ := hI
      refine lv_lab0 76 (fun (H : Heap) (locs : List Loc) (ls : Array Slot) => (PP G ([(a i, .inr (6, [.ref (a (i + 1))]))]) H) ∧ (PP G (rowW G a (i + 1) 1920 g) H) ∧ (PP G (talW a tz (x1 + rX N dl n0 n1 now k) (rY N dl n0 n1 now y1 k) (z1 + rZ N dl n0 n1 now k)) H) ∧ (va_S (orA (rng a i 3) (rng a tz 1)) s.heap H locs) ∧ (lv_has ls 10 [(0, .ref (a i)), (1, .ref (a j)), (2, .ref (a h)), (3, .ref (a x)), (4, .int (nI now)), (5, .ref (a tz)), (6, .int (nI k))])) ([.int (bi (wv N dl n0 n1 k now))]) (fun H locs ls hI => ?_) (fun lab3 => ?_)
      · skip
        obtain ⟨h_o, h_b, h_tal, hS, hl⟩ := hI
        refine lv_lab0 116 (fun (H : Heap) (locs : List Loc) (ls : Array Slot) => (PP G ([(a i, .inr (6, [.ref (a (i + 1))]))]) H) ∧ (PP G (rowW G a (i + 1) 1920 g) H) ∧ (PP G (talW a tz (x1 + rX N dl n0 n1 now (k + 1)) (rY N dl n0 n1 now y1 (k + 1)) (z1 + rZ N dl n0 n1 now (k + 1))) H) ∧ (va_S (orA (rng a i 3) (rng a tz 1)) s.heap H locs) ∧ (lv_has ls 10 [(0, .ref (a i)), (1, .ref (a j)), (2, .ref (a h)), (3, .ref (a x)), (4, .int (nI now)), (5, .ref (a tz)), (6, .int (nI k)), (9, .int (bi (wv N dl n0 n1 k now)))])) ([]) (fun H locs ls hI => ?_) (fun lab4 => ?_)
        · skip
          obtain ⟨h_o, h_b, h_tal, hS, hl⟩ := hI
          refine lv_aload_n hx hb dX6_run_116 rfl (lv_at hl 0 rfl) ?_
          refine va_get (D := G.1) (ci := 6) (v := .ref (a (i + 1))) (C := RX6) (T := TX6) (N := 1) hx hb hts inX6_run_6 hown hK h_o 0 rfl rfl 0 (by decide) (hts (.fieldLink RX6 16 "GateLedger$Ticks" "bits" "LGateLedger$Row;") (List.mem_of_getElem? (i := 1) (by decide +kernel))) (fun _ h9 => h9) rfl dX6_run_117 ?_
          refine lv_iload hx hb dX6_run_120 (lv_at hl 6 rfl) ?_
          refine lv_iload hx hb dX6_run_122 (lv_at hl 4 rfl) ?_
          refine ro_i (va_runS (As := [.int (nI k), .int (nI now)]) (rest := [.ref (a (i + 1))]) FX (c_X6_cellOf l G k (now % 16) (nI now) (and15n now (by omega))) (va_cwS 2 hts gX6_run_X6_cellOf rfl rfl rfl (by decide +kernel) ⟨Nat.le_of_ble_eq_true rfl, Nat.le_of_ble_eq_true rfl⟩) (preS hK hNW trivial) rfl rfl hl.1 rfl (lv_room (Nat.le_of_ble_eq_true rfl)) dX6_run_124 ⟨Nat.le_of_ble_eq_true rfl, Nat.le_of_ble_eq_true rfl⟩) ?_
          refine lv_iload hx hb dX6_run_127 (lv_at hl 7 rfl) ?_
          refine wr_v (va_runV (As := [.int (nI (k * 16 + (now % 16))), .int (bi (wv N dl n0 n1 k now))]) (rest := []) FX (c_X4_put l G a ha (i + 1) 1920 g (nI (k * 16 + (now % 16))) (bi (wv N dl n0 n1 k now)) (by decide)) (cwV 2 hts gX6_run_X4_put rfl rfl rfl (by decide +kernel) ⟨Nat.le_of_ble_eq_true rfl, Nat.le_of_ble_eq_true rfl⟩) (preV hK hNW h_b (va_recv hK h_b (ci := 4) (q0 := 0) rfl rfl)) rfl rfl hl.1 rfl (lv_room (Nat.le_of_ble_eq_true rfl)) dX6_run_129 ⟨Nat.le_of_ble_eq_true rfl, Nat.le_of_ble_eq_true rfl⟩) hS (orA_l (rng_sub (by omega))) (fun _ H locs _ hP9 hk5 hS => ?_)
          rw [rowPut_in (by omega) (by decide)] at hP9
          have h_b : PP G (rowW G a (i + 1) 1920 (upd g (k * 16 + (now % 16)) (bi (wv N dl n0 n1 k now)))) H := hP9
          have h_o : PP G ([(a i, .inr (6, [.ref (a (i + 1))]))]) H := kp hk5 h_o (dj_cons (rng_no ha (by omega)) (dj_nil))
          have h_tal : PP G (talW a tz (x1 + rX N dl n0 n1 now (k + 1)) (rY N dl n0 n1 now y1 (k + 1)) (z1 + rZ N dl n0 n1 now (k + 1))) H := kp hk5 h_tal (dj_cons (rng_no ha (by omega)) (dj_nil))
          refine lv_iinc (v := nI (k + 1)) (lv' := [(6, .int (nI (k + 1))), (0, .ref (a i)), (1, .ref (a j)), (2, .ref (a h)), (3, .ref (a x)), (4, .int (nI now)), (5, .ref (a tz)), (9, .int (bi (wv N dl n0 n1 k now)))]) hx hb dX6_run_132 hl (k := 6) rfl (by first | exact nI_add _ 1 | decide) (by decide) rfl (fun ls hl => ?_)
          refine lv_goto (tgt := 3) hx hb dX6_run_135 (by decide) ?_
          exact ih1 (k + 1) (upd g (k * 16 + now % 16) (bi (wv N dl n0 n1 k now))) _ _ _ ⟨h_o, h_b, h_tal, hS, lv_sub hl [1, 2, 3, 4, 5, 6, 0] rfl, by omega, WIK_s hg c9⟩ (by show nG N - (k + 1) < nG N - k; omega)
        refine lv_istore (lv' := [(9, .int (bi (wv N dl n0 n1 k now))), (0, .ref (a i)), (1, .ref (a j)), (2, .ref (a h)), (3, .ref (a x)), (4, .int (nI now)), (5, .ref (a tz)), (6, .int (nI k))]) hx hb dX6_run_76 hl (by decide) rfl (fun ls hl => ?_)
        refine lv_iload hx hb dX6_run_78 (lv_at hl 0 rfl) ?_
        refine lv_aload_n hx hb dX6_run_80 rfl (lv_at hl 1 rfl) ?_
        refine lv_iload hx hb dX6_run_81 (lv_at hl 7 rfl) ?_
        refine lv_iload hx hb dX6_run_83 (lv_at hl 5 rfl) ?_
        refine lv_iconst (v := nI 1) hx hb dX6_run_85 (by decide) ?_
        refine lv_isub hx hb dX6_run_86 ?_
        refine ro_i (va_runV (As := [.int (nI k), .int ((nI now) - (nI 1))]) (rest := [.int (bi (wv N dl n0 n1 k now))]) FX (c_X6_bitAt l G a i g k ((now + 16 - 1) % 16) (nI now - nI 1) (and15 now 1 (by omega) (by omega)) (by omega) (by omega)) (cwV 2 hts gX6_run_X6_bitAt rfl rfl rfl (by decide +kernel) ⟨Nat.le_of_ble_eq_true rfl, Nat.le_of_ble_eq_true rfl⟩) (preV hK hNW (P_app h_o h_b) (va_recv hK h_o (ci := 6) (q0 := 0) rfl rfl)) rfl rfl hl.1 rfl (lv_room (Nat.le_of_ble_eq_true rfl)) dX6_run_87 ⟨Nat.le_of_ble_eq_true rfl, Nat.le_of_ble_eq_true rfl⟩) ?_
        refine lv_as (y := bi (wp N dl n0 n1 k now)) ((hg.2 k (Nat.le_refl _) c9 15 (by omega)).trans (by rw [w16_wp])) ?_
        refine lv_icmp_eq (tgt := 116) hx hb dX6_run_90 (by decide) (fun c90 => ?_) (fun c90 => ?_)
        · skip
          have c90 := bi_inj c90
          exact lab4  _ _ _ ⟨h_o, h_b, (by first | (have e9 := r_n (N := N) (dl := dl) (n0 := n0) (n1 := n1) (t := now) (x := x1) (y := y1) (z := z1) (k := k) (fun q => by first | exact q.2 c90 | exact q.1 c99); rw [e9.1, e9.2.1, e9.2.2]; exact h_tal) | (have e9 := r_y (N := N) (dl := dl) (n0 := n0) (n1 := n1) (t := now) (x := x1) (y := y1) (z := z1) (k := k) ⟨c99, c90⟩; rw [e9.1, e9.2.1, e9.2.2]; exact h_tal)), hS, lv_sub hl [1, 2, 3, 4, 5, 6, 7, 0] rfl⟩
        · skip
          have c90 := fun z => c90 (congrArg bi z)
          refine lv_aload_n hx hb dX6_run_93 rfl (lv_at hl 2 rfl) ?_
          refine lv_iload hx hb dX6_run_94 (lv_at hl 7 rfl) ?_
          refine ro_i (va_runV (As := [.int (nI k)]) (rest := []) FX (c_X3_isInput l G a j N hN k c9) (cwV 1 hts gX6_run_X3_isInput rfl rfl rfl (by decide +kernel) ⟨Nat.le_of_ble_eq_true rfl, Nat.le_of_ble_eq_true rfl⟩) (preV hK hNW (ro hS h_n hdn) (va_recv hK (ro hS h_n hdn) (ci := 3) (q0 := 0) rfl rfl)) rfl rfl hl.1 rfl (lv_room (Nat.le_of_ble_eq_true rfl)) dX6_run_96 ⟨Nat.le_of_ble_eq_true rfl, Nat.le_of_ble_eq_true rfl⟩) ?_
          refine lv_if_ne (tgt := 116) hx hb dX6_run_99 (by decide) (fun c99 => ?_) (fun c99 => ?_)
          · skip
            have c99 := bI_1 c99
            exact lab4  _ _ _ ⟨h_o, h_b, (by first | (have e9 := r_n (N := N) (dl := dl) (n0 := n0) (n1 := n1) (t := now) (x := x1) (y := y1) (z := z1) (k := k) (fun q => by first | exact q.2 c90 | exact q.1 c99); rw [e9.1, e9.2.1, e9.2.2]; exact h_tal) | (have e9 := r_y (N := N) (dl := dl) (n0 := n0) (n1 := n1) (t := now) (x := x1) (y := y1) (z := z1) (k := k) ⟨c99, c90⟩; rw [e9.1, e9.2.1, e9.2.2]; exact h_tal)), hS, lv_sub hl [1, 2, 3, 4, 5, 6, 7, 0] rfl⟩
          · skip
            have c99 := bI_0.mp c99
            refine lv_aload hx hb dX6_run_102 (lv_at hl 6 rfl) ?_
            refine lv_iconst (v := nI 1) hx hb dX6_run_104 (by decide) ?_
            refine lv_iload hx hb dX6_run_105 (lv_at hl 5 rfl) ?_
            refine lv_aload_n hx hb dX6_run_107 rfl (lv_at hl 2 rfl) ?_
            refine lv_iload hx hb dX6_run_108 (lv_at hl 7 rfl) ?_
            refine ro_i (va_runV (As := [.int (nI k)]) (rest := [.int (nI now), .int (nI 1), .ref (a tz)]) FX (c_X3_isOut l G a j N hN k c9) (cwV 1 hts gX6_run_X3_isOut rfl rfl rfl (by decide +kernel) ⟨Nat.le_of_ble_eq_true rfl, Nat.le_of_ble_eq_true rfl⟩) (preV hK hNW (ro hS h_n hdn) (va_recv hK (ro hS h_n hdn) (ci := 3) (q0 := 0) rfl rfl)) rfl rfl hl.1 rfl (lv_room (Nat.le_of_ble_eq_true rfl)) dX6_run_110 ⟨Nat.le_of_ble_eq_true rfl, Nat.le_of_ble_eq_true rfl⟩) ?_
            refine wr_v (va_runV (As := [.int (nI 1), .int (nI now), .int (bI (∃ r, r < nO N ∧ nU N r = k))]) (rest := []) FX (c_X5_add l G a ha tz (x1 + rX N dl n0 n1 now k) (rY N dl n0 n1 now y1 k) (z1 + rZ N dl n0 n1 now k) 1 now (∃ r, r < nO N ∧ nU N r = k) (by omega) (by omega)) (cwV 3 hts gX6_run_X5_add rfl rfl rfl (by decide +kernel) ⟨Nat.le_of_ble_eq_true rfl, Nat.le_of_ble_eq_true rfl⟩) (preV hK hNW h_tal (va_recv hK h_tal (ci := 5) (q0 := 0) rfl rfl)) rfl rfl hl.1 rfl (lv_room (Nat.le_of_ble_eq_true rfl)) dX6_run_113 ⟨Nat.le_of_ble_eq_true rfl, Nat.le_of_ble_eq_true rfl⟩) hS (orA_r (fun _ q => q)) (fun _ H locs _ hP9 hk7 hS => ?_)
            have h_tal : PP G (talW a tz (x1 + rX N dl n0 n1 now k + 1) (max (rY N dl n0 n1 now y1 k) now) (z1 + rZ N dl n0 n1 now k + if (∃ r, r < nO N ∧ nU N r = k) then 1 else 0)) H := hP9
            have h_o : PP G ([(a i, .inr (6, [.ref (a (i + 1))]))]) H := kp hk7 h_o (dj_cons (rng_no ha (by omega)) (dj_nil))
            have h_b : PP G (rowW G a (i + 1) 1920 g) H := kp hk7 h_b (dj_cons (rng_no ha (by omega)) (dj_cons (rng_no ha (by omega)) (dj_nil)))
            exact lab4  _ _ _ ⟨h_o, h_b, (by first | (have e9 := r_n (N := N) (dl := dl) (n0 := n0) (n1 := n1) (t := now) (x := x1) (y := y1) (z := z1) (k := k) (fun q => by first | exact q.2 c90 | exact q.1 c99); rw [e9.1, e9.2.1, e9.2.2]; exact h_tal) | (have e9 := r_y (N := N) (dl := dl) (n0 := n0) (n1 := n1) (t := now) (x := x1) (y := y1) (z := z1) (k := k) ⟨c99, c90⟩; rw [e9.1, e9.2.1, e9.2.2]; exact h_tal)), hS, lv_sub hl [1, 2, 3, 4, 5, 6, 7, 0] rfl⟩
      refine lv_istore (lv' := [(7, .int (bI (¬ nT N k = -1 ∨ nK N k = 4))), (0, .ref (a i)), (1, .ref (a j)), (2, .ref (a h)), (3, .ref (a x)), (4, .int (nI now)), (5, .ref (a tz)), (6, .int (nI k))]) hx hb dX6_run_36 hl (by decide) rfl (fun ls hl => ?_)
      refine lv_iload hx hb dX6_run_38 (lv_at hl 5 rfl) ?_
      refine lv_aload_n hx hb dX6_run_40 rfl (lv_at hl 3 rfl) ?_
      refine lv_aload_n hx hb dX6_run_41 rfl (lv_at hl 2 rfl) ?_
      refine lv_iload hx hb dX6_run_42 (lv_at hl 7 rfl) ?_
      refine ro_i (va_runV (As := [.int (nI k)]) (rest := [.ref (a h), .int (nI now)]) FX (c_X3_kindOf l G a j N hN k c9) (cwV 1 hts gX6_run_X3_kindOf rfl rfl rfl (by decide +kernel) ⟨Nat.le_of_ble_eq_true rfl, Nat.le_of_ble_eq_true rfl⟩) (preV hK hNW (ro hS h_n hdn) (va_recv hK (ro hS h_n hdn) (ci := 3) (q0 := 0) rfl rfl)) rfl rfl hl.1 rfl (lv_room (Nat.le_of_ble_eq_true rfl)) dX6_run_44 ⟨Nat.le_of_ble_eq_true rfl, Nat.le_of_ble_eq_true rfl⟩) ?_
      refine ro_i (va_runV (As := [.int (nI (nK N k))]) (rest := [.int (nI now)]) FX (c_X4_at l G a h 4 (fun z => nI (dl z)) (nI (nK N k)) (by decide)) (cwV 1 hts gX6_run_X4_at rfl rfl rfl (by decide +kernel) ⟨Nat.le_of_ble_eq_true rfl, Nat.le_of_ble_eq_true rfl⟩) (preV hK hNW (ro hS h_d hdd) (va_recv hK (ro hS h_d hdd) (ci := 4) (q0 := 0) rfl rfl)) rfl rfl hl.1 rfl (lv_room (Nat.le_of_ble_eq_true rfl)) dX6_run_47 ⟨Nat.le_of_ble_eq_true rfl, Nat.le_of_ble_eq_true rfl⟩) ?_
      refine lv_isub hx hb dX6_run_50 ?_
      refine lv_istore (lv' := [(8, .int ((nI now) - (rowAt 4 (fun z => nI (dl z)) (nI (nK N k))))), (7, .int (bI (¬ nT N k = -1 ∨ nK N k = 4))), (0, .ref (a i)), (1, .ref (a j)), (2, .ref (a h)), (3, .ref (a x)), (4, .int (nI now)), (5, .ref (a tz)), (6, .int (nI k))]) hx hb dX6_run_51 hl (by decide) rfl (fun ls hl => ?_)
      refine lv_iload hx hb dX6_run_53 (lv_at hl 1 rfl) ?_
      refine lv_if_eq (tgt := 67) hx hb dX6_run_55 (by decide) (fun c55 => ?_) (fun c55 => ?_)
      · skip
        have c55 := bI_0.mp c55
        have hn1 : nT N k = -1 := Decidable.not_not.mp (fun q => c55 (Or.inl q))
        have hn4 : ¬ nK N k = 4 := fun q => c55 (Or.inr q)
        have hfs := hN.fs c9 hn4
        have hd1 := hd (nK N k) (by omega)
        have e8 : rowAt 4 (fun z => nI (dl z)) (nI (nK N k)) = nI (dl (nK N k)) := rowAt_in (by omega) (by decide)
        rw [e8] at hl
        refine lv_aload_n hx hb dX6_run_67 rfl (lv_at hl 2 rfl) ?_
        refine lv_aload_n hx hb dX6_run_68 rfl (lv_at hl 3 rfl) ?_
        refine lv_iload hx hb dX6_run_69 (lv_at hl 8 rfl) ?_
        refine lv_iload hx hb dX6_run_71 (lv_at hl 0 rfl) ?_
        refine ro_i (va_runV (As := [.ref (a j), .int (nI k), .int (nI now - nI (dl (nK N k)))]) (rest := []) FX (c_X6_followingBit l G a i j g N hN k now (dl (nK N k)) (w16 N dl n0 n1 (nF N k) (now + 16 - (dl (nK N k)))) (w16 N dl n0 n1 (nS N k) (now + 16 - (dl (nK N k)))) c9 hn4 (by omega) (by omega) ⟨win hg.1 hfs.1 (by omega) (by omega), win hg.1 hfs.2 (by omega) (by omega)⟩) (cwV 3 hts gX6_run_X6_followingBit rfl rfl rfl (by decide +kernel) ⟨Nat.le_of_ble_eq_true rfl, Nat.le_of_ble_eq_true rfl⟩) (preV hK hNW (⟨P_app h_o h_b, (ro hS h_n hdn)⟩) (va_recv hK h_o (ci := 6) (q0 := 0) rfl rfl)) rfl rfl hl.1 rfl (lv_room (Nat.le_of_ble_eq_true rfl)) dX6_run_73 ⟨Nat.le_of_ble_eq_true rfl, Nat.le_of_ble_eq_true rfl⟩) ?_
        refine lv_as (y := bi (wv N dl n0 n1 k now)) (by rw [wv_w16 hN c9 hn1 hn4 (by omega)]) ?_
        exact lab3  _ _ _ ⟨h_o, h_b, h_tal, hS, lv_sub hl [2, 3, 4, 5, 6, 7, 8] rfl⟩
      · skip
        have c55 := bI_1 c55
        refine lv_aload_n hx hb dX6_run_58 rfl (lv_at hl 5 rfl) ?_
        refine lv_iload hx hb dX6_run_59 (lv_at hl 8 rfl) ?_
        refine ro_i (va_runV (As := [.int (nI k)]) (rest := []) FX (c_X1_bitOf l G a x w1 o1 k (by omega)) (cwV 1 hts gX6_run_X1_bitOf rfl rfl rfl (by decide +kernel) ⟨Nat.le_of_ble_eq_true rfl, Nat.le_of_ble_eq_true rfl⟩) (preV hK hNW (ro hS h_la hda) (va_recv hK (ro hS h_la hda) (ci := 1) (q0 := 0) rfl rfl)) rfl rfl hl.1 rfl (lv_room (Nat.le_of_ble_eq_true rfl)) dX6_run_61 ⟨Nat.le_of_ble_eq_true rfl, Nat.le_of_ble_eq_true rfl⟩) ?_
        refine lv_as (y := bi (wv N dl n0 n1 k now)) (by rw [hw1 k c9, wv_giv c55]; exact low_lv) ?_
        refine lv_goto (tgt := 76) hx hb dX6_run_64 (by decide) ?_
        exact lab3  _ _ _ ⟨h_o, h_b, h_tal, hS, lv_sub hl [2, 3, 4, 5, 6, 7, 8] rfl⟩
    refine lv_aload_n hx hb dX6_run_12 rfl (lv_at hl 1 rfl) ?_
    refine lv_iload hx hb dX6_run_13 (lv_at hl 6 rfl) ?_
    refine ro_i (va_runV (As := [.int (nI k)]) (rest := []) FX (c_X3_isInput l G a j N hN k c9) (cwV 1 hts gX6_run_X3_isInput rfl rfl rfl (by decide +kernel) ⟨Nat.le_of_ble_eq_true rfl, Nat.le_of_ble_eq_true rfl⟩) (preV hK hNW (ro hS h_n hdn) (va_recv hK (ro hS h_n hdn) (ci := 3) (q0 := 0) rfl rfl)) rfl rfl hl.1 rfl (lv_room (Nat.le_of_ble_eq_true rfl)) dX6_run_15 ⟨Nat.le_of_ble_eq_true rfl, Nat.le_of_ble_eq_true rfl⟩) ?_
    refine lv_if_ne (tgt := 31) hx hb dX6_run_18 (by decide) (fun c18 => ?_) (fun c18 => ?_)
    · skip
      have c18 := bI_1 c18
      refine lv_iconst (v := nI 1) hx hb dX6_run_31 (by decide) ?_
      refine lv_as (y := bI (¬ nT N k = -1 ∨ nK N k = 4)) (bI_t (by first | exact Or.inr c18 | exact Or.inl c28)) ?_
      refine lv_goto (tgt := 36) hx hb dX6_run_32 (by decide) ?_
      exact lab2  _ _ _ ⟨h_o, h_b, h_tal, hS, lv_sub hl [0, 1, 2, 3, 4, 5, 6] rfl⟩
    · skip
      have c18 := bI_0.mp c18
      refine lv_aload_n hx hb dX6_run_21 rfl (lv_at hl 1 rfl) ?_
      refine lv_iload hx hb dX6_run_22 (lv_at hl 6 rfl) ?_
      refine ro_i (va_runV (As := [.int (nI k)]) (rest := []) FX (c_X3_stuckBitOf l G a j N hN k c9) (cwV 1 hts gX6_run_X3_stuckBitOf rfl rfl rfl (by decide +kernel) ⟨Nat.le_of_ble_eq_true rfl, Nat.le_of_ble_eq_true rfl⟩) (preV hK hNW (ro hS h_n hdn) (va_recv hK (ro hS h_n hdn) (ci := 3) (q0 := 0) rfl rfl)) rfl rfl hl.1 rfl (lv_room (Nat.le_of_ble_eq_true rfl)) dX6_run_24 ⟨Nat.le_of_ble_eq_true rfl, Nat.le_of_ble_eq_true rfl⟩) ?_
      refine lv_iconst (v := -1) hx hb dX6_run_27 (by decide) ?_
      refine lv_icmp_eq (tgt := 35) hx hb dX6_run_28 (by decide) (fun c28 => ?_) (fun c28 => ?_)
      · skip
        refine lv_iconst (v := nI 0) hx hb dX6_run_35 (by decide) ?_
        refine lv_as (y := bI (¬ nT N k = -1 ∨ nK N k = 4)) (bI_f (fun q => q.elim (fun z => z c28) c18)) ?_
        exact lab2  _ _ _ ⟨h_o, h_b, h_tal, hS, lv_sub hl [0, 1, 2, 3, 4, 5, 6] rfl⟩
      · skip
        refine lv_iconst (v := nI 1) hx hb dX6_run_31 (by decide) ?_
        refine lv_as (y := bI (¬ nT N k = -1 ∨ nK N k = 4)) (bI_t (by first | exact Or.inr c18 | exact Or.inl c28)) ?_
        refine lv_goto (tgt := 36) hx hb dX6_run_32 (by decide) ?_
        exact lab2  _ _ _ ⟨h_o, h_b, h_tal, hS, lv_sub hl [0, 1, 2, 3, 4, 5, 6] rfl⟩
