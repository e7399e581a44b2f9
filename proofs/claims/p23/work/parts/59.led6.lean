set_option maxRecDepth 20000 in
theorem inX11_prepareTransition_11 : ∀ w ∈ u_ws RX11 TX11 12, w ∈ wsX11_prepareTransition := by decide +kernel
set_option maxHeartbeats 4000000 in
set_option maxRecDepth 100000 in
/-- prepareTransition -/
theorem c_X11_prepareTransition (l : Launch) (G : GG) (a : Nat → Nat) (ha : Inj a) (t9 : Nat) (Ns : Nat → NT) (p9 : Int32) (hN : WF (Ns (ix p9))) (dl : Nat → Nat) (hd : DL dl) (x0 : Int32) (f0 : Nat → Int32) (w0 o0 w1 o1 : Nat → Int64) (x1 y1 z1 : Nat) (f9 v9 : Nat) (hf : f9 < 2 ^ 31) (hv9 : v9 < 2 ^ 31)  : Met l yX11_prepareTransition wsX11_prepareTransition ({ frames := 4, cells := 0, slots := 0, locals := 92 } : Room) (PcL G a t9 [.ref (a 0), .ref (a (49 + 11 * ix p9)), .int (nI f9), .int (nI v9)] (fun H => PP G ([(a 0, .inr (11, [.ref (a 1), .ref (a 2), .ref (a 4), .ref (a 6), .ref (a 21), .ref (a 28), .ref (a 31), .ref (a 36), .ref (a 41), .ref (a 42), .ref (a 45), .ref (a 48)]))]) H ∧ PP G (rowW G a 2 4 (fun z => nI (dl z))) H ∧ PP G (timW G a 28 x0 f0) H ∧ PP G (lanW G a 31 w0 o0) H ∧ PP G (lanW G a 36 w1 o1) H ∧ PP G (talW a 41 x1 y1 z1) H ∧ PP G (netW G a (49 + 11 * ix p9) (Ns (ix p9))) H)) (QV (fun u : (Nat → Int32) × ((Nat → Int64) × (Nat → Int64)) × ((Nat → Int64) × (Nat → Int64)) => (∀ r, r < nG (Ns (ix p9)) → u.1 r = nI (tm (Ns (ix p9)) dl r)) ∧ (∀ r, r < nG (Ns (ix p9)) → u.2.1.1 r = lv64 (bt (Ns (ix p9)) f9 r)) ∧ (∀ r, r < nG (Ns (ix p9)) → u.2.2.1 r = lv64 (bt (Ns (ix p9)) v9 r))) (fun u H => PP G (timW G a 28 (nI (mxT (Ns (ix p9)) dl (nG (Ns (ix p9))))) u.1) H ∧ PP G (lanW G a 31 u.2.1.1 u.2.1.2) H ∧ PP G (lanW G a 36 u.2.2.1 u.2.2.2) H ∧ PP G (talW a 41 0 0 0) H) (rng a 28 14)) 0 0 (rng a 28 14) := by
  refine Met.ofW (cc := cX11_prepareTransition) (maxL := 4) (ret := none) (by decide) rfl ?_
  intro p e s m args below meth c s₁ B hml hv
  obtain ⟨⟨rfl, hB, hK, hNW⟩, hLow⟩ := hv
  have hx := B.exec
  have hb := B.bytes
  have hr := B.returns
  have hts := atoms_spec (ws := wsX11_prepareTransition) B.pre
  have hown : s.vm.findClass RX11 = some m.cls := findClass_of_methodNamed B.named
  have hlocks := B.notSynchronized
  have FX : CallFix p m c cX11_prepareTransition 4 s ([.ref (a 0), .ref (a (49 + 11 * ix p9)), .int (nI f9), .int (nI v9)] : List Value).toArray wsX11_prepareTransition RX11 := ⟨hx, hb, hml, hown, hts⟩
  have hl := lv_entry ([.ref (a 0), .ref (a (49 + 11 * ix p9)), .int (nI f9), .int (nI v9)]) (n := 4) (Nat.le_of_ble_eq_true rfl)
  rw [lg_entry_eq]
  generalize (lg_sl ([.ref (a 0), .ref (a (49 + 11 * ix p9)), .int (nI f9), .int (nI v9)]) ++ List.replicate (4 - (lg_sl ([.ref (a 0), .ref (a (49 + 11 * ix p9)), .int (nI f9), .int (nI v9)])).length) Slot.unset).toArray = ls at hl ⊢
  have hl : lv_has ls 4 [(0, .ref (a 0)), (1, .ref (a (49 + 11 * ix p9))), (2, .int (nI f9)), (3, .int (nI v9))] := hl
  obtain ⟨h_g, h_d, h_t, h_l, h_l2, h_ta, h_n⟩ := hB
  have hS : va_S (rng a 28 14) s.heap s.heap [] := va_S.rf
  refine lv_aload_n hx hb dX11_prepareTransition_0 rfl (lv_at hl 0 rfl) ?_
  refine va_get (D := G.1) (ci := 11) (v := .ref (a 28)) (C := RX11) (T := TX11) (N := 12) hx hb hts inX11_prepareTransition_11 hown hK (ro hS h_g (dj_cons (rng_no ha (by omega)) dj_nil)) 0 rfl rfl 5 (by decide) (hts (.fieldLink RX11 44 "GateLedger" "timing" "LGateLedger$Timing;") (List.mem_of_getElem? (i := 1) (by decide +kernel))) (fun _ h9 => h9) rfl dX11_prepareTransition_1 ?_
  refine lv_aload_n hx hb dX11_prepareTransition_4 rfl (lv_at hl 1 rfl) ?_
  refine lv_aload_n hx hb dX11_prepareTransition_5 rfl (lv_at hl 0 rfl) ?_
  refine va_get (D := G.1) (ci := 11) (v := .ref (a 2)) (C := RX11) (T := TX11) (N := 12) hx hb hts inX11_prepareTransition_11 hown hK (ro hS h_g (dj_cons (rng_no ha (by omega)) dj_nil)) 0 rfl rfl 1 (by decide) (hts (.fieldLink RX11 20 "GateLedger" "delays" "LGateLedger$Row;") (List.mem_of_getElem? (i := 2) (by decide +kernel))) (fun _ h9 => h9) rfl dX11_prepareTransition_6 ?_
  refine wr_v (va_runV (As := [.ref (a (49 + 11 * ix p9)), .ref (a 2)]) (rest := []) FX (c_X7_measure l G a ha 28 (49 + 11 * ix p9) 2 (by omega) (by omega) (Ns (ix p9)) hN dl hd x0 f0) (cwV 2 hts gX11_prepareTransition_X7_measure rfl rfl rfl (by decide +kernel) ⟨Nat.le_of_ble_eq_true rfl, Nat.le_of_ble_eq_true rfl⟩) (preV hK hNW (⟨h_t, (ro hS h_n (dj_rng ha netW_in (by omega))), (ro hS h_d (dj_rng ha rowW_in (by omega)))⟩) (va_recv hK h_t (ci := 7) (q0 := 0) rfl rfl)) rfl rfl hl.1 rfl (lv_room (Nat.le_of_ble_eq_true rfl)) dX11_prepareTransition_9 ⟨Nat.le_of_ble_eq_true rfl, Nat.le_of_ble_eq_true rfl⟩) hS (rng_sub (by omega)) (fun f7 H locs hf7 hP9 hk1 hS => ?_)
  have h_t : PP G (timW G a 28 (nI (mxT (Ns (ix p9)) dl (nG (Ns (ix p9))))) f7) H := hP9
  have h_l : PP G (lanW G a 31 w0 o0) H := kp hk1 h_l (dj_rng ha (lanW_in (G := G) (a := a) (i := 31) (w := w0) (o := o0)) (by omega))
  have h_l2 : PP G (lanW G a 36 w1 o1) H := kp hk1 h_l2 (dj_rng ha (lanW_in (G := G) (a := a) (i := 36) (w := w1) (o := o1)) (by omega))
  have h_ta : PP G (talW a 41 x1 y1 z1) H := kp hk1 h_ta (dj_rng ha (talW_in (a := a) (i := 41) (x := x1) (y := y1) (z := z1)) (by omega))
  refine lv_aload_n hx hb dX11_prepareTransition_12 rfl (lv_at hl 0 rfl) ?_
  refine va_get (D := G.1) (ci := 11) (v := .ref (a 31)) (C := RX11) (T := TX11) (N := 12) hx hb hts inX11_prepareTransition_11 hown hK (ro hS h_g (dj_cons (rng_no ha (by omega)) dj_nil)) 0 rfl rfl 6 (by decide) (hts (.fieldLink RX11 51 "GateLedger" "lanes" "LGateLedger$Lanes;") (List.mem_of_getElem? (i := 3) (by decide +kernel))) (fun _ h9 => h9) rfl dX11_prepareTransition_13 ?_
  refine lv_aload_n hx hb dX11_prepareTransition_16 rfl (lv_at hl 1 rfl) ?_
  refine lv_iload_n hx hb dX11_prepareTransition_17 rfl (lv_at hl 2 rfl) ?_
  refine wr_v (va_runV (As := [.ref (a (49 + 11 * ix p9)), .int (nI f9)]) (rest := []) FX (c_X1_fillForOne l G a ha 31 (49 + 11 * ix p9) t9 (by omega) w0 o0 (Ns (ix p9)) hN (f9)) (cwV 2 hts gX11_prepareTransition_X1_fillForOne rfl rfl rfl (by decide +kernel) ⟨Nat.le_of_ble_eq_true rfl, Nat.le_of_ble_eq_true rfl⟩) (preVL hK hNW (⟨h_l, (ro hS h_n (dj_rng ha netW_in (by omega)))⟩) (hLow.at hS (fun q9 _ q => rng_M q9 q)) (va_recv hK h_l (ci := 1) (q0 := 0) rfl rfl)) rfl rfl hl.1 rfl (lv_room (Nat.le_of_ble_eq_true rfl)) dX11_prepareTransition_18 ⟨Nat.le_of_ble_eq_true rfl, Nat.le_of_ble_eq_true rfl⟩) hS (rng_sub (by omega)) (fun v8 H locs hv8 hP9 hk3 hS => ?_)
  have h_l : PP G (lanW G a 31 v8.1 v8.2) H := hP9
  have h_t : PP G (timW G a 28 (nI (mxT (Ns (ix p9)) dl (nG (Ns (ix p9))))) f7) H := kp hk3 h_t (dj_rng ha (timW_in (G := G) (a := a) (i := 28) (x := (nI (mxT (Ns (ix p9)) dl (nG (Ns (ix p9)))))) (f := f7)) (by omega))
  have h_l2 : PP G (lanW G a 36 w1 o1) H := kp hk3 h_l2 (dj_rng ha (lanW_in (G := G) (a := a) (i := 36) (w := w1) (o := o1)) (by omega))
  have h_ta : PP G (talW a 41 x1 y1 z1) H := kp hk3 h_ta (dj_rng ha (talW_in (a := a) (i := 41) (x := x1) (y := y1) (z := z1)) (by omega))
  refine lv_aload_n hx hb dX11_prepareTransition_21 rfl (lv_at hl 0 rfl) ?_
  refine va_get (D := G.1) (ci := 11) (v := .ref (a 36)) (C := RX11) (T := TX11) (N := 12) hx hb hts inX11_prepareTransition_11 hown hK (ro hS h_g (dj_cons (rng_no ha (by omega)) dj_nil)) 0 rfl rfl 7 (by decide) (hts (.fieldLink RX11 55 "GateLedger" "otherLanes" "LGateLedger$Lanes;") (List.mem_of_getElem? (i := 4) (by decide +kernel))) (fun _ h9 => h9) rfl dX11_prepareTransition_22 ?_
  refine lv_aload_n hx hb dX11_prepareTransition_25 rfl (lv_at hl 1 rfl) ?_
  refine lv_iload_n hx hb dX11_prepareTransition_26 rfl (lv_at hl 3 rfl) ?_
  refine wr_v (va_runV (As := [.ref (a (49 + 11 * ix p9)), .int (nI v9)]) (rest := []) FX (c_X1_fillForOne l G a ha 36 (49 + 11 * ix p9) t9 (by omega) w1 o1 (Ns (ix p9)) hN (v9)) (cwV 2 hts gX11_prepareTransition_X1_fillForOne rfl rfl rfl (by decide +kernel) ⟨Nat.le_of_ble_eq_true rfl, Nat.le_of_ble_eq_true rfl⟩) (preVL hK hNW (⟨h_l2, (ro hS h_n (dj_rng ha netW_in (by omega)))⟩) (hLow.at hS (fun q9 _ q => rng_M q9 q)) (va_recv hK h_l2 (ci := 1) (q0 := 0) rfl rfl)) rfl rfl hl.1 rfl (lv_room (Nat.le_of_ble_eq_true rfl)) dX11_prepareTransition_27 ⟨Nat.le_of_ble_eq_true rfl, Nat.le_of_ble_eq_true rfl⟩) hS (rng_sub (by omega)) (fun w8 H locs hw8 hP9 hk5 hS => ?_)
  have h_l2 : PP G (lanW G a 36 w8.1 w8.2) H := hP9
  have h_t : PP G (timW G a 28 (nI (mxT (Ns (ix p9)) dl (nG (Ns (ix p9))))) f7) H := kp hk5 h_t (dj_rng ha (timW_in (G := G) (a := a) (i := 28) (x := (nI (mxT (Ns (ix p9)) dl (nG (Ns (ix p9)))))) (f := f7)) (by omega))
  have h_l : PP G (lanW G a 31 v8.1 v8.2) H := kp hk5 h_l (dj_rng ha (lanW_in (G := G) (a := a) (i := 31) (w := v8.1) (o := v8.2)) (by omega))
  have h_ta : PP G (talW a 41 x1 y1 z1) H := kp hk5 h_ta (dj_rng ha (talW_in (a := a) (i := 41) (x := x1) (y := y1) (z := z1)) (by omega))
  refine lv_aload_n hx hb dX11_prepareTransition_30 rfl (lv_at hl 0 rfl) ?_
  refine va_get (D := G.1) (ci := 11) (v := .ref (a 41)) (C := RX11) (T := TX11) (N := 12) hx hb hts inX11_prepareTransition_11 hown hK (ro hS h_g (dj_cons (rng_no ha (by omega)) dj_nil)) 0 rfl rfl 8 (by decide) (hts (.fieldLink RX11 61 "GateLedger" "tally" "LGateLedger$Tally;") (List.mem_of_getElem? (i := 5) (by decide +kernel))) (fun _ h9 => h9) rfl dX11_prepareTransition_31 ?_
  refine wr_v (va_runV (As := []) (rest := []) FX (c_X5_begin l G a ha 41 x1 y1 z1) (cwV 0 hts gX11_prepareTransition_X5_begin rfl rfl rfl (by decide +kernel) ⟨Nat.le_of_ble_eq_true rfl, Nat.le_of_ble_eq_true rfl⟩) (preV hK hNW h_ta (va_recv hK h_ta (ci := 5) (q0 := 0) rfl rfl)) rfl rfl hl.1 rfl (lv_room (Nat.le_of_ble_eq_true rfl)) dX11_prepareTransition_34 ⟨Nat.le_of_ble_eq_true rfl, Nat.le_of_ble_eq_true rfl⟩) hS (rng_sub (by omega)) (fun _ H locs _ hP9 hk7 hS => ?_)
  have h_ta : PP G (talW a 41 0 0 0) H := hP9
  have h_t : PP G (timW G a 28 (nI (mxT (Ns (ix p9)) dl (nG (Ns (ix p9))))) f7) H := kp hk7 h_t (dj_rng ha (timW_in (G := G) (a := a) (i := 28) (x := (nI (mxT (Ns (ix p9)) dl (nG (Ns (ix p9)))))) (f := f7)) (by omega))
  have h_l : PP G (lanW G a 31 v8.1 v8.2) H := kp hk7 h_l (dj_rng ha (lanW_in (G := G) (a := a) (i := 31) (w := v8.1) (o := v8.2)) (by omega))
  have h_l2 : PP G (lanW G a 36 w8.1 w8.2) H := kp hk7 h_l2 (dj_rng ha (lanW_in (G := G) (a := a) (i := 36) (w := w8.1) (o := w8.2)) (by omega))
  exact en_wv (f7, v8, w8) hx hb hr hlocks hS (⟨hf7, fun r h => (hv8.1 r h).trans (fw_one hN hf h), fun r h => (hw8.1 r h).trans (fw_one hN hv9 h)⟩) (⟨h_t, h_l, h_l2, h_ta⟩) dX11_prepareTransition_37
set_option maxRecDepth 20000 in
theorem inX11_changes_11 : ∀ w ∈ u_ws RX11 TX11 12, w ∈ wsX11_changes := by decide +kernel
set_option maxHeartbeats 4000000 in
set_option maxRecDepth 100000 in
/-- changes -/
theorem c_X11_changes (l : Launch) (hfl : l.stackTraces = false) (G : GG) (a : Nat → Nat) (ha : Inj a) (t9 : Nat) (Ns : Nat → NT) (dl : Nat → Nat) (hd : DL dl) (x0 : Int32) (f0 : Nat → Int32) (w0 o0 w1 o1 : Nat → Int64) (x1 y1 z1 : Nat) (u0 : Int32) (g0 : Nat → Int64) (p9 f9 v9 w9 : Int32) (hW : ∀ z, z < 4 → WF (Ns z))  : vx_Met l yX11_changes wsX11_changes ({ frames := 8, cells := 4, slots := 24, locals := 126 } : Room) (PcX G a t9 [.ref (a 0), .int p9, .int f9, .int v9, .int w9] (fun H => PP G ([(a 0, .inr (11, [.ref (a 1), .ref (a 2), .ref (a 4), .ref (a 6), .ref (a 21), .ref (a 28), .ref (a 31), .ref (a 36), .ref (a 41), .ref (a 42), .ref (a 45), .ref (a 48)]))]) H ∧ PP G ([(a 1, .inl (gQ G, 4, .inr (.inr (.inr (.inr (fun z => some (a (49 + 11 * z))))))))]) H ∧ PP G (rowW G a 2 4 (fun z => nI (dl z))) H ∧ PP G (timW G a 28 x0 f0) H ∧ PP G (lanW G a 31 w0 o0) H ∧ PP G (lanW G a 36 w1 o1) H ∧ PP G (talW a 41 x1 y1 z1) H ∧ PP G (wavW G a 42 u0 g0) H ∧ NSP G a Ns H)) (QI (fun (r : Int32) (u : ((Nat → Int32) × ((Nat → Int64) × (Nat → Int64)) × ((Nat → Int64) × (Nat → Int64))) × (Nat → Int64) × Nat × Nat × Nat) => cCh p9 f9 v9 w9 = 0 ∧ (∀ z, z < nG (Ns (ix p9)) → u.1.2.1.1 z = lv64 (bt (Ns (ix p9)) (ix f9) z)) ∧ (∀ z, z < nG (Ns (ix p9)) → u.1.2.2.1 z = lv64 (bt (Ns (ix p9)) (ix v9) z)) ∧ (∀ z, z < nG (Ns (ix p9)) → SEG (Ns (ix p9)) dl u.1.2.1.1 u.1.2.2.1 (min 17 (mxT (Ns (ix p9)) dl (nG (Ns (ix p9))) / 64 + 1)) u.2.1 z) ∧ r = nI (chW (Ns (ix p9)) u.2.1 u.1.2.1.1 (min 17 (mxT (Ns (ix p9)) dl (nG (Ns (ix p9))) / 64 + 1)) (ix w9))) (fun u H => PP G ([(a 0, .inr (11, [.ref (a 1), .ref (a 2), .ref (a 4), .ref (a 6), .ref (a 21), .ref (a 28), .ref (a 31), .ref (a 36), .ref (a 41), .ref (a 42), .ref (a 45), .ref (a 48)]))]) H ∧ PP G ([(a 1, .inl (gQ G, 4, .inr (.inr (.inr (.inr (fun z => some (a (49 + 11 * z))))))))]) H ∧ PP G (rowW G a 2 4 (fun z => nI (dl z))) H ∧ PP G (timW G a 28 (nI (mxT (Ns (ix p9)) dl (nG (Ns (ix p9))))) u.1.1) H ∧ PP G (lanW G a 31 u.1.2.1.1 u.1.2.1.2) H ∧ PP G (lanW G a 36 u.1.2.2.1 u.1.2.2.2) H ∧ PP G (talW a 41 u.2.2.1 u.2.2.2.1 u.2.2.2.2) H ∧ PP G (wavW G a 42 (nI (min 17 (mxT (Ns (ix p9)) dl (nG (Ns (ix p9))) / 64 + 1))) u.2.1) H ∧ NSP G a Ns H) (rng a 28 17)) (XQ (XE (cCh p9 f9 v9 w9)) (fun H => PP G ([(a 0, .inr (11, [.ref (a 1), .ref (a 2), .ref (a 4), .ref (a 6), .ref (a 21), .ref (a 28), .ref (a 31), .ref (a 36), .ref (a 41), .ref (a 42), .ref (a 45), .ref (a 48)]))]) H ∧ PP G ([(a 1, .inl (gQ G, 4, .inr (.inr (.inr (.inr (fun z => some (a (49 + 11 * z))))))))]) H ∧ PP G (rowW G a 2 4 (fun z => nI (dl z))) H ∧ PP G (timW G a 28 x0 f0) H ∧ PP G (lanW G a 31 w0 o0) H ∧ PP G (lanW G a 36 w1 o1) H ∧ PP G (talW a 41 x1 y1 z1) H ∧ PP G (wavW G a 42 u0 g0) H ∧ NSP G a Ns H) (rng a 28 17)) 4 24 (rng a 28 17) := by
  refine vx_ofW (cc := cX11_changes) (maxL := 6) (ret := (some .int)) (by decide) rfl ?_
  intro p e s m args below meth c s₁ B hml htab hv
  obtain ⟨⟨⟨rfl, hB, hK, hNW⟩, hLow⟩, hX⟩ := hv
  have hx := B.exec
  have hb := B.bytes
  have hr := B.returns
  have hts := atoms_spec (ws := wsX11_changes) B.pre
  have hown : s.vm.findClass RX11 = some m.cls := findClass_of_methodNamed B.named
  have hlocks := B.notSynchronized
  have FX : CallFix p m c cX11_changes 6 s ([.ref (a 0), .int p9, .int f9, .int v9, .int w9] : List Value).toArray wsX11_changes RX11 := ⟨hx, hb, hml, hown, hts⟩
  have hl := lv_entry ([.ref (a 0), .int p9, .int f9, .int v9, .int w9]) (n := 6) (Nat.le_of_ble_eq_true rfl)
  rw [lg_entry_eq]
  generalize (lg_sl ([.ref (a 0), .int p9, .int f9, .int v9, .int w9]) ++ List.replicate (6 - (lg_sl ([.ref (a 0), .int p9, .int f9, .int v9, .int w9])).length) Slot.unset).toArray = ls at hl ⊢
  have hl : lv_has ls 6 [(0, .ref (a 0)), (1, .int p9), (2, .int f9), (3, .int v9), (4, .int w9)] := hl
  obtain ⟨h_g, h_arr, h_d, h_t, h_l, h_l2, h_ta, h_wv, hns⟩ := hB
  have hS : va_S (rng a 28 17) s.heap s.heap [] := va_S.rf
  refine lv_aload_n hx hb dX11_changes_0 rfl (lv_at hl 0 rfl) ?_
  refine lv_iload_n hx hb dX11_changes_1 rfl (lv_at hl 1 rfl) ?_
  refine xcr (vx_runV (As := [.int p9]) (rest := []) FX (c_X11_netAt l hfl G a ha t9 p9) (cwV 1 hts gX11_changes_X11_netAt rfl rfl rfl (by decide +kernel) ⟨Nat.le_of_ble_eq_true rfl, Nat.le_of_ble_eq_true rfl⟩) (preVX hK hNW (⟨h_g, h_arr⟩) (hLow.at hS (fun q9 _ q => rng_M q9 q)) (hX.at hS (fun q9 _ q => rng_M q9 q)) (va_recv hK h_g (ci := 11) (q0 := 0) rfl rfl)) rfl rfl hl.1 rfl (lv_room (Nat.le_of_ble_eq_true rfl)) dX11_changes_2 ⟨Nat.le_of_ble_eq_true rfl, Nat.le_of_ble_eq_true rfl⟩) hS htab hlocks (fun H1 hk9 => ⟨kpF hk9 h_g, kpF hk9 h_arr, kpF hk9 h_d, kpF hk9 h_t, kpF hk9 h_l, kpF hk9 h_l2, kpF hk9 h_ta, kpF hk9 h_wv, fun z hz => kpF hk9 (hns z hz)⟩) (fun E hE9 => XE_1 hE9.1 (if_neg hE9.2)) (Nat.le_of_ble_eq_true rfl) (Nat.le_of_ble_eq_true rfl) (fun _ hc0 H locs hk1 hS => ?_)
  have h_g : PP G ([(a 0, .inr (11, [.ref (a 1), .ref (a 2), .ref (a 4), .ref (a 6), .ref (a 21), .ref (a 28), .ref (a 31), .ref (a 36), .ref (a 41), .ref (a 42), .ref (a 45), .ref (a 48)]))]) H := kpF hk1 h_g
  have h_arr : PP G ([(a 1, .inl (gQ G, 4, .inr (.inr (.inr (.inr (fun z => some (a (49 + 11 * z))))))))]) H := kpF hk1 h_arr
  have h_d : PP G (rowW G a 2 4 (fun z => nI (dl z))) H := kpF hk1 h_d
  have h_t : PP G (timW G a 28 x0 f0) H := kpF hk1 h_t
  have h_l : PP G (lanW G a 31 w0 o0) H := kpF hk1 h_l
  have h_l2 : PP G (lanW G a 36 w1 o1) H := kpF hk1 h_l2
  have h_ta : PP G (talW a 41 x1 y1 z1) H := kpF hk1 h_ta
  have h_wv : PP G (wavW G a 42 u0 g0) H := kpF hk1 h_wv
  have hns : NSP G a Ns H := fun z hz => kpF hk1 (hns z hz)
  have hk4 := ix_lt hc0 (by omega)
  have h_f : PP G (famW G a Ns (ix p9)) H := fam_split hns
  have h_n : PP G (netW G a (49 + 11 * ix p9) (Ns (ix p9))) H := hns _ hk4
  have hN := hW _ hk4
  have hg9 := hN.g
  have ho9 := hN.o
  have hi9 := hN.2.1
  refine lv_astore (lv' := [(5, .ref (a (49 + 11 * ix p9))), (0, .ref (a 0)), (1, .int p9), (2, .int f9), (3, .int v9), (4, .int w9)]) hx hb dX11_changes_5 hl (by decide) rfl (fun ls hl => ?_)
  refine lv_iload_n hx hb dX11_changes_7 rfl (lv_at hl 3 rfl) ?_
  refine lv_iload_n hx hb dX11_changes_8 rfl (lv_at hl 4 rfl) ?_
  refine lv_iload hx hb dX11_changes_9 (lv_at hl 5 rfl) ?_
  refine xcv (vx_runS (As := [.int f9, .int v9, .int w9]) (rest := []) FX (c_X11_needTransition l hfl G a ha t9 f9 v9 w9) (va_cwS 3 hts gX11_changes_X11_needTransition rfl rfl rfl (by decide +kernel) ⟨Nat.le_of_ble_eq_true rfl, Nat.le_of_ble_eq_true rfl⟩) (preSX hK hNW trivial (hLow.at hS (fun q9 _ q => rng_M q9 q)) (hX.at hS (fun q9 _ q => rng_M q9 q))) rfl rfl hl.1 rfl (lv_room (Nat.le_of_ble_eq_true rfl)) dX11_changes_11 ⟨Nat.le_of_ble_eq_true rfl, Nat.le_of_ble_eq_true rfl⟩) hS htab hlocks (fun H1 hk9 => ⟨kpF hk9 h_g, kpF hk9 h_arr, kpF hk9 h_d, kpF hk9 h_t, kpF hk9 h_l, kpF hk9 h_l2, kpF hk9 h_ta, kpF hk9 h_wv, fam_back (kpF hk9 h_f) (kpF hk9 h_n)⟩) (fun E hE9 => XE_2 hE9.1 ((if_pos hc0).trans (if_neg hE9.2))) (Nat.le_of_ble_eq_true rfl) (Nat.le_of_ble_eq_true rfl) (fun q1 H locs hk2 hS => ?_)
  have h_g : PP G ([(a 0, .inr (11, [.ref (a 1), .ref (a 2), .ref (a 4), .ref (a 6), .ref (a 21), .ref (a 28), .ref (a 31), .ref (a 36), .ref (a 41), .ref (a 42), .ref (a 45), .ref (a 48)]))]) H := kpF hk2 h_g
  have h_arr : PP G ([(a 1, .inl (gQ G, 4, .inr (.inr (.inr (.inr (fun z => some (a (49 + 11 * z))))))))]) H := kpF hk2 h_arr
  have h_d : PP G (rowW G a 2 4 (fun z => nI (dl z))) H := kpF hk2 h_d
  have h_t : PP G (timW G a 28 x0 f0) H := kpF hk2 h_t
  have h_l : PP G (lanW G a 31 w0 o0) H := kpF hk2 h_l
  have h_l2 : PP G (lanW G a 36 w1 o1) H := kpF hk2 h_l2
  have h_ta : PP G (talW a 41 x1 y1 z1) H := kpF hk2 h_ta
  have h_wv : PP G (wavW G a 42 u0 g0) H := kpF hk2 h_wv
  have h_f : PP G (famW G a Ns (ix p9)) H := kpF hk2 h_f
  have h_n : PP G (netW G a (49 + 11 * ix p9) (Ns (ix p9))) H := kpF hk2 h_n
  obtain ⟨ef, lef⟩ := rg_ix q1.1.1 q1.1.2 (by omega) (by omega)
  rw [ef] at hl
  obtain ⟨ev, lev⟩ := rg_ix q1.2.1.1 q1.2.1.2 (by omega) (by omega)
  rw [ev] at hl
  obtain ⟨ew, lew⟩ := rg_ix q1.2.2.1 q1.2.2.2 (by omega) (by omega)
  rw [ew] at hl
  refine lv_aload_n hx hb dX11_changes_14 rfl (lv_at hl 1 rfl) ?_
  refine lv_aload hx hb dX11_changes_15 (lv_at hl 0 rfl) ?_
  refine lv_iload_n hx hb dX11_changes_17 rfl (lv_at hl 3 rfl) ?_
  refine lv_iload_n hx hb dX11_changes_18 rfl (lv_at hl 4 rfl) ?_
  refine wr_v (va_runV (As := [.ref (a (49 + 11 * ix p9)), .int (nI (ix f9)), .int (nI (ix v9))]) (rest := []) FX (c_X11_prepareTransition l G a ha t9 Ns p9 hN dl hd x0 f0 w0 o0 w1 o1 x1 y1 z1 (ix f9) (ix v9) (by omega) (by omega)) (cwV 3 hts gX11_changes_X11_prepareTransition rfl rfl rfl (by decide +kernel) ⟨Nat.le_of_ble_eq_true rfl, Nat.le_of_ble_eq_true rfl⟩) (preVL hK hNW (⟨h_g, h_d, h_t, h_l, h_l2, h_ta, h_n⟩) (hLow.at hS (fun q9 _ q => rng_M q9 q)) (va_recv hK h_g (ci := 11) (q0 := 0) rfl rfl)) rfl rfl hl.1 rfl (lv_room (Nat.le_of_ble_eq_true rfl)) dX11_changes_19 ⟨Nat.le_of_ble_eq_true rfl, Nat.le_of_ble_eq_true rfl⟩) hS (rng_sub (by omega)) (fun v7 H locs hv7 hP9 hk3 hS => ?_)
  have h_t : PP G (timW G a 28 (nI (mxT (Ns (ix p9)) dl (nG (Ns (ix p9))))) v7.1) H := hP9.1
  have h_l : PP G (lanW G a 31 v7.2.1.1 v7.2.1.2) H := hP9.2.1
  have h_l2 : PP G (lanW G a 36 v7.2.2.1 v7.2.2.2) H := hP9.2.2.1
  have h_ta : PP G (talW a 41 0 0 0) H := hP9.2.2.2
  have h_g : PP G ([(a 0, .inr (11, [.ref (a 1), .ref (a 2), .ref (a 4), .ref (a 6), .ref (a 21), .ref (a 28), .ref (a 31), .ref (a 36), .ref (a 41), .ref (a 42), .ref (a 45), .ref (a 48)]))]) H := kp hk3 h_g (dj_cons (rng_no ha (by omega)) (dj_nil))
  have h_arr : PP G ([(a 1, .inl (gQ G, 4, .inr (.inr (.inr (.inr (fun z => some (a (49 + 11 * z))))))))]) H := kp hk3 h_arr (dj_cons (rng_no ha (by omega)) (dj_nil))
  have h_d : PP G (rowW G a 2 4 (fun z => nI (dl z))) H := kp hk3 h_d (dj_cons (rng_no ha (by omega)) (dj_cons (rng_no ha (by omega)) (dj_nil)))
  have h_wv : PP G (wavW G a 42 u0 g0) H := kp hk3 h_wv (dj_rng ha (wavW_in (G := G) (a := a) (i := 42) (u := u0) (w := g0)) (by omega))
  have h_f : PP G (famW G a Ns (ix p9)) H := kp hk3 h_f (dj_famo ha (by omega))
  have h_n : PP G (netW G a (49 + 11 * ix p9) (Ns (ix p9))) H := kp hk3 h_n (dj_rng ha (netW_in (G := G) (a := a) (j := (49 + 11 * ix p9)) (N := (Ns (ix p9)))) (by omega))
  have hm9 := mxT_le hN hd (nG (Ns (ix p9))) (Nat.le_refl _)
  refine lv_aload_n hx hb dX11_changes_22 rfl (lv_at hl 1 rfl) ?_
  refine va_get (D := G.1) (ci := 11) (v := .ref (a 42)) (C := RX11) (T := TX11) (N := 12) hx hb hts inX11_changes_11 hown hK h_g 0 rfl rfl 9 (by decide) (hts (.fieldLink RX11 68 "GateLedger" "waves" "LGateLedger$Waves;") (List.mem_of_getElem? (i := 1) (by decide +kernel))) (fun _ h9 => h9) rfl dX11_changes_23 ?_
  refine lv_aload hx hb dX11_changes_26 (lv_at hl 0 rfl) ?_
  refine lv_aload_n hx hb dX11_changes_28 rfl (lv_at hl 1 rfl) ?_
  refine va_get (D := G.1) (ci := 11) (v := .ref (a 2)) (C := RX11) (T := TX11) (N := 12) hx hb hts inX11_changes_11 hown hK h_g 0 rfl rfl 1 (by decide) (hts (.fieldLink RX11 20 "GateLedger" "delays" "LGateLedger$Row;") (List.mem_of_getElem? (i := 2) (by decide +kernel))) (fun _ h9 => h9) rfl dX11_changes_29 ?_
  refine lv_aload_n hx hb dX11_changes_32 rfl (lv_at hl 1 rfl) ?_
  refine va_get (D := G.1) (ci := 11) (v := .ref (a 31)) (C := RX11) (T := TX11) (N := 12) hx hb hts inX11_changes_11 hown hK h_g 0 rfl rfl 6 (by decide) (hts (.fieldLink RX11 51 "GateLedger" "lanes" "LGateLedger$Lanes;") (List.mem_of_getElem? (i := 3) (by decide +kernel))) (fun _ h9 => h9) rfl dX11_changes_33 ?_
  refine lv_aload_n hx hb dX11_changes_36 rfl (lv_at hl 1 rfl) ?_
  refine va_get (D := G.1) (ci := 11) (v := .ref (a 36)) (C := RX11) (T := TX11) (N := 12) hx hb hts inX11_changes_11 hown hK h_g 0 rfl rfl 7 (by decide) (hts (.fieldLink RX11 55 "GateLedger" "otherLanes" "LGateLedger$Lanes;") (List.mem_of_getElem? (i := 4) (by decide +kernel))) (fun _ h9 => h9) rfl dX11_changes_37 ?_
  refine lv_aload_n hx hb dX11_changes_40 rfl (lv_at hl 1 rfl) ?_
  refine va_get (D := G.1) (ci := 11) (v := .ref (a 28)) (C := RX11) (T := TX11) (N := 12) hx hb hts inX11_changes_11 hown hK h_g 0 rfl rfl 5 (by decide) (hts (.fieldLink RX11 44 "GateLedger" "timing" "LGateLedger$Timing;") (List.mem_of_getElem? (i := 5) (by decide +kernel))) (fun _ h9 => h9) rfl dX11_changes_41 ?_
  refine ro_i (va_runV (As := []) (rest := [.ref (a 36), .ref (a 31), .ref (a 2), .ref (a (49 + 11 * ix p9)), .ref (a 42)]) FX (c_X7_latest l G a 28 (nI (mxT (Ns (ix p9)) dl (nG (Ns (ix p9))))) v7.1) (cwV 0 hts gX11_changes_X7_latest rfl rfl rfl (by decide +kernel) ⟨Nat.le_of_ble_eq_true rfl, Nat.le_of_ble_eq_true rfl⟩) (preV hK hNW h_t (va_recv hK h_t (ci := 7) (q0 := 0) rfl rfl)) rfl rfl hl.1 rfl (lv_room (Nat.le_of_ble_eq_true rfl)) dX11_changes_44 ⟨Nat.le_of_ble_eq_true rfl, Nat.le_of_ble_eq_true rfl⟩) ?_
  refine wr_v (va_runV (As := [.ref (a (49 + 11 * ix p9)), .ref (a 2), .ref (a 31), .ref (a 36), .int (nI (mxT (Ns (ix p9)) dl (nG (Ns (ix p9)))))]) (rest := []) FX (c_X8_run l G a ha 42 u0 g0 (49 + 11 * ix p9) 2 31 36 (by omega) (by omega) (by omega) (by omega) (Ns (ix p9)) hN dl v7.2.1.1 v7.2.1.2 v7.2.2.1 v7.2.2.2 (mxT (Ns (ix p9)) dl (nG (Ns (ix p9)))) (by omega)) (cwV 5 hts gX11_changes_X8_run rfl rfl rfl (by decide +kernel) ⟨Nat.le_of_ble_eq_true rfl, Nat.le_of_ble_eq_true rfl⟩) (preV hK hNW (⟨h_wv, h_n, h_d, h_l, h_l2⟩) (va_recv hK h_wv (ci := 8) (q0 := 0) rfl rfl)) rfl rfl hl.1 rfl (lv_room (Nat.le_of_ble_eq_true rfl)) dX11_changes_47 ⟨Nat.le_of_ble_eq_true rfl, Nat.le_of_ble_eq_true rfl⟩) hS (rng_sub (by omega)) (fun g8 H locs hg8 hP9 hk5 hS => ?_)
  have h_wv : PP G (wavW G a 42 (nI (min 17 (mxT (Ns (ix p9)) dl (nG (Ns (ix p9))) / 64 + 1))) g8) H := hP9
  have h_g : PP G ([(a 0, .inr (11, [.ref (a 1), .ref (a 2), .ref (a 4), .ref (a 6), .ref (a 21), .ref (a 28), .ref (a 31), .ref (a 36), .ref (a 41), .ref (a 42), .ref (a 45), .ref (a 48)]))]) H := kp hk5 h_g (dj_cons (rng_no ha (by omega)) (dj_nil))
  have h_arr : PP G ([(a 1, .inl (gQ G, 4, .inr (.inr (.inr (.inr (fun z => some (a (49 + 11 * z))))))))]) H := kp hk5 h_arr (dj_cons (rng_no ha (by omega)) (dj_nil))
  have h_d : PP G (rowW G a 2 4 (fun z => nI (dl z))) H := kp hk5 h_d (dj_cons (rng_no ha (by omega)) (dj_cons (rng_no ha (by omega)) (dj_nil)))
  have h_t : PP G (timW G a 28 (nI (mxT (Ns (ix p9)) dl (nG (Ns (ix p9))))) v7.1) H := kp hk5 h_t (dj_rng ha (timW_in (G := G) (a := a) (i := 28) (x := (nI (mxT (Ns (ix p9)) dl (nG (Ns (ix p9)))))) (f := v7.1)) (by omega))
  have h_l : PP G (lanW G a 31 v7.2.1.1 v7.2.1.2) H := kp hk5 h_l (dj_rng ha (lanW_in (G := G) (a := a) (i := 31) (w := v7.2.1.1) (o := v7.2.1.2)) (by omega))
  have h_l2 : PP G (lanW G a 36 v7.2.2.1 v7.2.2.2) H := kp hk5 h_l2 (dj_rng ha (lanW_in (G := G) (a := a) (i := 36) (w := v7.2.2.1) (o := v7.2.2.2)) (by omega))
  have h_ta : PP G (talW a 41 0 0 0) H := kp hk5 h_ta (dj_rng ha (talW_in (a := a) (i := 41) (x := 0) (y := 0) (z := 0)) (by omega))
  have h_f : PP G (famW G a Ns (ix p9)) H := kp hk5 h_f (dj_famo ha (by omega))
  have h_n : PP G (netW G a (49 + 11 * ix p9) (Ns (ix p9))) H := kp hk5 h_n (dj_rng ha (netW_in (G := G) (a := a) (j := (49 + 11 * ix p9)) (N := (Ns (ix p9)))) (by omega))
  refine lv_aload_n hx hb dX11_changes_50 rfl (lv_at hl 1 rfl) ?_
  refine va_get (D := G.1) (ci := 11) (v := .ref (a 42)) (C := RX11) (T := TX11) (N := 12) hx hb hts inX11_changes_11 hown hK h_g 0 rfl rfl 9 (by decide) (hts (.fieldLink RX11 68 "GateLedger" "waves" "LGateLedger$Waves;") (List.mem_of_getElem? (i := 1) (by decide +kernel))) (fun _ h9 => h9) rfl dX11_changes_51 ?_
  refine lv_aload hx hb dX11_changes_54 (lv_at hl 0 rfl) ?_
  refine lv_aload_n hx hb dX11_changes_56 rfl (lv_at hl 1 rfl) ?_
  refine va_get (D := G.1) (ci := 11) (v := .ref (a 31)) (C := RX11) (T := TX11) (N := 12) hx hb hts inX11_changes_11 hown hK h_g 0 rfl rfl 6 (by decide) (hts (.fieldLink RX11 51 "GateLedger" "lanes" "LGateLedger$Lanes;") (List.mem_of_getElem? (i := 3) (by decide +kernel))) (fun _ h9 => h9) rfl dX11_changes_57 ?_
  refine lv_aload_n hx hb dX11_changes_60 rfl (lv_at hl 1 rfl) ?_
  refine va_get (D := G.1) (ci := 11) (v := .ref (a 41)) (C := RX11) (T := TX11) (N := 12) hx hb hts inX11_changes_11 hown hK h_g 0 rfl rfl 8 (by decide) (hts (.fieldLink RX11 61 "GateLedger" "tally" "LGateLedger$Tally;") (List.mem_of_getElem? (i := 6) (by decide +kernel))) (fun _ h9 => h9) rfl dX11_changes_61 ?_
  refine wr_v (va_runV (As := [.ref (a (49 + 11 * ix p9)), .ref (a 31), .ref (a 41)]) (rest := []) FX (c_X8_count l G a ha 42 (min 17 (mxT (Ns (ix p9)) dl (nG (Ns (ix p9))) / 64 + 1)) (by omega) g8 41 (by omega) (49 + 11 * ix p9) 31 (by omega) (by omega) (Ns (ix p9)) hN v7.2.1.1 v7.2.1.2) (cwV 3 hts gX11_changes_X8_count rfl rfl rfl (by decide +kernel) ⟨Nat.le_of_ble_eq_true rfl, Nat.le_of_ble_eq_true rfl⟩) (preV hK hNW (⟨h_ta, h_wv, h_n, h_l⟩) (va_recv hK h_wv (ci := 8) (q0 := 0) rfl rfl)) rfl rfl hl.1 rfl (lv_room (Nat.le_of_ble_eq_true rfl)) dX11_changes_64 ⟨Nat.le_of_ble_eq_true rfl, Nat.le_of_ble_eq_true rfl⟩) hS (rng_sub (by omega)) (fun _ H locs _ hP9 hk7 hS => ?_)
  have h_ta : PP G (talW a 41 (cnX (Ns (ix p9)) g8 v7.2.1.1 (min 17 (mxT (Ns (ix p9)) dl (nG (Ns (ix p9))) / 64 + 1)) (nG (Ns (ix p9)))) (cnY (Ns (ix p9)) g8 v7.2.1.1 (min 17 (mxT (Ns (ix p9)) dl (nG (Ns (ix p9))) / 64 + 1)) (nG (Ns (ix p9)))) (cnZ (Ns (ix p9)) g8 v7.2.1.1 (min 17 (mxT (Ns (ix p9)) dl (nG (Ns (ix p9))) / 64 + 1)) (nG (Ns (ix p9))))) H := hP9
  have h_g : PP G ([(a 0, .inr (11, [.ref (a 1), .ref (a 2), .ref (a 4), .ref (a 6), .ref (a 21), .ref (a 28), .ref (a 31), .ref (a 36), .ref (a 41), .ref (a 42), .ref (a 45), .ref (a 48)]))]) H := kp hk7 h_g (dj_cons (rng_no ha (by omega)) (dj_nil))
  have h_arr : PP G ([(a 1, .inl (gQ G, 4, .inr (.inr (.inr (.inr (fun z => some (a (49 + 11 * z))))))))]) H := kp hk7 h_arr (dj_cons (rng_no ha (by omega)) (dj_nil))
  have h_d : PP G (rowW G a 2 4 (fun z => nI (dl z))) H := kp hk7 h_d (dj_cons (rng_no ha (by omega)) (dj_cons (rng_no ha (by omega)) (dj_nil)))
  have h_t : PP G (timW G a 28 (nI (mxT (Ns (ix p9)) dl (nG (Ns (ix p9))))) v7.1) H := kp hk7 h_t (dj_rng ha (timW_in (G := G) (a := a) (i := 28) (x := (nI (mxT (Ns (ix p9)) dl (nG (Ns (ix p9)))))) (f := v7.1)) (by omega))
  have h_l : PP G (lanW G a 31 v7.2.1.1 v7.2.1.2) H := kp hk7 h_l (dj_rng ha (lanW_in (G := G) (a := a) (i := 31) (w := v7.2.1.1) (o := v7.2.1.2)) (by omega))
  have h_l2 : PP G (lanW G a 36 v7.2.2.1 v7.2.2.2) H := kp hk7 h_l2 (dj_rng ha (lanW_in (G := G) (a := a) (i := 36) (w := v7.2.2.1) (o := v7.2.2.2)) (by omega))
  have h_wv : PP G (wavW G a 42 (nI (min 17 (mxT (Ns (ix p9)) dl (nG (Ns (ix p9))) / 64 + 1))) g8) H := kp hk7 h_wv (dj_rng ha (wavW_in (G := G) (a := a) (i := 42) (u := (nI (min 17 (mxT (Ns (ix p9)) dl (nG (Ns (ix p9))) / 64 + 1)))) (w := g8)) (by omega))
  have h_f : PP G (famW G a Ns (ix p9)) H := kp hk7 h_f (dj_famo ha (by omega))
  have h_n : PP G (netW G a (49 + 11 * ix p9) (Ns (ix p9))) H := kp hk7 h_n (dj_rng ha (netW_in (G := G) (a := a) (j := (49 + 11 * ix p9)) (N := (Ns (ix p9)))) (by omega))
  refine lv_aload_n hx hb dX11_changes_67 rfl (lv_at hl 1 rfl) ?_
  refine va_get (D := G.1) (ci := 11) (v := .ref (a 41)) (C := RX11) (T := TX11) (N := 12) hx hb hts inX11_changes_11 hown hK h_g 0 rfl rfl 8 (by decide) (hts (.fieldLink RX11 61 "GateLedger" "tally" "LGateLedger$Tally;") (List.mem_of_getElem? (i := 6) (by decide +kernel))) (fun _ h9 => h9) rfl dX11_changes_68 ?_
  refine lv_iload hx hb dX11_changes_71 (lv_at hl 5 rfl) ?_
  refine ro_i (va_runV (As := [.int (nI (ix w9))]) (rest := []) FX (c_X5_told l G a 41 (cnX (Ns (ix p9)) g8 v7.2.1.1 (min 17 (mxT (Ns (ix p9)) dl (nG (Ns (ix p9))) / 64 + 1)) (nG (Ns (ix p9)))) (cnY (Ns (ix p9)) g8 v7.2.1.1 (min 17 (mxT (Ns (ix p9)) dl (nG (Ns (ix p9))) / 64 + 1)) (nG (Ns (ix p9)))) (cnZ (Ns (ix p9)) g8 v7.2.1.1 (min 17 (mxT (Ns (ix p9)) dl (nG (Ns (ix p9))) / 64 + 1)) (nG (Ns (ix p9)))) (ix w9) (by omega)) (cwV 1 hts gX11_changes_X5_told rfl rfl rfl (by decide +kernel) ⟨Nat.le_of_ble_eq_true rfl, Nat.le_of_ble_eq_true rfl⟩) (preV hK hNW h_ta (va_recv hK h_ta (ci := 5) (q0 := 0) rfl rfl)) rfl rfl hl.1 rfl (lv_room (Nat.le_of_ble_eq_true rfl)) dX11_changes_73 ⟨Nat.le_of_ble_eq_true rfl, Nat.le_of_ble_eq_true rfl⟩) ?_
  refine retw (Nat.le_of_ble_eq_true rfl) (Nat.le_of_ble_eq_true rfl) ?_
  exact en_wi (v7, g8, cnX (Ns (ix p9)) g8 v7.2.1.1 (min 17 (mxT (Ns (ix p9)) dl (nG (Ns (ix p9))) / 64 + 1)) (nG (Ns (ix p9))), cnY (Ns (ix p9)) g8 v7.2.1.1 (min 17 (mxT (Ns (ix p9)) dl (nG (Ns (ix p9))) / 64 + 1)) (nG (Ns (ix p9))), cnZ (Ns (ix p9)) g8 v7.2.1.1 (min 17 (mxT (Ns (ix p9)) dl (nG (Ns (ix p9))) / 64 + 1)) (nG (Ns (ix p9)))) hx hb hr hlocks hS (⟨((if_pos hc0).trans (if_pos q1)), hv7.2.1, hv7.2.2, hg8, rfl⟩) (⟨h_g, h_arr, h_d, h_t, h_l, h_l2, h_ta, h_wv, fam_back h_f h_n⟩) dX11_changes_76
