set_option maxRecDepth 20000 in
theorem inX11_bit_11 : ∀ w ∈ u_ws RX11 TX11 12, w ∈ wsX11_bit := by decide +kernel
set_option maxHeartbeats 4000000 in
set_option maxRecDepth 100000 in
/-- bit -/
theorem c_X11_bit (l : Launch) (hfl : l.stackTraces = false) (G : GG) (a : Nat → Nat) (ha : Inj a) (t9 : Nat) (Ns : Nat → NT) (w0 o0 : Nat → Int64) (p9 g9 x9 : Int32) (hW : ∀ z, z < 4 → WF (Ns z))  : vx_Met l yX11_bit wsX11_bit ({ frames := 7, cells := 3, slots := 18, locals := 104 } : Room) (PcX G a t9 [.ref (a 0), .int p9, .int g9, .int x9] (fun H => PP G ([(a 0, .inr (11, [.ref (a 1), .ref (a 2), .ref (a 4), .ref (a 6), .ref (a 21), .ref (a 28), .ref (a 31), .ref (a 36), .ref (a 41), .ref (a 42), .ref (a 45), .ref (a 48)]))]) H ∧ PP G ([(a 1, .inl (gQ G, 4, .inr (.inr (.inr (.inr (fun z => some (a (49 + 11 * z))))))))]) H ∧ PP G (lanW G a 31 w0 o0) H ∧ NSP G a Ns H)) (QI (fun (r : Int32) (_ : ((Nat → Int64) × (Nat → Int64))) => cBi Ns p9 g9 x9 = 0 ∧ r = bi (bt (Ns (ix p9)) (ix x9) (ix g9))) (fun u H => PP G ([(a 0, .inr (11, [.ref (a 1), .ref (a 2), .ref (a 4), .ref (a 6), .ref (a 21), .ref (a 28), .ref (a 31), .ref (a 36), .ref (a 41), .ref (a 42), .ref (a 45), .ref (a 48)]))]) H ∧ PP G ([(a 1, .inl (gQ G, 4, .inr (.inr (.inr (.inr (fun z => some (a (49 + 11 * z))))))))]) H ∧ PP G (lanW G a 31 u.1 u.2) H ∧ NSP G a Ns H) (rng a 31 5)) (XQ (XE (cBi Ns p9 g9 x9)) (fun H => PP G ([(a 0, .inr (11, [.ref (a 1), .ref (a 2), .ref (a 4), .ref (a 6), .ref (a 21), .ref (a 28), .ref (a 31), .ref (a 36), .ref (a 41), .ref (a 42), .ref (a 45), .ref (a 48)]))]) H ∧ PP G ([(a 1, .inl (gQ G, 4, .inr (.inr (.inr (.inr (fun z => some (a (49 + 11 * z))))))))]) H ∧ PP G (lanW G a 31 w0 o0) H ∧ NSP G a Ns H) (rng a 31 5)) 3 18 (rng a 31 5) := by
  refine vx_ofW (cc := cX11_bit) (maxL := 5) (ret := (some .int)) (by decide) rfl ?_
  intro p e s m args below meth c s₁ B hml htab hv
  obtain ⟨⟨⟨rfl, hB, hK, hNW⟩, hLow⟩, hX⟩ := hv
  have hx := B.exec
  have hb := B.bytes
  have hr := B.returns
  have hts := atoms_spec (ws := wsX11_bit) B.pre
  have hown : s.vm.findClass RX11 = some m.cls := findClass_of_methodNamed B.named
  have hlocks := B.notSynchronized
  have FX : CallFix p m c cX11_bit 5 s ([.ref (a 0), .int p9, .int g9, .int x9] : List Value).toArray wsX11_bit RX11 := ⟨hx, hb, hml, hown, hts⟩
  have hl := lv_entry ([.ref (a 0), .int p9, .int g9, .int x9]) (n := 5) (Nat.le_of_ble_eq_true rfl)
  rw [lg_entry_eq]
  generalize (lg_sl ([.ref (a 0), .int p9, .int g9, .int x9]) ++ List.replicate (5 - (lg_sl ([.ref (a 0), .int p9, .int g9, .int x9])).length) Slot.unset).toArray = ls at hl ⊢
  have hl : lv_has ls 5 [(0, .ref (a 0)), (1, .int p9), (2, .int g9), (3, .int x9)] := hl
  obtain ⟨h_g, h_arr, h_l, hns⟩ := hB
  have hS : va_S (rng a 31 5) s.heap s.heap [] := va_S.rf
  refine lv_aload_n hx hb dX11_bit_0 rfl (lv_at hl 0 rfl) ?_
  refine lv_iload_n hx hb dX11_bit_1 rfl (lv_at hl 1 rfl) ?_
  refine xcr (vx_runV (As := [.int p9]) (rest := []) FX (c_X11_netAt l hfl G a ha t9 p9) (cwV 1 hts gX11_bit_X11_netAt rfl rfl rfl (by decide +kernel) ⟨Nat.le_of_ble_eq_true rfl, Nat.le_of_ble_eq_true rfl⟩) (preVX hK hNW (⟨h_g, h_arr⟩) (hLow.at hS (fun q9 _ q => rng_M q9 q)) (hX.at hS (fun q9 _ q => rng_M q9 q)) (va_recv hK h_g (ci := 11) (q0 := 0) rfl rfl)) rfl rfl hl.1 rfl (lv_room (Nat.le_of_ble_eq_true rfl)) dX11_bit_2 ⟨Nat.le_of_ble_eq_true rfl, Nat.le_of_ble_eq_true rfl⟩) hS htab hlocks (fun H1 hk9 => ⟨kpF hk9 h_g, kpF hk9 h_arr, kpF hk9 h_l, fun z hz => kpF hk9 (hns z hz)⟩) (fun E hE9 => XE_1 hE9.1 (if_neg hE9.2)) (Nat.le_of_ble_eq_true rfl) (Nat.le_of_ble_eq_true rfl) (fun _ hc0 H locs hk1 hS => ?_)
  have h_g : PP G ([(a 0, .inr (11, [.ref (a 1), .ref (a 2), .ref (a 4), .ref (a 6), .ref (a 21), .ref (a 28), .ref (a 31), .ref (a 36), .ref (a 41), .ref (a 42), .ref (a 45), .ref (a 48)]))]) H := kpF hk1 h_g
  have h_arr : PP G ([(a 1, .inl (gQ G, 4, .inr (.inr (.inr (.inr (fun z => some (a (49 + 11 * z))))))))]) H := kpF hk1 h_arr
  have h_l : PP G (lanW G a 31 w0 o0) H := kpF hk1 h_l
  have hns : NSP G a Ns H := fun z hz => kpF hk1 (hns z hz)
  have hk4 := ix_lt hc0 (by omega)
  have h_f : PP G (famW G a Ns (ix p9)) H := fam_split hns
  have h_n : PP G (netW G a (49 + 11 * ix p9) (Ns (ix p9))) H := hns _ hk4
  have hN := hW _ hk4
  have hg9 := hN.g
  have ho9 := hN.o
  have hi9 := hN.2.1
  refine lv_astore (lv' := [(4, .ref (a (49 + 11 * ix p9))), (0, .ref (a 0)), (1, .int p9), (2, .int g9), (3, .int x9)]) hx hb dX11_bit_5 hl (by decide) rfl (fun ls hl => ?_)
  refine lv_aload hx hb dX11_bit_7 (lv_at hl 0 rfl) ?_
  refine lv_iload_n hx hb dX11_bit_9 rfl (lv_at hl 3 rfl) ?_
  refine xcv (vx_runS (As := [.ref (a (49 + 11 * ix p9)), .int g9]) (rest := []) FX (c_X11_needGate l hfl G a ha t9 (ix p9) (Ns (ix p9)) g9) (va_cwS 2 hts gX11_bit_X11_needGate rfl rfl rfl (by decide +kernel) ⟨Nat.le_of_ble_eq_true rfl, Nat.le_of_ble_eq_true rfl⟩) (preSX hK hNW h_n (hLow.at hS (fun q9 _ q => rng_M q9 q)) (hX.at hS (fun q9 _ q => rng_M q9 q))) rfl rfl hl.1 rfl (lv_room (Nat.le_of_ble_eq_true rfl)) dX11_bit_10 ⟨Nat.le_of_ble_eq_true rfl, Nat.le_of_ble_eq_true rfl⟩) hS htab hlocks (fun H1 hk9 => ⟨kpF hk9 h_g, kpF hk9 h_arr, kpF hk9 h_l, fam_back (kpF hk9 h_f) (kpF hk9 h_n)⟩) (fun E hE9 => XE_1 hE9.1 ((if_pos hc0).trans (if_neg hE9.2))) (Nat.le_of_ble_eq_true rfl) (Nat.le_of_ble_eq_true rfl) (fun q1 H locs hk2 hS => ?_)
  have h_g : PP G ([(a 0, .inr (11, [.ref (a 1), .ref (a 2), .ref (a 4), .ref (a 6), .ref (a 21), .ref (a 28), .ref (a 31), .ref (a 36), .ref (a 41), .ref (a 42), .ref (a 45), .ref (a 48)]))]) H := kpF hk2 h_g
  have h_arr : PP G ([(a 1, .inl (gQ G, 4, .inr (.inr (.inr (.inr (fun z => some (a (49 + 11 * z))))))))]) H := kpF hk2 h_arr
  have h_l : PP G (lanW G a 31 w0 o0) H := kpF hk2 h_l
  have h_f : PP G (famW G a Ns (ix p9)) H := kpF hk2 h_f
  have h_n : PP G (netW G a (49 + 11 * ix p9) (Ns (ix p9))) H := kpF hk2 h_n
  refine lv_iload_n hx hb dX11_bit_13 rfl (lv_at hl 4 rfl) ?_
  refine lv_iconst (v := nI 0) hx hb dX11_bit_14 (by decide) ?_
  refine lv_ldc (v := nI 1073741823) hx hb hown (hts (.constant RX11 168 (1073741823)) (List.mem_of_getElem? (i := 1) (by decide +kernel))) dX11_bit_15 ?_
  refine xcv (vx_runS (As := [.int x9, .int (nI 0), .int (nI 1073741823)]) (rest := []) FX (c_X11_needRange l hfl G a ha t9 x9 (nI 0) (nI 1073741823)) (va_cwS 3 hts gX11_bit_X11_needRange rfl rfl rfl (by decide +kernel) ⟨Nat.le_of_ble_eq_true rfl, Nat.le_of_ble_eq_true rfl⟩) (preSX hK hNW trivial (hLow.at hS (fun q9 _ q => rng_M q9 q)) (hX.at hS (fun q9 _ q => rng_M q9 q))) rfl rfl hl.1 rfl (lv_room (Nat.le_of_ble_eq_true rfl)) dX11_bit_17 ⟨Nat.le_of_ble_eq_true rfl, Nat.le_of_ble_eq_true rfl⟩) hS htab hlocks (fun H1 hk9 => ⟨kpF hk9 h_g, kpF hk9 h_arr, kpF hk9 h_l, fam_back (kpF hk9 h_f) (kpF hk9 h_n)⟩) (fun E hE9 => XE_2 hE9.1 ((if_pos hc0).trans ((if_pos q1).trans (if_neg hE9.2)))) (Nat.le_of_ble_eq_true rfl) (Nat.le_of_ble_eq_true rfl) (fun q2 H locs hk3 hS => ?_)
  have h_g : PP G ([(a 0, .inr (11, [.ref (a 1), .ref (a 2), .ref (a 4), .ref (a 6), .ref (a 21), .ref (a 28), .ref (a 31), .ref (a 36), .ref (a 41), .ref (a 42), .ref (a 45), .ref (a 48)]))]) H := kpF hk3 h_g
  have h_arr : PP G ([(a 1, .inl (gQ G, 4, .inr (.inr (.inr (.inr (fun z => some (a (49 + 11 * z))))))))]) H := kpF hk3 h_arr
  have h_l : PP G (lanW G a 31 w0 o0) H := kpF hk3 h_l
  have h_f : PP G (famW G a Ns (ix p9)) H := kpF hk3 h_f
  have h_n : PP G (netW G a (49 + 11 * ix p9) (Ns (ix p9))) H := kpF hk3 h_n
  have eg := ix_eq q1 (by omega)
  have lg := ix_lt q1 (by omega)
  rw [eg] at hl
  obtain ⟨ex, lex⟩ := rg_ix q2.1 q2.2 (by omega) (by omega)
  rw [ex] at hl
  refine lv_aload_n hx hb dX11_bit_20 rfl (lv_at hl 1 rfl) ?_
  refine va_get (D := G.1) (ci := 11) (v := .ref (a 31)) (C := RX11) (T := TX11) (N := 12) hx hb hts inX11_bit_11 hown hK h_g 0 rfl rfl 6 (by decide) (hts (.fieldLink RX11 51 "GateLedger" "lanes" "LGateLedger$Lanes;") (List.mem_of_getElem? (i := 2) (by decide +kernel))) (fun _ h9 => h9) rfl dX11_bit_21 ?_
  refine lv_aload hx hb dX11_bit_24 (lv_at hl 0 rfl) ?_
  refine lv_iload_n hx hb dX11_bit_26 rfl (lv_at hl 4 rfl) ?_
  refine wr_v (va_runV (As := [.ref (a (49 + 11 * ix p9)), .int (nI (ix x9))]) (rest := []) FX (c_X1_fillForOne l G a ha 31 (49 + 11 * ix p9) t9 (by omega) w0 o0 (Ns (ix p9)) hN (ix x9)) (cwV 2 hts gX11_bit_X1_fillForOne rfl rfl rfl (by decide +kernel) ⟨Nat.le_of_ble_eq_true rfl, Nat.le_of_ble_eq_true rfl⟩) (preVL hK hNW (⟨h_l, h_n⟩) (hLow.at hS (fun q9 _ q => rng_M q9 q)) (va_recv hK h_l (ci := 1) (q0 := 0) rfl rfl)) rfl rfl hl.1 rfl (lv_room (Nat.le_of_ble_eq_true rfl)) dX11_bit_27 ⟨Nat.le_of_ble_eq_true rfl, Nat.le_of_ble_eq_true rfl⟩) hS (fun _ q => q) (fun v8 H locs hv8 hP9 hk4 hS => ?_)
  have h_l : PP G (lanW G a 31 v8.1 v8.2) H := hP9
  have h_g : PP G ([(a 0, .inr (11, [.ref (a 1), .ref (a 2), .ref (a 4), .ref (a 6), .ref (a 21), .ref (a 28), .ref (a 31), .ref (a 36), .ref (a 41), .ref (a 42), .ref (a 45), .ref (a 48)]))]) H := kp hk4 h_g (dj_cons (rng_no ha (by omega)) (dj_nil))
  have h_arr : PP G ([(a 1, .inl (gQ G, 4, .inr (.inr (.inr (.inr (fun z => some (a (49 + 11 * z))))))))]) H := kp hk4 h_arr (dj_cons (rng_no ha (by omega)) (dj_nil))
  have h_f : PP G (famW G a Ns (ix p9)) H := kp hk4 h_f (dj_famo ha (by omega))
  have h_n : PP G (netW G a (49 + 11 * ix p9) (Ns (ix p9))) H := kp hk4 h_n (dj_rng ha (netW_in (G := G) (a := a) (j := (49 + 11 * ix p9)) (N := (Ns (ix p9)))) (by omega))
  refine lv_aload_n hx hb dX11_bit_30 rfl (lv_at hl 1 rfl) ?_
  refine va_get (D := G.1) (ci := 11) (v := .ref (a 31)) (C := RX11) (T := TX11) (N := 12) hx hb hts inX11_bit_11 hown hK h_g 0 rfl rfl 6 (by decide) (hts (.fieldLink RX11 51 "GateLedger" "lanes" "LGateLedger$Lanes;") (List.mem_of_getElem? (i := 2) (by decide +kernel))) (fun _ h9 => h9) rfl dX11_bit_31 ?_
  refine lv_iload_n hx hb dX11_bit_34 rfl (lv_at hl 3 rfl) ?_
  refine ro_i (va_runV (As := [.int (nI (ix g9))]) (rest := []) FX (c_X1_bitOf l G a 31 v8.1 v8.2 (ix g9) (by omega)) (cwV 1 hts gX11_bit_X1_bitOf rfl rfl rfl (by decide +kernel) ⟨Nat.le_of_ble_eq_true rfl, Nat.le_of_ble_eq_true rfl⟩) (preV hK hNW h_l (va_recv hK h_l (ci := 1) (q0 := 0) rfl rfl)) rfl rfl hl.1 rfl (lv_room (Nat.le_of_ble_eq_true rfl)) dX11_bit_35 ⟨Nat.le_of_ble_eq_true rfl, Nat.le_of_ble_eq_true rfl⟩) ?_
  refine lv_as (y := bi (bt (Ns (ix p9)) (ix x9) (ix g9))) (by rw [hv8.1 _ lg, fw_one hN (by omega) lg]; exact low_lv) ?_
  refine retw (Nat.le_of_ble_eq_true rfl) (Nat.le_of_ble_eq_true rfl) ?_
  exact en_wi v8 hx hb hr hlocks hS (⟨((if_pos hc0).trans ((if_pos q1).trans (if_pos q2))), rfl⟩) (⟨h_g, h_arr, h_l, fam_back h_f h_n⟩) dX11_bit_38
set_option maxRecDepth 20000 in
theorem inX11_value_11 : ∀ w ∈ u_ws RX11 TX11 12, w ∈ wsX11_value := by decide +kernel
set_option maxHeartbeats 4000000 in
set_option maxRecDepth 100000 in
/-- value -/
theorem c_X11_value (l : Launch) (hfl : l.stackTraces = false) (G : GG) (a : Nat → Nat) (ha : Inj a) (t9 : Nat) (Ns : Nat → NT) (w0 o0 : Nat → Int64) (p9 x9 : Int32) (hW : ∀ z, z < 4 → WF (Ns z))  : vx_Met l yX11_value wsX11_value ({ frames := 7, cells := 2, slots := 12, locals := 104 } : Room) (PcX G a t9 [.ref (a 0), .int p9, .int x9] (fun H => PP G ([(a 0, .inr (11, [.ref (a 1), .ref (a 2), .ref (a 4), .ref (a 6), .ref (a 21), .ref (a 28), .ref (a 31), .ref (a 36), .ref (a 41), .ref (a 42), .ref (a 45), .ref (a 48)]))]) H ∧ PP G ([(a 1, .inl (gQ G, 4, .inr (.inr (.inr (.inr (fun z => some (a (49 + 11 * z))))))))]) H ∧ PP G (lanW G a 31 w0 o0) H ∧ NSP G a Ns H)) (QI (fun (r : Int32) (_ : ((Nat → Int64) × (Nat → Int64))) => cVa p9 x9 = 0 ∧ r = vl (Ns (ix p9)) (ix x9)) (fun u H => PP G ([(a 0, .inr (11, [.ref (a 1), .ref (a 2), .ref (a 4), .ref (a 6), .ref (a 21), .ref (a 28), .ref (a 31), .ref (a 36), .ref (a 41), .ref (a 42), .ref (a 45), .ref (a 48)]))]) H ∧ PP G ([(a 1, .inl (gQ G, 4, .inr (.inr (.inr (.inr (fun z => some (a (49 + 11 * z))))))))]) H ∧ PP G (lanW G a 31 u.1 u.2) H ∧ NSP G a Ns H) (rng a 31 5)) (XQ (XE (cVa p9 x9)) (fun H => PP G ([(a 0, .inr (11, [.ref (a 1), .ref (a 2), .ref (a 4), .ref (a 6), .ref (a 21), .ref (a 28), .ref (a 31), .ref (a 36), .ref (a 41), .ref (a 42), .ref (a 45), .ref (a 48)]))]) H ∧ PP G ([(a 1, .inl (gQ G, 4, .inr (.inr (.inr (.inr (fun z => some (a (49 + 11 * z))))))))]) H ∧ PP G (lanW G a 31 w0 o0) H ∧ NSP G a Ns H) (rng a 31 5)) 2 12 (rng a 31 5) := by
  refine vx_ofW (cc := cX11_value) (maxL := 4) (ret := (some .int)) (by decide) rfl ?_
  intro p e s m args below meth c s₁ B hml htab hv
  obtain ⟨⟨⟨rfl, hB, hK, hNW⟩, hLow⟩, hX⟩ := hv
  have hx := B.exec
  have hb := B.bytes
  have hr := B.returns
  have hts := atoms_spec (ws := wsX11_value) B.pre
  have hown : s.vm.findClass RX11 = some m.cls := findClass_of_methodNamed B.named
  have hlocks := B.notSynchronized
  have FX : CallFix p m c cX11_value 4 s ([.ref (a 0), .int p9, .int x9] : List Value).toArray wsX11_value RX11 := ⟨hx, hb, hml, hown, hts⟩
  have hl := lv_entry ([.ref (a 0), .int p9, .int x9]) (n := 4) (Nat.le_of_ble_eq_true rfl)
  rw [lg_entry_eq]
  generalize (lg_sl ([.ref (a 0), .int p9, .int x9]) ++ List.replicate (4 - (lg_sl ([.ref (a 0), .int p9, .int x9])).length) Slot.unset).toArray = ls at hl ⊢
  have hl : lv_has ls 4 [(0, .ref (a 0)), (1, .int p9), (2, .int x9)] := hl
  obtain ⟨h_g, h_arr, h_l, hns⟩ := hB
  have hS : va_S (rng a 31 5) s.heap s.heap [] := va_S.rf
  refine lv_aload_n hx hb dX11_value_0 rfl (lv_at hl 0 rfl) ?_
  refine lv_iload_n hx hb dX11_value_1 rfl (lv_at hl 1 rfl) ?_
  refine xcr (vx_runV (As := [.int p9]) (rest := []) FX (c_X11_netAt l hfl G a ha t9 p9) (cwV 1 hts gX11_value_X11_netAt rfl rfl rfl (by decide +kernel) ⟨Nat.le_of_ble_eq_true rfl, Nat.le_of_ble_eq_true rfl⟩) (preVX hK hNW (⟨h_g, h_arr⟩) (hLow.at hS (fun q9 _ q => rng_M q9 q)) (hX.at hS (fun q9 _ q => rng_M q9 q)) (va_recv hK h_g (ci := 11) (q0 := 0) rfl rfl)) rfl rfl hl.1 rfl (lv_room (Nat.le_of_ble_eq_true rfl)) dX11_value_2 ⟨Nat.le_of_ble_eq_true rfl, Nat.le_of_ble_eq_true rfl⟩) hS htab hlocks (fun H1 hk9 => ⟨kpF hk9 h_g, kpF hk9 h_arr, kpF hk9 h_l, fun z hz => kpF hk9 (hns z hz)⟩) (fun E hE9 => XE_1 hE9.1 (if_neg hE9.2)) (Nat.le_of_ble_eq_true rfl) (Nat.le_of_ble_eq_true rfl) (fun _ hc0 H locs hk1 hS => ?_)
  have h_g : PP G ([(a 0, .inr (11, [.ref (a 1), .ref (a 2), .ref (a 4), .ref (a 6), .ref (a 21), .ref (a 28), .ref (a 31), .ref (a 36), .ref (a 41), .ref (a 42), .ref (a 45), .ref (a 48)]))]) H := kpF hk1 h_g
  have h_arr : PP G ([(a 1, .inl (gQ G, 4, .inr (.inr (.inr (.inr (fun z => some (a (49 + 11 * z))))))))]) H := kpF hk1 h_arr
  have h_l : PP G (lanW G a 31 w0 o0) H := kpF hk1 h_l
  have hns : NSP G a Ns H := fun z hz => kpF hk1 (hns z hz)
  have hk4 := ix_lt hc0 (by omega)
  have h_f : PP G (famW G a Ns (ix p9)) H := fam_split hns
  have h_n : PP G (netW G a (49 + 11 * ix p9) (Ns (ix p9))) H := hns _ hk4
  have hN := hW _ hk4
  have hg9 := hN.g
  have ho9 := hN.o
  have hi9 := hN.2.1
  refine lv_astore_n (lv' := [(3, .ref (a (49 + 11 * ix p9))), (0, .ref (a 0)), (1, .int p9), (2, .int x9)]) hx hb dX11_value_5 rfl hl (by decide) rfl (fun ls hl => ?_)
  refine lv_iload_n hx hb dX11_value_6 rfl (lv_at hl 3 rfl) ?_
  refine lv_iconst (v := nI 0) hx hb dX11_value_7 (by decide) ?_
  refine lv_ldc (v := nI 1073741823) hx hb hown (hts (.constant RX11 168 (1073741823)) (List.mem_of_getElem? (i := 1) (by decide +kernel))) dX11_value_8 ?_
  refine xcv (vx_runS (As := [.int x9, .int (nI 0), .int (nI 1073741823)]) (rest := []) FX (c_X11_needRange l hfl G a ha t9 x9 (nI 0) (nI 1073741823)) (va_cwS 3 hts gX11_value_X11_needRange rfl rfl rfl (by decide +kernel) ⟨Nat.le_of_ble_eq_true rfl, Nat.le_of_ble_eq_true rfl⟩) (preSX hK hNW trivial (hLow.at hS (fun q9 _ q => rng_M q9 q)) (hX.at hS (fun q9 _ q => rng_M q9 q))) rfl rfl hl.1 rfl (lv_room (Nat.le_of_ble_eq_true rfl)) dX11_value_10 ⟨Nat.le_of_ble_eq_true rfl, Nat.le_of_ble_eq_true rfl⟩) hS htab hlocks (fun H1 hk9 => ⟨kpF hk9 h_g, kpF hk9 h_arr, kpF hk9 h_l, fam_back (kpF hk9 h_f) (kpF hk9 h_n)⟩) (fun E hE9 => XE_2 hE9.1 ((if_pos hc0).trans (if_neg hE9.2))) (Nat.le_of_ble_eq_true rfl) (Nat.le_of_ble_eq_true rfl) (fun q2 H locs hk2 hS => ?_)
  have h_g : PP G ([(a 0, .inr (11, [.ref (a 1), .ref (a 2), .ref (a 4), .ref (a 6), .ref (a 21), .ref (a 28), .ref (a 31), .ref (a 36), .ref (a 41), .ref (a 42), .ref (a 45), .ref (a 48)]))]) H := kpF hk2 h_g
  have h_arr : PP G ([(a 1, .inl (gQ G, 4, .inr (.inr (.inr (.inr (fun z => some (a (49 + 11 * z))))))))]) H := kpF hk2 h_arr
  have h_l : PP G (lanW G a 31 w0 o0) H := kpF hk2 h_l
  have h_f : PP G (famW G a Ns (ix p9)) H := kpF hk2 h_f
  have h_n : PP G (netW G a (49 + 11 * ix p9) (Ns (ix p9))) H := kpF hk2 h_n
  obtain ⟨ex, lex⟩ := rg_ix q2.1 q2.2 (by omega) (by omega)
  rw [ex] at hl
  refine lv_aload_n hx hb dX11_value_13 rfl (lv_at hl 1 rfl) ?_
  refine va_get (D := G.1) (ci := 11) (v := .ref (a 31)) (C := RX11) (T := TX11) (N := 12) hx hb hts inX11_value_11 hown hK h_g 0 rfl rfl 6 (by decide) (hts (.fieldLink RX11 51 "GateLedger" "lanes" "LGateLedger$Lanes;") (List.mem_of_getElem? (i := 2) (by decide +kernel))) (fun _ h9 => h9) rfl dX11_value_14 ?_
  refine lv_aload_n hx hb dX11_value_17 rfl (lv_at hl 0 rfl) ?_
  refine lv_iload_n hx hb dX11_value_18 rfl (lv_at hl 3 rfl) ?_
  refine wr_v (va_runV (As := [.ref (a (49 + 11 * ix p9)), .int (nI (ix x9))]) (rest := []) FX (c_X1_fillForOne l G a ha 31 (49 + 11 * ix p9) t9 (by omega) w0 o0 (Ns (ix p9)) hN (ix x9)) (cwV 2 hts gX11_value_X1_fillForOne rfl rfl rfl (by decide +kernel) ⟨Nat.le_of_ble_eq_true rfl, Nat.le_of_ble_eq_true rfl⟩) (preVL hK hNW (⟨h_l, h_n⟩) (hLow.at hS (fun q9 _ q => rng_M q9 q)) (va_recv hK h_l (ci := 1) (q0 := 0) rfl rfl)) rfl rfl hl.1 rfl (lv_room (Nat.le_of_ble_eq_true rfl)) dX11_value_19 ⟨Nat.le_of_ble_eq_true rfl, Nat.le_of_ble_eq_true rfl⟩) hS (fun _ q => q) (fun v8 H locs hv8 hP9 hk3 hS => ?_)
  have h_l : PP G (lanW G a 31 v8.1 v8.2) H := hP9
  have h_g : PP G ([(a 0, .inr (11, [.ref (a 1), .ref (a 2), .ref (a 4), .ref (a 6), .ref (a 21), .ref (a 28), .ref (a 31), .ref (a 36), .ref (a 41), .ref (a 42), .ref (a 45), .ref (a 48)]))]) H := kp hk3 h_g (dj_cons (rng_no ha (by omega)) (dj_nil))
  have h_arr : PP G ([(a 1, .inl (gQ G, 4, .inr (.inr (.inr (.inr (fun z => some (a (49 + 11 * z))))))))]) H := kp hk3 h_arr (dj_cons (rng_no ha (by omega)) (dj_nil))
  have h_f : PP G (famW G a Ns (ix p9)) H := kp hk3 h_f (dj_famo ha (by omega))
  have h_n : PP G (netW G a (49 + 11 * ix p9) (Ns (ix p9))) H := kp hk3 h_n (dj_rng ha (netW_in (G := G) (a := a) (j := (49 + 11 * ix p9)) (N := (Ns (ix p9)))) (by omega))
  refine lv_aload_n hx hb dX11_value_22 rfl (lv_at hl 1 rfl) ?_
  refine va_get (D := G.1) (ci := 11) (v := .ref (a 31)) (C := RX11) (T := TX11) (N := 12) hx hb hts inX11_value_11 hown hK h_g 0 rfl rfl 6 (by decide) (hts (.fieldLink RX11 51 "GateLedger" "lanes" "LGateLedger$Lanes;") (List.mem_of_getElem? (i := 2) (by decide +kernel))) (fun _ h9 => h9) rfl dX11_value_23 ?_
  refine lv_aload_n hx hb dX11_value_26 rfl (lv_at hl 0 rfl) ?_
  refine lv_iconst (v := nI 0) hx hb dX11_value_27 (by decide) ?_
  refine ro_i (va_runV (As := [.ref (a (49 + 11 * ix p9)), .int (nI 0)]) (rest := []) FX (c_X1_valueInLane l G a 31 (49 + 11 * ix p9) v8.1 v8.2 (Ns (ix p9)) hN 0) (cwV 2 hts gX11_value_X1_valueInLane rfl rfl rfl (by decide +kernel) ⟨Nat.le_of_ble_eq_true rfl, Nat.le_of_ble_eq_true rfl⟩) (preV hK hNW (⟨h_l, h_n⟩) (va_recv hK h_l (ci := 1) (q0 := 0) rfl rfl)) rfl rfl hl.1 rfl (lv_room (Nat.le_of_ble_eq_true rfl)) dX11_value_28 ⟨Nat.le_of_ble_eq_true rfl, Nat.le_of_ble_eq_true rfl⟩) ?_
  refine lv_as (y := vl (Ns (ix p9)) (ix x9)) (one_val hN (by omega) hv8.2) ?_
  refine retw (Nat.le_of_ble_eq_true rfl) (Nat.le_of_ble_eq_true rfl) ?_
  exact en_wi v8 hx hb hr hlocks hS (⟨((if_pos hc0).trans (if_pos q2)), rfl⟩) (⟨h_g, h_arr, h_l, fam_back h_f h_n⟩) dX11_value_31
set_option maxRecDepth 20000 in
theorem inX11_time_11 : ∀ w ∈ u_ws RX11 TX11 12, w ∈ wsX11_time := by decide +kernel
set_option maxHeartbeats 4000000 in
set_option maxRecDepth 100000 in
/-- time -/
theorem c_X11_time (l : Launch) (hfl : l.stackTraces = false) (G : GG) (a : Nat → Nat) (ha : Inj a) (t9 : Nat) (Ns : Nat → NT) (dl : Nat → Nat) (hd : DL dl) (x0 : Int32) (f0 : Nat → Int32) (p9 g9 : Int32) (hW : ∀ z, z < 4 → WF (Ns z))  : vx_Met l yX11_time wsX11_time ({ frames := 7, cells := 2, slots := 12, locals := 103 } : Room) (PcX G a t9 [.ref (a 0), .int p9, .int g9] (fun H => PP G ([(a 0, .inr (11, [.ref (a 1), .ref (a 2), .ref (a 4), .ref (a 6), .ref (a 21), .ref (a 28), .ref (a 31), .ref (a 36), .ref (a 41), .ref (a 42), .ref (a 45), .ref (a 48)]))]) H ∧ PP G ([(a 1, .inl (gQ G, 4, .inr (.inr (.inr (.inr (fun z => some (a (49 + 11 * z))))))))]) H ∧ PP G (rowW G a 2 4 (fun z => nI (dl z))) H ∧ PP G (timW G a 28 x0 f0) H ∧ NSP G a Ns H)) (QI (fun (r : Int32) (_ : Int32 × (Nat → Int32)) => cTi Ns p9 g9 = 0 ∧ r = nI (tm (Ns (ix p9)) dl (ix g9))) (fun u H => PP G ([(a 0, .inr (11, [.ref (a 1), .ref (a 2), .ref (a 4), .ref (a 6), .ref (a 21), .ref (a 28), .ref (a 31), .ref (a 36), .ref (a 41), .ref (a 42), .ref (a 45), .ref (a 48)]))]) H ∧ PP G ([(a 1, .inl (gQ G, 4, .inr (.inr (.inr (.inr (fun z => some (a (49 + 11 * z))))))))]) H ∧ PP G (rowW G a 2 4 (fun z => nI (dl z))) H ∧ PP G (timW G a 28 u.1 u.2) H ∧ NSP G a Ns H) (rng a 28 3)) (XQ (XE (cTi Ns p9 g9)) (fun H => PP G ([(a 0, .inr (11, [.ref (a 1), .ref (a 2), .ref (a 4), .ref (a 6), .ref (a 21), .ref (a 28), .ref (a 31), .ref (a 36), .ref (a 41), .ref (a 42), .ref (a 45), .ref (a 48)]))]) H ∧ PP G ([(a 1, .inl (gQ G, 4, .inr (.inr (.inr (.inr (fun z => some (a (49 + 11 * z))))))))]) H ∧ PP G (rowW G a 2 4 (fun z => nI (dl z))) H ∧ PP G (timW G a 28 x0 f0) H ∧ NSP G a Ns H) (rng a 28 3)) 2 12 (rng a 28 3) := by
  refine vx_ofW (cc := cX11_time) (maxL := 4) (ret := (some .int)) (by decide) rfl ?_
  intro p e s m args below meth c s₁ B hml htab hv
  obtain ⟨⟨⟨rfl, hB, hK, hNW⟩, hLow⟩, hX⟩ := hv
  have hx := B.exec
  have hb := B.bytes
  have hr := B.returns
  have hts := atoms_spec (ws := wsX11_time) B.pre
  have hown : s.vm.findClass RX11 = some m.cls := findClass_of_methodNamed B.named
  have hlocks := B.notSynchronized
  have FX : CallFix p m c cX11_time 4 s ([.ref (a 0), .int p9, .int g9] : List Value).toArray wsX11_time RX11 := ⟨hx, hb, hml, hown, hts⟩
  have hl := lv_entry ([.ref (a 0), .int p9, .int g9]) (n := 4) (Nat.le_of_ble_eq_true rfl)
  rw [lg_entry_eq]
  generalize (lg_sl ([.ref (a 0), .int p9, .int g9]) ++ List.replicate (4 - (lg_sl ([.ref (a 0), .int p9, .int g9])).length) Slot.unset).toArray = ls at hl ⊢
  have hl : lv_has ls 4 [(0, .ref (a 0)), (1, .int p9), (2, .int g9)] := hl
  obtain ⟨h_g, h_arr, h_d, h_t, hns⟩ := hB
  have hS : va_S (rng a 28 3) s.heap s.heap [] := va_S.rf
  refine lv_aload_n hx hb dX11_time_0 rfl (lv_at hl 0 rfl) ?_
  refine lv_iload_n hx hb dX11_time_1 rfl (lv_at hl 1 rfl) ?_
  refine xcr (vx_runV (As := [.int p9]) (rest := []) FX (c_X11_netAt l hfl G a ha t9 p9) (cwV 1 hts gX11_time_X11_netAt rfl rfl rfl (by decide +kernel) ⟨Nat.le_of_ble_eq_true rfl, Nat.le_of_ble_eq_true rfl⟩) (preVX hK hNW (⟨h_g, h_arr⟩) (hLow.at hS (fun q9 _ q => rng_M q9 q)) (hX.at hS (fun q9 _ q => rng_M q9 q)) (va_recv hK h_g (ci := 11) (q0 := 0) rfl rfl)) rfl rfl hl.1 rfl (lv_room (Nat.le_of_ble_eq_true rfl)) dX11_time_2 ⟨Nat.le_of_ble_eq_true rfl, Nat.le_of_ble_eq_true rfl⟩) hS htab hlocks (fun H1 hk9 => ⟨kpF hk9 h_g, kpF hk9 h_arr, kpF hk9 h_d, kpF hk9 h_t, fun z hz => kpF hk9 (hns z hz)⟩) (fun E hE9 => XE_1 hE9.1 (if_neg hE9.2)) (Nat.le_of_ble_eq_true rfl) (Nat.le_of_ble_eq_true rfl) (fun _ hc0 H locs hk1 hS => ?_)
  have h_g : PP G ([(a 0, .inr (11, [.ref (a 1), .ref (a 2), .ref (a 4), .ref (a 6), .ref (a 21), .ref (a 28), .ref (a 31), .ref (a 36), .ref (a 41), .ref (a 42), .ref (a 45), .ref (a 48)]))]) H := kpF hk1 h_g
  have h_arr : PP G ([(a 1, .inl (gQ G, 4, .inr (.inr (.inr (.inr (fun z => some (a (49 + 11 * z))))))))]) H := kpF hk1 h_arr
  have h_d : PP G (rowW G a 2 4 (fun z => nI (dl z))) H := kpF hk1 h_d
  have h_t : PP G (timW G a 28 x0 f0) H := kpF hk1 h_t
  have hns : NSP G a Ns H := fun z hz => kpF hk1 (hns z hz)
  have hk4 := ix_lt hc0 (by omega)
  have h_f : PP G (famW G a Ns (ix p9)) H := fam_split hns
  have h_n : PP G (netW G a (49 + 11 * ix p9) (Ns (ix p9))) H := hns _ hk4
  have hN := hW _ hk4
  have hg9 := hN.g
  have ho9 := hN.o
  have hi9 := hN.2.1
  refine lv_astore_n (lv' := [(3, .ref (a (49 + 11 * ix p9))), (0, .ref (a 0)), (1, .int p9), (2, .int g9)]) hx hb dX11_time_5 rfl hl (by decide) rfl (fun ls hl => ?_)
  refine lv_aload_n hx hb dX11_time_6 rfl (lv_at hl 0 rfl) ?_
  refine lv_iload_n hx hb dX11_time_7 rfl (lv_at hl 3 rfl) ?_
  refine xcv (vx_runS (As := [.ref (a (49 + 11 * ix p9)), .int g9]) (rest := []) FX (c_X11_needGate l hfl G a ha t9 (ix p9) (Ns (ix p9)) g9) (va_cwS 2 hts gX11_time_X11_needGate rfl rfl rfl (by decide +kernel) ⟨Nat.le_of_ble_eq_true rfl, Nat.le_of_ble_eq_true rfl⟩) (preSX hK hNW h_n (hLow.at hS (fun q9 _ q => rng_M q9 q)) (hX.at hS (fun q9 _ q => rng_M q9 q))) rfl rfl hl.1 rfl (lv_room (Nat.le_of_ble_eq_true rfl)) dX11_time_8 ⟨Nat.le_of_ble_eq_true rfl, Nat.le_of_ble_eq_true rfl⟩) hS htab hlocks (fun H1 hk9 => ⟨kpF hk9 h_g, kpF hk9 h_arr, kpF hk9 h_d, kpF hk9 h_t, fam_back (kpF hk9 h_f) (kpF hk9 h_n)⟩) (fun E hE9 => XE_1 hE9.1 ((if_pos hc0).trans (if_neg hE9.2))) (Nat.le_of_ble_eq_true rfl) (Nat.le_of_ble_eq_true rfl) (fun q1 H locs hk2 hS => ?_)
  have h_g : PP G ([(a 0, .inr (11, [.ref (a 1), .ref (a 2), .ref (a 4), .ref (a 6), .ref (a 21), .ref (a 28), .ref (a 31), .ref (a 36), .ref (a 41), .ref (a 42), .ref (a 45), .ref (a 48)]))]) H := kpF hk2 h_g
  have h_arr : PP G ([(a 1, .inl (gQ G, 4, .inr (.inr (.inr (.inr (fun z => some (a (49 + 11 * z))))))))]) H := kpF hk2 h_arr
  have h_d : PP G (rowW G a 2 4 (fun z => nI (dl z))) H := kpF hk2 h_d
  have h_t : PP G (timW G a 28 x0 f0) H := kpF hk2 h_t
  have h_f : PP G (famW G a Ns (ix p9)) H := kpF hk2 h_f
  have h_n : PP G (netW G a (49 + 11 * ix p9) (Ns (ix p9))) H := kpF hk2 h_n
  have eg := ix_eq q1 (by omega)
  have lg := ix_lt q1 (by omega)
  rw [eg] at hl
  refine lv_aload_n hx hb dX11_time_11 rfl (lv_at hl 1 rfl) ?_
  refine va_get (D := G.1) (ci := 11) (v := .ref (a 28)) (C := RX11) (T := TX11) (N := 12) hx hb hts inX11_time_11 hown hK h_g 0 rfl rfl 5 (by decide) (hts (.fieldLink RX11 44 "GateLedger" "timing" "LGateLedger$Timing;") (List.mem_of_getElem? (i := 1) (by decide +kernel))) (fun _ h9 => h9) rfl dX11_time_12 ?_
  refine lv_aload_n hx hb dX11_time_15 rfl (lv_at hl 0 rfl) ?_
  refine lv_aload_n hx hb dX11_time_16 rfl (lv_at hl 1 rfl) ?_
  refine va_get (D := G.1) (ci := 11) (v := .ref (a 2)) (C := RX11) (T := TX11) (N := 12) hx hb hts inX11_time_11 hown hK h_g 0 rfl rfl 1 (by decide) (hts (.fieldLink RX11 20 "GateLedger" "delays" "LGateLedger$Row;") (List.mem_of_getElem? (i := 2) (by decide +kernel))) (fun _ h9 => h9) rfl dX11_time_17 ?_
  refine wr_v (va_runV (As := [.ref (a (49 + 11 * ix p9)), .ref (a 2)]) (rest := []) FX (c_X7_measure l G a ha 28 (49 + 11 * ix p9) 2 (by omega) (by omega) (Ns (ix p9)) hN dl hd x0 f0) (cwV 2 hts gX11_time_X7_measure rfl rfl rfl (by decide +kernel) ⟨Nat.le_of_ble_eq_true rfl, Nat.le_of_ble_eq_true rfl⟩) (preV hK hNW (⟨h_t, h_n, h_d⟩) (va_recv hK h_t (ci := 7) (q0 := 0) rfl rfl)) rfl rfl hl.1 rfl (lv_room (Nat.le_of_ble_eq_true rfl)) dX11_time_20 ⟨Nat.le_of_ble_eq_true rfl, Nat.le_of_ble_eq_true rfl⟩) hS (fun _ q => q) (fun f7 H locs hf7 hP9 hk3 hS => ?_)
  have h_t : PP G (timW G a 28 (nI (mxT (Ns (ix p9)) dl (nG (Ns (ix p9))))) f7) H := hP9
  have h_g : PP G ([(a 0, .inr (11, [.ref (a 1), .ref (a 2), .ref (a 4), .ref (a 6), .ref (a 21), .ref (a 28), .ref (a 31), .ref (a 36), .ref (a 41), .ref (a 42), .ref (a 45), .ref (a 48)]))]) H := kp hk3 h_g (dj_cons (rng_no ha (by omega)) (dj_nil))
  have h_arr : PP G ([(a 1, .inl (gQ G, 4, .inr (.inr (.inr (.inr (fun z => some (a (49 + 11 * z))))))))]) H := kp hk3 h_arr (dj_cons (rng_no ha (by omega)) (dj_nil))
  have h_d : PP G (rowW G a 2 4 (fun z => nI (dl z))) H := kp hk3 h_d (dj_cons (rng_no ha (by omega)) (dj_cons (rng_no ha (by omega)) (dj_nil)))
  have h_f : PP G (famW G a Ns (ix p9)) H := kp hk3 h_f (dj_famo ha (by omega))
  have h_n : PP G (netW G a (49 + 11 * ix p9) (Ns (ix p9))) H := kp hk3 h_n (dj_rng ha (netW_in (G := G) (a := a) (j := (49 + 11 * ix p9)) (N := (Ns (ix p9)))) (by omega))
  refine lv_aload_n hx hb dX11_time_23 rfl (lv_at hl 1 rfl) ?_
  refine va_get (D := G.1) (ci := 11) (v := .ref (a 28)) (C := RX11) (T := TX11) (N := 12) hx hb hts inX11_time_11 hown hK h_g 0 rfl rfl 5 (by decide) (hts (.fieldLink RX11 44 "GateLedger" "timing" "LGateLedger$Timing;") (List.mem_of_getElem? (i := 1) (by decide +kernel))) (fun _ h9 => h9) rfl dX11_time_24 ?_
  refine lv_iload_n hx hb dX11_time_27 rfl (lv_at hl 3 rfl) ?_
  refine ro_i (va_runV (As := [.int (nI (ix g9))]) (rest := []) FX (c_X7_timeOf l G a 28 (nI (mxT (Ns (ix p9)) dl (nG (Ns (ix p9))))) f7 (ix g9) (by omega)) (cwV 1 hts gX11_time_X7_timeOf rfl rfl rfl (by decide +kernel) ⟨Nat.le_of_ble_eq_true rfl, Nat.le_of_ble_eq_true rfl⟩) (preV hK hNW h_t (va_recv hK h_t (ci := 7) (q0 := 0) rfl rfl)) rfl rfl hl.1 rfl (lv_room (Nat.le_of_ble_eq_true rfl)) dX11_time_28 ⟨Nat.le_of_ble_eq_true rfl, Nat.le_of_ble_eq_true rfl⟩) ?_
  refine lv_as (y := nI (tm (Ns (ix p9)) dl (ix g9))) (hf7 _ lg) ?_
  refine retw (Nat.le_of_ble_eq_true rfl) (Nat.le_of_ble_eq_true rfl) ?_
  exact en_wi (nI (mxT (Ns (ix p9)) dl (nG (Ns (ix p9)))), f7) hx hb hr hlocks hS (⟨((if_pos hc0).trans (if_pos q1)), rfl⟩) (⟨h_g, h_arr, h_d, h_t, fam_back h_f h_n⟩) dX11_time_31
set_option maxRecDepth 20000 in
theorem inX11_valueAnew_11 : ∀ w ∈ u_ws RX11 TX11 12, w ∈ wsX11_valueAnew := by decide +kernel
set_option maxHeartbeats 4000000 in
set_option maxRecDepth 100000 in
/-- valueAnew -/
theorem c_X11_valueAnew (l : Launch) (hfl : l.stackTraces = false) (G : GG) (a : Nat → Nat) (ha : Inj a) (t9 : Nat) (Ns : Nat → NT) (m7 b7 ld : Nat → Int32) (p9 x9 : Int32) (hW : ∀ z, z < 4 → WF (Ns z))  : vx_Met l yX11_valueAnew wsX11_valueAnew ({ frames := 7, cells := 2, slots := 12, locals := 104 } : Room) (PcX G a t9 [.ref (a 0), .int p9, .int x9] (fun H => PP G ([(a 0, .inr (11, [.ref (a 1), .ref (a 2), .ref (a 4), .ref (a 6), .ref (a 21), .ref (a 28), .ref (a 31), .ref (a 36), .ref (a 41), .ref (a 42), .ref (a 45), .ref (a 48)]))]) H ∧ PP G ([(a 1, .inl (gQ G, 4, .inr (.inr (.inr (.inr (fun z => some (a (49 + 11 * z))))))))]) H ∧ PP G (wirW G a 21 m7 b7 ld) H ∧ NSP G a Ns H)) (QI (fun (r : Int32) (_ : (Nat → Int32) × (Nat → Int32)) => cVa p9 x9 = 0 ∧ r = vl (Ns (ix p9)) (ix x9)) (fun u H => PP G ([(a 0, .inr (11, [.ref (a 1), .ref (a 2), .ref (a 4), .ref (a 6), .ref (a 21), .ref (a 28), .ref (a 31), .ref (a 36), .ref (a 41), .ref (a 42), .ref (a 45), .ref (a 48)]))]) H ∧ PP G ([(a 1, .inl (gQ G, 4, .inr (.inr (.inr (.inr (fun z => some (a (49 + 11 * z))))))))]) H ∧ PP G (wirW G a 21 u.1 u.2 ld) H ∧ NSP G a Ns H) (rng a 21 7)) (XQ (XE (cVa p9 x9)) (fun H => PP G ([(a 0, .inr (11, [.ref (a 1), .ref (a 2), .ref (a 4), .ref (a 6), .ref (a 21), .ref (a 28), .ref (a 31), .ref (a 36), .ref (a 41), .ref (a 42), .ref (a 45), .ref (a 48)]))]) H ∧ PP G ([(a 1, .inl (gQ G, 4, .inr (.inr (.inr (.inr (fun z => some (a (49 + 11 * z))))))))]) H ∧ PP G (wirW G a 21 m7 b7 ld) H ∧ NSP G a Ns H) (rng a 21 7)) 2 12 (rng a 21 7) := by
  refine vx_ofW (cc := cX11_valueAnew) (maxL := 6) (ret := (some .int)) (by decide) rfl ?_
  intro p e s m args below meth c s₁ B hml htab hv
  obtain ⟨⟨⟨rfl, hB, hK, hNW⟩, hLow⟩, hX⟩ := hv
  have hx := B.exec
  have hb := B.bytes
  have hr := B.returns
  have hts := atoms_spec (ws := wsX11_valueAnew) B.pre
  have hown : s.vm.findClass RX11 = some m.cls := findClass_of_methodNamed B.named
  have hlocks := B.notSynchronized
  have FX : CallFix p m c cX11_valueAnew 6 s ([.ref (a 0), .int p9, .int x9] : List Value).toArray wsX11_valueAnew RX11 := ⟨hx, hb, hml, hown, hts⟩
  have hl := lv_entry ([.ref (a 0), .int p9, .int x9]) (n := 6) (Nat.le_of_ble_eq_true rfl)
  rw [lg_entry_eq]
  generalize (lg_sl ([.ref (a 0), .int p9, .int x9]) ++ List.replicate (6 - (lg_sl ([.ref (a 0), .int p9, .int x9])).length) Slot.unset).toArray = ls at hl ⊢
  have hl : lv_has ls 6 [(0, .ref (a 0)), (1, .int p9), (2, .int x9)] := hl
  obtain ⟨h_g, h_arr, h_w, hns⟩ := hB
  have hS : va_S (rng a 21 7) s.heap s.heap [] := va_S.rf
  refine lv_aload_n hx hb dX11_valueAnew_0 rfl (lv_at hl 0 rfl) ?_
  refine lv_iload_n hx hb dX11_valueAnew_1 rfl (lv_at hl 1 rfl) ?_
  refine xcr (vx_runV (As := [.int p9]) (rest := []) FX (c_X11_netAt l hfl G a ha t9 p9) (cwV 1 hts gX11_valueAnew_X11_netAt rfl rfl rfl (by decide +kernel) ⟨Nat.le_of_ble_eq_true rfl, Nat.le_of_ble_eq_true rfl⟩) (preVX hK hNW (⟨h_g, h_arr⟩) (hLow.at hS (fun q9 _ q => rng_M q9 q)) (hX.at hS (fun q9 _ q => rng_M q9 q)) (va_recv hK h_g (ci := 11) (q0 := 0) rfl rfl)) rfl rfl hl.1 rfl (lv_room (Nat.le_of_ble_eq_true rfl)) dX11_valueAnew_2 ⟨Nat.le_of_ble_eq_true rfl, Nat.le_of_ble_eq_true rfl⟩) hS htab hlocks (fun H1 hk9 => ⟨kpF hk9 h_g, kpF hk9 h_arr, kpF hk9 h_w, fun z hz => kpF hk9 (hns z hz)⟩) (fun E hE9 => XE_1 hE9.1 (if_neg hE9.2)) (Nat.le_of_ble_eq_true rfl) (Nat.le_of_ble_eq_true rfl) (fun _ hc0 H locs hk1 hS => ?_)
  have h_g : PP G ([(a 0, .inr (11, [.ref (a 1), .ref (a 2), .ref (a 4), .ref (a 6), .ref (a 21), .ref (a 28), .ref (a 31), .ref (a 36), .ref (a 41), .ref (a 42), .ref (a 45), .ref (a 48)]))]) H := kpF hk1 h_g
  have h_arr : PP G ([(a 1, .inl (gQ G, 4, .inr (.inr (.inr (.inr (fun z => some (a (49 + 11 * z))))))))]) H := kpF hk1 h_arr
  have h_w : PP G (wirW G a 21 m7 b7 ld) H := kpF hk1 h_w
  have hns : NSP G a Ns H := fun z hz => kpF hk1 (hns z hz)
  have hk4 := ix_lt hc0 (by omega)
  have h_f : PP G (famW G a Ns (ix p9)) H := fam_split hns
  have h_n : PP G (netW G a (49 + 11 * ix p9) (Ns (ix p9))) H := hns _ hk4
  have hN := hW _ hk4
  have hg9 := hN.g
  have ho9 := hN.o
  have hi9 := hN.2.1
  refine lv_astore_n (lv' := [(3, .ref (a (49 + 11 * ix p9))), (0, .ref (a 0)), (1, .int p9), (2, .int x9)]) hx hb dX11_valueAnew_5 rfl hl (by decide) rfl (fun ls hl => ?_)
  refine lv_iload_n hx hb dX11_valueAnew_6 rfl (lv_at hl 3 rfl) ?_
  refine lv_iconst (v := nI 0) hx hb dX11_valueAnew_7 (by decide) ?_
  refine lv_ldc (v := nI 1073741823) hx hb hown (hts (.constant RX11 168 (1073741823)) (List.mem_of_getElem? (i := 1) (by decide +kernel))) dX11_valueAnew_8 ?_
  refine xcv (vx_runS (As := [.int x9, .int (nI 0), .int (nI 1073741823)]) (rest := []) FX (c_X11_needRange l hfl G a ha t9 x9 (nI 0) (nI 1073741823)) (va_cwS 3 hts gX11_valueAnew_X11_needRange rfl rfl rfl (by decide +kernel) ⟨Nat.le_of_ble_eq_true rfl, Nat.le_of_ble_eq_true rfl⟩) (preSX hK hNW trivial (hLow.at hS (fun q9 _ q => rng_M q9 q)) (hX.at hS (fun q9 _ q => rng_M q9 q))) rfl rfl hl.1 rfl (lv_room (Nat.le_of_ble_eq_true rfl)) dX11_valueAnew_10 ⟨Nat.le_of_ble_eq_true rfl, Nat.le_of_ble_eq_true rfl⟩) hS htab hlocks (fun H1 hk9 => ⟨kpF hk9 h_g, kpF hk9 h_arr, kpF hk9 h_w, fam_back (kpF hk9 h_f) (kpF hk9 h_n)⟩) (fun E hE9 => XE_2 hE9.1 ((if_pos hc0).trans (if_neg hE9.2))) (Nat.le_of_ble_eq_true rfl) (Nat.le_of_ble_eq_true rfl) (fun q2 H locs hk2 hS => ?_)
  have h_g : PP G ([(a 0, .inr (11, [.ref (a 1), .ref (a 2), .ref (a 4), .ref (a 6), .ref (a 21), .ref (a 28), .ref (a 31), .ref (a 36), .ref (a 41), .ref (a 42), .ref (a 45), .ref (a 48)]))]) H := kpF hk2 h_g
  have h_arr : PP G ([(a 1, .inl (gQ G, 4, .inr (.inr (.inr (.inr (fun z => some (a (49 + 11 * z))))))))]) H := kpF hk2 h_arr
  have h_w : PP G (wirW G a 21 m7 b7 ld) H := kpF hk2 h_w
  have h_f : PP G (famW G a Ns (ix p9)) H := kpF hk2 h_f
  have h_n : PP G (netW G a (49 + 11 * ix p9) (Ns (ix p9))) H := kpF hk2 h_n
  obtain ⟨ex, lex⟩ := rg_ix q2.1 q2.2 (by omega) (by omega)
  rw [ex] at hl
  refine lv_iconst (v := nI 0) hx hb dX11_valueAnew_13 (by decide) ?_
  refine lv_istore (lv' := [(4, .int (nI 0)), (3, .ref (a (49 + 11 * ix p9))), (0, .ref (a 0)), (1, .int p9), (2, .int (nI (ix x9)))]) hx hb dX11_valueAnew_14 hl (by decide) rfl (fun ls hl => ?_)
  refine lv_iconst (v := nI 0) hx hb dX11_valueAnew_16 (by decide) ?_
  refine lv_istore (lv' := [(5, .int (nI 0)), (4, .int (nI 0)), (3, .ref (a (49 + 11 * ix p9))), (0, .ref (a 0)), (1, .int p9), (2, .int (nI (ix x9)))]) hx hb dX11_valueAnew_17 hl (by decide) rfl (fun ls hl => ?_)
  refine lv_loop3 19 (fun (q : Nat) (m5 : Nat → Int32) (b5 : Nat → Int32) => nO (Ns (ix p9)) - q) (fun (q : Nat) (m5 : Nat → Int32) (b5 : Nat → Int32) (H : Heap) (locs : List Loc) (ls : Array Slot) => (PP G ([(a 0, .inr (11, [.ref (a 1), .ref (a 2), .ref (a 4), .ref (a 6), .ref (a 21), .ref (a 28), .ref (a 31), .ref (a 36), .ref (a 41), .ref (a 42), .ref (a 45), .ref (a 48)]))]) H) ∧ (PP G ([(a 1, .inl (gQ G, 4, .inr (.inr (.inr (.inr (fun z => some (a (49 + 11 * z))))))))]) H) ∧ (PP G (wirW G a 21 m5 b5 ld) H) ∧ (PP G (famW G a Ns (ix p9)) H) ∧ (PP G (netW G a (49 + 11 * ix p9) (Ns (ix p9))) H) ∧ (va_S (rng a 21 7) s.heap H locs) ∧ (lv_has ls 6 [(0, .ref (a 0)), (1, .int p9), (2, .int (nI (ix x9))), (3, .ref (a (49 + 11 * ix p9))), (4, .int (vlT (Ns (ix p9)) (bt (Ns (ix p9)) (ix x9)) q)), (5, .int (nI q))]) ∧ (q ≤ nO (Ns (ix p9)))) (fun _ _ _ => []) (fun q m5 b5 H locs ls hI ih => ?_) 0 m7 b7 ⟨h_g, h_arr, h_w, h_f, h_n, hS, lv_sub hl [3, 4, 5, 2, 1, 0] rfl, by omega⟩ rfl
  obtain ⟨h_g, h_arr, h_w, h_f, h_n, hS, hl, hq⟩ := hI
  have ih3 := @ih
  clear ih
  refine lv_iload hx hb dX11_valueAnew_19 (lv_at hl 5 rfl) ?_
  refine lv_aload_n hx hb dX11_valueAnew_21 rfl (lv_at hl 3 rfl) ?_
  refine ro_i (va_runV (As := []) (rest := [.int (nI q)]) FX (c_X3_outCount l G a (49 + 11 * ix p9) (Ns (ix p9)) ) (cwV 0 hts gX11_valueAnew_X3_outCount rfl rfl rfl (by decide +kernel) ⟨Nat.le_of_ble_eq_true rfl, Nat.le_of_ble_eq_true rfl⟩) (preV hK hNW h_n (va_recv hK h_n (ci := 3) (q0 := 0) rfl rfl)) rfl rfl hl.1 rfl (lv_room (Nat.le_of_ble_eq_true rfl)) dX11_valueAnew_22 ⟨Nat.le_of_ble_eq_true rfl, Nat.le_of_ble_eq_true rfl⟩) ?_
  refine lv_icmp_ge (tgt := 57) hx hb dX11_valueAnew_25 (by decide) (fun c25 => ?_) (fun c25 => ?_)
  · skip
    have c25 := cv_le (by omega) (by omega) c25
    have eq : q = nO (Ns (ix p9)) := by omega
    refine lv_iload hx hb dX11_valueAnew_57 (lv_at hl 4 rfl) ?_
    refine retw (Nat.le_of_ble_eq_true rfl) (Nat.le_of_ble_eq_true rfl) ?_
    exact en_wi (m5, b5) hx hb hr hlocks hS (⟨((if_pos hc0).trans (if_pos q2)), by rw [eq]; rfl⟩) (⟨h_g, h_arr, h_w, fam_back h_f h_n⟩) dX11_valueAnew_59
  · skip
    have c25 := cv_nle (by omega) (by omega) c25
    refine lv_iload hx hb dX11_valueAnew_28 (lv_at hl 4 rfl) ?_
    refine lv_aload_n hx hb dX11_valueAnew_30 rfl (lv_at hl 0 rfl) ?_
    refine va_get (D := G.1) (ci := 11) (v := .ref (a 21)) (C := RX11) (T := TX11) (N := 12) hx hb hts inX11_valueAnew_11 hown hK h_g 0 rfl rfl 4 (by decide) (hts (.fieldLink RX11 37 "GateLedger" "wiring" "LGateLedger$Wiring;") (List.mem_of_getElem? (i := 2) (by decide +kernel))) (fun _ h9 => h9) rfl dX11_valueAnew_31 ?_
    refine lv_aload_n hx hb dX11_valueAnew_34 rfl (lv_at hl 3 rfl) ?_
    refine lv_aload_n hx hb dX11_valueAnew_35 rfl (lv_at hl 3 rfl) ?_
    refine lv_iload hx hb dX11_valueAnew_36 (lv_at hl 5 rfl) ?_
    refine ro_i (va_runV (As := [.int (nI q)]) (rest := [.ref (a (49 + 11 * ix p9)), .ref (a 21), .int (vlT (Ns (ix p9)) (bt (Ns (ix p9)) (ix x9)) q)]) FX (c_X3_outAt l G a (49 + 11 * ix p9) (Ns (ix p9)) hN q c25) (cwV 1 hts gX11_valueAnew_X3_outAt rfl rfl rfl (by decide +kernel) ⟨Nat.le_of_ble_eq_true rfl, Nat.le_of_ble_eq_true rfl⟩) (preV hK hNW h_n (va_recv hK h_n (ci := 3) (q0 := 0) rfl rfl)) rfl rfl hl.1 rfl (lv_room (Nat.le_of_ble_eq_true rfl)) dX11_valueAnew_38 ⟨Nat.le_of_ble_eq_true rfl, Nat.le_of_ble_eq_true rfl⟩) ?_
    refine lv_iload_n hx hb dX11_valueAnew_41 rfl (lv_at hl 2 rfl) ?_
    refine wr_i (va_runV (As := [.ref (a (49 + 11 * ix p9)), .int (nI (nU (Ns (ix p9)) q)), .int (nI (ix x9))]) (rest := [.int (vlT (Ns (ix p9)) (bt (Ns (ix p9)) (ix x9)) q)]) FX (c_X10_bitGoingBack l G a ha 21 (49 + 11 * ix p9) (by omega) m5 b5 ld (Ns (ix p9)) hN (nU (Ns (ix p9)) q) (ix x9) (hN.u c25) (by omega)) (cwV 3 hts gX11_valueAnew_X10_bitGoingBack rfl rfl rfl (by decide +kernel) ⟨Nat.le_of_ble_eq_true rfl, Nat.le_of_ble_eq_true rfl⟩) (preV hK hNW (⟨h_w, h_n⟩) (va_recv hK h_w (ci := 10) (q0 := 0) rfl rfl)) rfl rfl hl.1 rfl (lv_room (Nat.le_of_ble_eq_true rfl)) dX11_valueAnew_42 ⟨Nat.le_of_ble_eq_true rfl, Nat.le_of_ble_eq_true rfl⟩) hS (fun _ q => q) (fun rr u7  H locs er hP9 hk4 hS => ?_)
    have h_w : PP G (wirW G a 21 u7.1 u7.2 ld) H := hP9
    have h_g : PP G ([(a 0, .inr (11, [.ref (a 1), .ref (a 2), .ref (a 4), .ref (a 6), .ref (a 21), .ref (a 28), .ref (a 31), .ref (a 36), .ref (a 41), .ref (a 42), .ref (a 45), .ref (a 48)]))]) H := kp hk4 h_g (dj_cons (rng_no ha (by omega)) (dj_nil))
    have h_arr : PP G ([(a 1, .inl (gQ G, 4, .inr (.inr (.inr (.inr (fun z => some (a (49 + 11 * z))))))))]) H := kp hk4 h_arr (dj_cons (rng_no ha (by omega)) (dj_nil))
    have h_f : PP G (famW G a Ns (ix p9)) H := kp hk4 h_f (dj_famo ha (by omega))
    have h_n : PP G (netW G a (49 + 11 * ix p9) (Ns (ix p9))) H := kp hk4 h_n (dj_rng ha (netW_in (G := G) (a := a) (j := (49 + 11 * ix p9)) (N := (Ns (ix p9)))) (by omega))
    refine lv_as (y := bi (bt (Ns (ix p9)) (ix x9) (nU (Ns (ix p9)) q))) er ?_
    refine lv_iload hx hb dX11_valueAnew_45 (lv_at hl 5 rfl) ?_
    refine lv_ishl hx hb dX11_valueAnew_47 ?_
    refine lv_iadd hx hb dX11_valueAnew_48 ?_
    refine lv_as (y := vlT (Ns (ix p9)) (bt (Ns (ix p9)) (ix x9)) (q + 1)) rfl ?_
    refine lv_istore (lv' := [(4, .int (vlT (Ns (ix p9)) (bt (Ns (ix p9)) (ix x9)) (q + 1))), (0, .ref (a 0)), (1, .int p9), (2, .int (nI (ix x9))), (3, .ref (a (49 + 11 * ix p9))), (5, .int (nI q))]) hx hb dX11_valueAnew_49 hl (by decide) rfl (fun ls hl => ?_)
    refine lv_iinc (v := nI (q + 1)) (lv' := [(5, .int (nI (q + 1))), (4, .int (vlT (Ns (ix p9)) (bt (Ns (ix p9)) (ix x9)) (q + 1))), (0, .ref (a 0)), (1, .int p9), (2, .int (nI (ix x9))), (3, .ref (a (49 + 11 * ix p9)))]) hx hb dX11_valueAnew_51 hl (k := 5) rfl (by first | exact nI_add _ 1 | decide) (by decide) rfl (fun ls hl => ?_)
    refine lv_goto (tgt := 19) hx hb dX11_valueAnew_54 (by decide) ?_
    exact ih3 (q + 1) u7.1 u7.2 _ _ _ ⟨h_g, h_arr, h_w, h_f, h_n, hS, lv_sub hl [2, 3, 4, 5, 1, 0] rfl, by omega⟩ (by show nO (Ns (ix p9)) - (q + 1) < nO (Ns (ix p9)) - q; omega)
