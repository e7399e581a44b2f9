set_option maxHeartbeats 4000000 in
set_option maxRecDepth 100000 in
/-- input -/
theorem c_X11_input (l : Launch) (hfl : l.stackTraces = false) (G : GG) (a : Nat → Nat) (ha : Inj a) (t9 : Nat) (Ns : Nat → NT) (p9 : Int32) (hW : ∀ z, z < 4 → WF (Ns z))  : vx_Met l yX11_input wsX11_input ({ frames := 7, cells := 2, slots := 12, locals := 103 } : Room) (PcX G a t9 [.ref (a 0), .int p9] (fun H => PP G ([(a 0, .inr (11, [.ref (a 1), .ref (a 2), .ref (a 4), .ref (a 6), .ref (a 21), .ref (a 28), .ref (a 31), .ref (a 36), .ref (a 41), .ref (a 42), .ref (a 45), .ref (a 48)]))]) H ∧ PP G ([(a 1, .inl (gQ G, 4, .inr (.inr (.inr (.inr (fun z => some (a (49 + 11 * z))))))))]) H ∧ NSP G a Ns H)) (QI (fun (r : Int32) (_ : Unit) => cIn Ns p9 = 0 ∧ r = nI (nG (Ns (ix p9)))) (fun _ H => PP G ([(a 0, .inr (11, [.ref (a 1), .ref (a 2), .ref (a 4), .ref (a 6), .ref (a 21), .ref (a 28), .ref (a 31), .ref (a 36), .ref (a 41), .ref (a 42), .ref (a 45), .ref (a 48)]))]) H ∧ PP G ([(a 1, .inl (gQ G, 4, .inr (.inr (.inr (.inr (fun z => some (a (49 + 11 * z))))))))]) H ∧ NSP G a (upN Ns (ix p9) (addI (Ns (ix p9)))) H) (rng a 49 44)) (XQ (XE (cIn Ns p9)) (fun H => PP G ([(a 0, .inr (11, [.ref (a 1), .ref (a 2), .ref (a 4), .ref (a 6), .ref (a 21), .ref (a 28), .ref (a 31), .ref (a 36), .ref (a 41), .ref (a 42), .ref (a 45), .ref (a 48)]))]) H ∧ PP G ([(a 1, .inl (gQ G, 4, .inr (.inr (.inr (.inr (fun z => some (a (49 + 11 * z))))))))]) H ∧ NSP G a Ns H) (rng a 49 44)) 2 12 (rng a 49 44) := by
  refine vx_ofW (cc := cX11_input) (maxL := 3) (ret := (some .int)) (by decide) rfl ?_
  intro p e s m args below meth c s₁ B hml htab hv
  obtain ⟨⟨⟨rfl, hB, hK, hNW⟩, hLow⟩, hX⟩ := hv
  have hx := B.exec
  have hb := B.bytes
  have hr := B.returns
  have hts := atoms_spec (ws := wsX11_input) B.pre
  have hown : s.vm.findClass RX11 = some m.cls := findClass_of_methodNamed B.named
  have hlocks := B.notSynchronized
  have FX : CallFix p m c cX11_input 3 s ([.ref (a 0), .int p9] : List Value).toArray wsX11_input RX11 := ⟨hx, hb, hml, hown, hts⟩
  have hl := lv_entry ([.ref (a 0), .int p9]) (n := 3) (Nat.le_of_ble_eq_true rfl)
  rw [lg_entry_eq]
  generalize (lg_sl ([.ref (a 0), .int p9]) ++ List.replicate (3 - (lg_sl ([.ref (a 0), .int p9])).length) Slot.unset).toArray = ls at hl ⊢
  have hl : lv_has ls 3 [(0, .ref (a 0)), (1, .int p9)] := hl
  obtain ⟨h_g, h_arr, hns⟩ := hB
  have hS : va_S (rng a 49 44) s.heap s.heap [] := va_S.rf
  refine lv_aload_n hx hb dX11_input_0 rfl (lv_at hl 0 rfl) ?_
  refine lv_iload_n hx hb dX11_input_1 rfl (lv_at hl 1 rfl) ?_
  refine xcr (vx_runV (As := [.int p9]) (rest := []) FX (c_X11_netAt l hfl G a ha t9 p9) (cwV 1 hts gX11_input_X11_netAt rfl rfl rfl (by decide +kernel) ⟨Nat.le_of_ble_eq_true rfl, Nat.le_of_ble_eq_true rfl⟩) (preVX hK hNW (⟨h_g, h_arr⟩) (hLow.at hS (fun q9 _ q => rng_M q9 q)) (hX.at hS (fun q9 _ q => rng_M q9 q)) (va_recv hK h_g (ci := 11) (q0 := 0) rfl rfl)) rfl rfl hl.1 rfl (lv_room (Nat.le_of_ble_eq_true rfl)) dX11_input_2 ⟨Nat.le_of_ble_eq_true rfl, Nat.le_of_ble_eq_true rfl⟩) hS htab hlocks (fun H1 hk9 => ⟨kpF hk9 h_g, kpF hk9 h_arr, fun z hz => kpF hk9 (hns z hz)⟩) (fun E hE9 => XE_1 hE9.1 (if_neg hE9.2)) (Nat.le_of_ble_eq_true rfl) (Nat.le_of_ble_eq_true rfl) (fun _ hc0 H locs hk1 hS => ?_)
  have h_g : PP G ([(a 0, .inr (11, [.ref (a 1), .ref (a 2), .ref (a 4), .ref (a 6), .ref (a 21), .ref (a 28), .ref (a 31), .ref (a 36), .ref (a 41), .ref (a 42), .ref (a 45), .ref (a 48)]))]) H := kpF hk1 h_g
  have h_arr : PP G ([(a 1, .inl (gQ G, 4, .inr (.inr (.inr (.inr (fun z => some (a (49 + 11 * z))))))))]) H := kpF hk1 h_arr
  have hns : NSP G a Ns H := fun z hz => kpF hk1 (hns z hz)
  have hk4 := ix_lt hc0 (by omega)
  have h_f : PP G (famW G a Ns (ix p9)) H := fam_split hns
  have h_n : PP G (netW G a (49 + 11 * ix p9) (Ns (ix p9))) H := hns _ hk4
  have hN := hW _ hk4
  have hg9 := hN.g
  have ho9 := hN.o
  have hi9 := hN.2.1
  refine lv_astore_n (lv' := [(2, .ref (a (49 + 11 * ix p9))), (0, .ref (a 0)), (1, .int p9)]) hx hb dX11_input_5 rfl hl (by decide) rfl (fun ls hl => ?_)
  refine lv_aload_n hx hb dX11_input_6 rfl (lv_at hl 0 rfl) ?_
  refine ro_i (va_runV (As := []) (rest := []) FX (c_X3_isFull l G a (49 + 11 * ix p9) (Ns (ix p9)) hN) (cwV 0 hts gX11_input_X3_isFull rfl rfl rfl (by decide +kernel) ⟨Nat.le_of_ble_eq_true rfl, Nat.le_of_ble_eq_true rfl⟩) (preV hK hNW h_n (va_recv hK h_n (ci := 3) (q0 := 0) rfl rfl)) rfl rfl hl.1 rfl (lv_room (Nat.le_of_ble_eq_true rfl)) dX11_input_7 ⟨Nat.le_of_ble_eq_true rfl, Nat.le_of_ble_eq_true rfl⟩) ?_
  refine lv_if_ne (tgt := 22) hx hb dX11_input_10 (by decide) (fun c10 => ?_) (fun c10 => ?_)
  · skip
    have c10 := bI_1 c10
    exact thS (a := a) (cls := ISE) (text := "no room for an input") (is := 105) hx hb hfl hown (by decide +kernel) (hts (.classLink RX11 103 "java/lang/IllegalStateException") (List.mem_of_getElem? (i := 1) (by decide +kernel))) (hts (.initialized "java/lang/IllegalStateException") (List.mem_of_getElem? (i := 2) (by decide +kernel))) hX (by decide +kernel) (ht_ISE (fun w h => hts w (List.mem_cons_of_mem _ (List.mem_append_left _ (List.mem_append_right _ h)))) hX.2.1) hg_ISE (fun q9 q => rng_M q9 q) hS (hl.1.trans hml.symm) dX11_input_22 dX11_input_25 dX11_input_26 dX11_input_28 dX11_input_31 htab (Nat.le_of_ble_eq_true rfl) (Nat.le_of_ble_eq_true rfl) (Nat.le_of_ble_eq_true rfl) (Nat.le_of_ble_eq_true rfl) hlocks (XE_3 rfl ((if_pos hc0).trans (if_neg (fun q => by omega)))) (fun H1 hk9 => ⟨kpF hk9 h_g, kpF hk9 h_arr, fam_back (kpF hk9 h_f) (kpF hk9 h_n)⟩) (Nat.le_of_ble_eq_true rfl) (Nat.le_of_ble_eq_true rfl)
  · skip
    have c10 := bI_0.mp c10
    refine lv_aload_n hx hb dX11_input_13 rfl (lv_at hl 0 rfl) ?_
    refine ro_i (va_runV (As := []) (rest := []) FX (c_X3_inputCount l G a (49 + 11 * ix p9) (Ns (ix p9)) ) (cwV 0 hts gX11_input_X3_inputCount rfl rfl rfl (by decide +kernel) ⟨Nat.le_of_ble_eq_true rfl, Nat.le_of_ble_eq_true rfl⟩) (preV hK hNW h_n (va_recv hK h_n (ci := 3) (q0 := 0) rfl rfl)) rfl rfl hl.1 rfl (lv_room (Nat.le_of_ble_eq_true rfl)) dX11_input_14 ⟨Nat.le_of_ble_eq_true rfl, Nat.le_of_ble_eq_true rfl⟩) ?_
    refine lv_bipush (v := nI 30) hx hb dX11_input_17 (by decide) ?_
    refine lv_icmp_lt (tgt := 32) hx hb dX11_input_19 (by decide) (fun c19 => ?_) (fun c19 => ?_)
    · skip
      have c19 := cv_lt (by omega) (by omega) c19
      refine lv_aload_n hx hb dX11_input_32 rfl (lv_at hl 0 rfl) ?_
      refine wr_i (va_runV (As := []) (rest := []) FX (c_X3_addInput l G a ha (49 + 11 * ix p9) (Ns (ix p9)) (by omega)) (cwV 0 hts gX11_input_X3_addInput rfl rfl rfl (by decide +kernel) ⟨Nat.le_of_ble_eq_true rfl, Nat.le_of_ble_eq_true rfl⟩) (preV hK hNW h_n (va_recv hK h_n (ci := 3) (q0 := 0) rfl rfl)) rfl rfl hl.1 rfl (lv_room (Nat.le_of_ble_eq_true rfl)) dX11_input_33 ⟨Nat.le_of_ble_eq_true rfl, Nat.le_of_ble_eq_true rfl⟩) hS (rng_sub (by omega)) (fun rr _ H locs er hP9 hk2 hS => ?_)
      have h_n : PP G (netW G a (49 + 11 * ix p9) (addI (Ns (ix p9)))) H := hP9
      have h_g : PP G ([(a 0, .inr (11, [.ref (a 1), .ref (a 2), .ref (a 4), .ref (a 6), .ref (a 21), .ref (a 28), .ref (a 31), .ref (a 36), .ref (a 41), .ref (a 42), .ref (a 45), .ref (a 48)]))]) H := kp hk2 h_g (dj_cons (rng_no ha (by omega)) (dj_nil))
      have h_arr : PP G ([(a 1, .inl (gQ G, 4, .inr (.inr (.inr (.inr (fun z => some (a (49 + 11 * z))))))))]) H := kp hk2 h_arr (dj_cons (rng_no ha (by omega)) (dj_nil))
      have h_f : PP G (famW G a Ns (ix p9)) H := kp hk2 h_f (dj_famk ha)
      refine lv_as (y := nI (nG (Ns (ix p9)))) er ?_
      refine retw (Nat.le_of_ble_eq_true rfl) (Nat.le_of_ble_eq_true rfl) ?_
      exact en_wi () hx hb hr hlocks hS (⟨((if_pos hc0).trans (if_pos ⟨by omega, by omega⟩)), rfl⟩) (⟨h_g, h_arr, fam_join h_f h_n⟩) dX11_input_36
    · skip
      have c19 := cv_nlt (by omega) (by omega) c19
      exact thS (a := a) (cls := ISE) (text := "no room for an input") (is := 105) hx hb hfl hown (by decide +kernel) (hts (.classLink RX11 103 "java/lang/IllegalStateException") (List.mem_of_getElem? (i := 1) (by decide +kernel))) (hts (.initialized "java/lang/IllegalStateException") (List.mem_of_getElem? (i := 2) (by decide +kernel))) hX (by decide +kernel) (ht_ISE (fun w h => hts w (List.mem_cons_of_mem _ (List.mem_append_left _ (List.mem_append_right _ h)))) hX.2.1) hg_ISE (fun q9 q => rng_M q9 q) hS (hl.1.trans hml.symm) dX11_input_22 dX11_input_25 dX11_input_26 dX11_input_28 dX11_input_31 htab (Nat.le_of_ble_eq_true rfl) (Nat.le_of_ble_eq_true rfl) (Nat.le_of_ble_eq_true rfl) (Nat.le_of_ble_eq_true rfl) hlocks (XE_3 rfl ((if_pos hc0).trans (if_neg (fun q => by omega)))) (fun H1 hk9 => ⟨kpF hk9 h_g, kpF hk9 h_arr, fam_back (kpF hk9 h_f) (kpF hk9 h_n)⟩) (Nat.le_of_ble_eq_true rfl) (Nat.le_of_ble_eq_true rfl)
set_option maxHeartbeats 4000000 in
set_option maxRecDepth 100000 in
/-- out -/
theorem c_X11_out (l : Launch) (hfl : l.stackTraces = false) (G : GG) (a : Nat → Nat) (ha : Inj a) (t9 : Nat) (Ns : Nat → NT) (p9 g9 : Int32) (hW : ∀ z, z < 4 → WF (Ns z))  : vx_Met l yX11_out wsX11_out ({ frames := 7, cells := 3, slots := 18, locals := 103 } : Room) (PcX G a t9 [.ref (a 0), .int p9, .int g9] (fun H => PP G ([(a 0, .inr (11, [.ref (a 1), .ref (a 2), .ref (a 4), .ref (a 6), .ref (a 21), .ref (a 28), .ref (a 31), .ref (a 36), .ref (a 41), .ref (a 42), .ref (a 45), .ref (a 48)]))]) H ∧ PP G ([(a 1, .inl (gQ G, 4, .inr (.inr (.inr (.inr (fun z => some (a (49 + 11 * z))))))))]) H ∧ NSP G a Ns H)) (QI (fun (r : Int32) (_ : Unit) => cOu Ns p9 g9 = 0 ∧ r = nI (nO (Ns (ix p9)))) (fun _ H => PP G ([(a 0, .inr (11, [.ref (a 1), .ref (a 2), .ref (a 4), .ref (a 6), .ref (a 21), .ref (a 28), .ref (a 31), .ref (a 36), .ref (a 41), .ref (a 42), .ref (a 45), .ref (a 48)]))]) H ∧ PP G ([(a 1, .inl (gQ G, 4, .inr (.inr (.inr (.inr (fun z => some (a (49 + 11 * z))))))))]) H ∧ NSP G a (upN Ns (ix p9) (addO (Ns (ix p9)) (ix g9))) H) (rng a 49 44)) (XQ (XE (cOu Ns p9 g9)) (fun H => PP G ([(a 0, .inr (11, [.ref (a 1), .ref (a 2), .ref (a 4), .ref (a 6), .ref (a 21), .ref (a 28), .ref (a 31), .ref (a 36), .ref (a 41), .ref (a 42), .ref (a 45), .ref (a 48)]))]) H ∧ PP G ([(a 1, .inl (gQ G, 4, .inr (.inr (.inr (.inr (fun z => some (a (49 + 11 * z))))))))]) H ∧ NSP G a Ns H) (rng a 49 44)) 3 18 (rng a 49 44) := by
  refine vx_ofW (cc := cX11_out) (maxL := 4) (ret := (some .int)) (by decide) rfl ?_
  intro p e s m args below meth c s₁ B hml htab hv
  obtain ⟨⟨⟨rfl, hB, hK, hNW⟩, hLow⟩, hX⟩ := hv
  have hx := B.exec
  have hb := B.bytes
  have hr := B.returns
  have hts := atoms_spec (ws := wsX11_out) B.pre
  have hown : s.vm.findClass RX11 = some m.cls := findClass_of_methodNamed B.named
  have hlocks := B.notSynchronized
  have FX : CallFix p m c cX11_out 4 s ([.ref (a 0), .int p9, .int g9] : List Value).toArray wsX11_out RX11 := ⟨hx, hb, hml, hown, hts⟩
  have hl := lv_entry ([.ref (a 0), .int p9, .int g9]) (n := 4) (Nat.le_of_ble_eq_true rfl)
  rw [lg_entry_eq]
  generalize (lg_sl ([.ref (a 0), .int p9, .int g9]) ++ List.replicate (4 - (lg_sl ([.ref (a 0), .int p9, .int g9])).length) Slot.unset).toArray = ls at hl ⊢
  have hl : lv_has ls 4 [(0, .ref (a 0)), (1, .int p9), (2, .int g9)] := hl
  obtain ⟨h_g, h_arr, hns⟩ := hB
  have hS : va_S (rng a 49 44) s.heap s.heap [] := va_S.rf
  refine lv_aload_n hx hb dX11_out_0 rfl (lv_at hl 0 rfl) ?_
  refine lv_iload_n hx hb dX11_out_1 rfl (lv_at hl 1 rfl) ?_
  refine xcr (vx_runV (As := [.int p9]) (rest := []) FX (c_X11_netAt l hfl G a ha t9 p9) (cwV 1 hts gX11_out_X11_netAt rfl rfl rfl (by decide +kernel) ⟨Nat.le_of_ble_eq_true rfl, Nat.le_of_ble_eq_true rfl⟩) (preVX hK hNW (⟨h_g, h_arr⟩) (hLow.at hS (fun q9 _ q => rng_M q9 q)) (hX.at hS (fun q9 _ q => rng_M q9 q)) (va_recv hK h_g (ci := 11) (q0 := 0) rfl rfl)) rfl rfl hl.1 rfl (lv_room (Nat.le_of_ble_eq_true rfl)) dX11_out_2 ⟨Nat.le_of_ble_eq_true rfl, Nat.le_of_ble_eq_true rfl⟩) hS htab hlocks (fun H1 hk9 => ⟨kpF hk9 h_g, kpF hk9 h_arr, fun z hz => kpF hk9 (hns z hz)⟩) (fun E hE9 => XE_1 hE9.1 (if_neg hE9.2)) (Nat.le_of_ble_eq_true rfl) (Nat.le_of_ble_eq_true rfl) (fun _ hc0 H locs hk1 hS => ?_)
  have h_g : PP G ([(a 0, .inr (11, [.ref (a 1), .ref (a 2), .ref (a 4), .ref (a 6), .ref (a 21), .ref (a 28), .ref (a 31), .ref (a 36), .ref (a 41), .ref (a 42), .ref (a 45), .ref (a 48)]))]) H := kpF hk1 h_g
  have h_arr : PP G ([(a 1, .inl (gQ G, 4, .inr (.inr (.inr (.inr (fun z => some (a (49 + 11 * z))))))))]) H := kpF hk1 h_arr
  have hns : NSP G a Ns H := fun z hz => kpF hk1 (hns z hz)
  have hk4 := ix_lt hc0 (by omega)
  have h_f : PP G (famW G a Ns (ix p9)) H := fam_split hns
  have h_n : PP G (netW G a (49 + 11 * ix p9) (Ns (ix p9))) H := hns _ hk4
  have hN := hW _ hk4
  have hg9 := hN.g
  have ho9 := hN.o
  have hi9 := hN.2.1
  refine lv_astore_n (lv' := [(3, .ref (a (49 + 11 * ix p9))), (0, .ref (a 0)), (1, .int p9), (2, .int g9)]) hx hb dX11_out_5 rfl hl (by decide) rfl (fun ls hl => ?_)
  refine lv_aload_n hx hb dX11_out_6 rfl (lv_at hl 0 rfl) ?_
  refine lv_iload_n hx hb dX11_out_7 rfl (lv_at hl 3 rfl) ?_
  refine xcv (vx_runS (As := [.ref (a (49 + 11 * ix p9)), .int g9]) (rest := []) FX (c_X11_needGate l hfl G a ha t9 (ix p9) (Ns (ix p9)) g9) (va_cwS 2 hts gX11_out_X11_needGate rfl rfl rfl (by decide +kernel) ⟨Nat.le_of_ble_eq_true rfl, Nat.le_of_ble_eq_true rfl⟩) (preSX hK hNW h_n (hLow.at hS (fun q9 _ q => rng_M q9 q)) (hX.at hS (fun q9 _ q => rng_M q9 q))) rfl rfl hl.1 rfl (lv_room (Nat.le_of_ble_eq_true rfl)) dX11_out_8 ⟨Nat.le_of_ble_eq_true rfl, Nat.le_of_ble_eq_true rfl⟩) hS htab hlocks (fun H1 hk9 => ⟨kpF hk9 h_g, kpF hk9 h_arr, fam_back (kpF hk9 h_f) (kpF hk9 h_n)⟩) (fun E hE9 => XE_1 hE9.1 ((if_pos hc0).trans (if_neg hE9.2))) (Nat.le_of_ble_eq_true rfl) (Nat.le_of_ble_eq_true rfl) (fun q1 H locs hk2 hS => ?_)
  have h_g : PP G ([(a 0, .inr (11, [.ref (a 1), .ref (a 2), .ref (a 4), .ref (a 6), .ref (a 21), .ref (a 28), .ref (a 31), .ref (a 36), .ref (a 41), .ref (a 42), .ref (a 45), .ref (a 48)]))]) H := kpF hk2 h_g
  have h_arr : PP G ([(a 1, .inl (gQ G, 4, .inr (.inr (.inr (.inr (fun z => some (a (49 + 11 * z))))))))]) H := kpF hk2 h_arr
  have h_f : PP G (famW G a Ns (ix p9)) H := kpF hk2 h_f
  have h_n : PP G (netW G a (49 + 11 * ix p9) (Ns (ix p9))) H := kpF hk2 h_n
  have eg := ix_eq q1 (by omega)
  have lg := ix_lt q1 (by omega)
  rw [eg] at hl
  refine lv_aload_n hx hb dX11_out_11 rfl (lv_at hl 0 rfl) ?_
  refine ro_i (va_runV (As := []) (rest := []) FX (c_X3_outCount l G a (49 + 11 * ix p9) (Ns (ix p9)) ) (cwV 0 hts gX11_out_X3_outCount rfl rfl rfl (by decide +kernel) ⟨Nat.le_of_ble_eq_true rfl, Nat.le_of_ble_eq_true rfl⟩) (preV hK hNW h_n (va_recv hK h_n (ci := 3) (q0 := 0) rfl rfl)) rfl rfl hl.1 rfl (lv_room (Nat.le_of_ble_eq_true rfl)) dX11_out_12 ⟨Nat.le_of_ble_eq_true rfl, Nat.le_of_ble_eq_true rfl⟩) ?_
  refine lv_bipush (v := nI 16) hx hb dX11_out_15 (by decide) ?_
  refine lv_icmp_lt (tgt := 30) hx hb dX11_out_17 (by decide) (fun c17 => ?_) (fun c17 => ?_)
  · skip
    have c17 := cv_lt (by omega) (by omega) c17
    refine lv_aload_n hx hb dX11_out_30 rfl (lv_at hl 0 rfl) ?_
    refine lv_iload_n hx hb dX11_out_31 rfl (lv_at hl 3 rfl) ?_
    refine wr_i (va_runV (As := [.int (nI (ix g9))]) (rest := []) FX (c_X3_addOut l G a ha (49 + 11 * ix p9) (Ns (ix p9)) (ix g9) (by omega)) (cwV 1 hts gX11_out_X3_addOut rfl rfl rfl (by decide +kernel) ⟨Nat.le_of_ble_eq_true rfl, Nat.le_of_ble_eq_true rfl⟩) (preV hK hNW h_n (va_recv hK h_n (ci := 3) (q0 := 0) rfl rfl)) rfl rfl hl.1 rfl (lv_room (Nat.le_of_ble_eq_true rfl)) dX11_out_32 ⟨Nat.le_of_ble_eq_true rfl, Nat.le_of_ble_eq_true rfl⟩) hS (rng_sub (by omega)) (fun rr _ H locs er hP9 hk3 hS => ?_)
    have h_n : PP G (netW G a (49 + 11 * ix p9) (addO (Ns (ix p9)) (ix g9))) H := hP9
    have h_g : PP G ([(a 0, .inr (11, [.ref (a 1), .ref (a 2), .ref (a 4), .ref (a 6), .ref (a 21), .ref (a 28), .ref (a 31), .ref (a 36), .ref (a 41), .ref (a 42), .ref (a 45), .ref (a 48)]))]) H := kp hk3 h_g (dj_cons (rng_no ha (by omega)) (dj_nil))
    have h_arr : PP G ([(a 1, .inl (gQ G, 4, .inr (.inr (.inr (.inr (fun z => some (a (49 + 11 * z))))))))]) H := kp hk3 h_arr (dj_cons (rng_no ha (by omega)) (dj_nil))
    have h_f : PP G (famW G a Ns (ix p9)) H := kp hk3 h_f (dj_famk ha)
    refine lv_as (y := nI (nO (Ns (ix p9)))) er ?_
    refine retw (Nat.le_of_ble_eq_true rfl) (Nat.le_of_ble_eq_true rfl) ?_
    exact en_wi () hx hb hr hlocks hS (⟨((if_pos hc0).trans ((if_pos q1).trans (if_pos (by omega)))), rfl⟩) (⟨h_g, h_arr, fam_join h_f h_n⟩) dX11_out_35
  · skip
    have c17 := cv_nlt (by omega) (by omega) c17
    exact thS (a := a) (cls := ISE) (text := "no room for an out") (is := 129) hx hb hfl hown (by decide +kernel) (hts (.classLink RX11 103 "java/lang/IllegalStateException") (List.mem_of_getElem? (i := 1) (by decide +kernel))) (hts (.initialized "java/lang/IllegalStateException") (List.mem_of_getElem? (i := 2) (by decide +kernel))) hX (by decide +kernel) (ht_ISE (fun w h => hts w (List.mem_cons_of_mem _ (List.mem_append_left _ (List.mem_append_right _ h)))) hX.2.1) hg_ISE (fun q9 q => rng_M q9 q) hS (hl.1.trans hml.symm) dX11_out_20 dX11_out_23 dX11_out_24 dX11_out_26 dX11_out_29 htab (Nat.le_of_ble_eq_true rfl) (Nat.le_of_ble_eq_true rfl) (Nat.le_of_ble_eq_true rfl) (Nat.le_of_ble_eq_true rfl) hlocks (XE_3 rfl ((if_pos hc0).trans ((if_pos q1).trans (if_neg (fun q => by omega))))) (fun H1 hk9 => ⟨kpF hk9 h_g, kpF hk9 h_arr, fam_back (kpF hk9 h_f) (kpF hk9 h_n)⟩) (Nat.le_of_ble_eq_true rfl) (Nat.le_of_ble_eq_true rfl)
set_option maxHeartbeats 4000000 in
set_option maxRecDepth 100000 in
/-- clear -/
theorem c_X11_clear (l : Launch) (hfl : l.stackTraces = false) (G : GG) (a : Nat → Nat) (ha : Inj a) (t9 : Nat) (Ns : Nat → NT) (p9 : Int32) (hW : ∀ z, z < 4 → WF (Ns z))  : vx_Met l yX11_clear wsX11_clear ({ frames := 7, cells := 1, slots := 6, locals := 103 } : Room) (PcX G a t9 [.ref (a 0), .int p9] (fun H => PP G ([(a 0, .inr (11, [.ref (a 1), .ref (a 2), .ref (a 4), .ref (a 6), .ref (a 21), .ref (a 28), .ref (a 31), .ref (a 36), .ref (a 41), .ref (a 42), .ref (a 45), .ref (a 48)]))]) H ∧ PP G ([(a 1, .inl (gQ G, 4, .inr (.inr (.inr (.inr (fun z => some (a (49 + 11 * z))))))))]) H ∧ NSP G a Ns H)) (QI (fun (r : Int32) (_ : Unit) => cCl p9 = 0 ∧ r = nI (nG (Ns (ix p9)))) (fun _ H => PP G ([(a 0, .inr (11, [.ref (a 1), .ref (a 2), .ref (a 4), .ref (a 6), .ref (a 21), .ref (a 28), .ref (a 31), .ref (a 36), .ref (a 41), .ref (a 42), .ref (a 45), .ref (a 48)]))]) H ∧ PP G ([(a 1, .inl (gQ G, 4, .inr (.inr (.inr (.inr (fun z => some (a (49 + 11 * z))))))))]) H ∧ NSP G a (upN Ns (ix p9) (clrN (Ns (ix p9)))) H) (rng a 49 44)) (XQ (XE (cCl p9)) (fun H => PP G ([(a 0, .inr (11, [.ref (a 1), .ref (a 2), .ref (a 4), .ref (a 6), .ref (a 21), .ref (a 28), .ref (a 31), .ref (a 36), .ref (a 41), .ref (a 42), .ref (a 45), .ref (a 48)]))]) H ∧ PP G ([(a 1, .inl (gQ G, 4, .inr (.inr (.inr (.inr (fun z => some (a (49 + 11 * z))))))))]) H ∧ NSP G a Ns H) (rng a 49 44)) 1 6 (rng a 49 44) := by
  refine vx_ofW (cc := cX11_clear) (maxL := 4) (ret := (some .int)) (by decide) rfl ?_
  intro p e s m args below meth c s₁ B hml htab hv
  obtain ⟨⟨⟨rfl, hB, hK, hNW⟩, hLow⟩, hX⟩ := hv
  have hx := B.exec
  have hb := B.bytes
  have hr := B.returns
  have hts := atoms_spec (ws := wsX11_clear) B.pre
  have hown : s.vm.findClass RX11 = some m.cls := findClass_of_methodNamed B.named
  have hlocks := B.notSynchronized
  have FX : CallFix p m c cX11_clear 4 s ([.ref (a 0), .int p9] : List Value).toArray wsX11_clear RX11 := ⟨hx, hb, hml, hown, hts⟩
  have hl := lv_entry ([.ref (a 0), .int p9]) (n := 4) (Nat.le_of_ble_eq_true rfl)
  rw [lg_entry_eq]
  generalize (lg_sl ([.ref (a 0), .int p9]) ++ List.replicate (4 - (lg_sl ([.ref (a 0), .int p9])).length) Slot.unset).toArray = ls at hl ⊢
  have hl : lv_has ls 4 [(0, .ref (a 0)), (1, .int p9)] := hl
  obtain ⟨h_g, h_arr, hns⟩ := hB
  have hS : va_S (rng a 49 44) s.heap s.heap [] := va_S.rf
  refine lv_aload_n hx hb dX11_clear_0 rfl (lv_at hl 0 rfl) ?_
  refine lv_iload_n hx hb dX11_clear_1 rfl (lv_at hl 1 rfl) ?_
  refine xcr (vx_runV (As := [.int p9]) (rest := []) FX (c_X11_netAt l hfl G a ha t9 p9) (cwV 1 hts gX11_clear_X11_netAt rfl rfl rfl (by decide +kernel) ⟨Nat.le_of_ble_eq_true rfl, Nat.le_of_ble_eq_true rfl⟩) (preVX hK hNW (⟨h_g, h_arr⟩) (hLow.at hS (fun q9 _ q => rng_M q9 q)) (hX.at hS (fun q9 _ q => rng_M q9 q)) (va_recv hK h_g (ci := 11) (q0 := 0) rfl rfl)) rfl rfl hl.1 rfl (lv_room (Nat.le_of_ble_eq_true rfl)) dX11_clear_2 ⟨Nat.le_of_ble_eq_true rfl, Nat.le_of_ble_eq_true rfl⟩) hS htab hlocks (fun H1 hk9 => ⟨kpF hk9 h_g, kpF hk9 h_arr, fun z hz => kpF hk9 (hns z hz)⟩) (fun E hE9 => XE_1 hE9.1 (if_neg hE9.2)) (Nat.le_of_ble_eq_true rfl) (Nat.le_of_ble_eq_true rfl) (fun _ hc0 H locs hk1 hS => ?_)
  have h_g : PP G ([(a 0, .inr (11, [.ref (a 1), .ref (a 2), .ref (a 4), .ref (a 6), .ref (a 21), .ref (a 28), .ref (a 31), .ref (a 36), .ref (a 41), .ref (a 42), .ref (a 45), .ref (a 48)]))]) H := kpF hk1 h_g
  have h_arr : PP G ([(a 1, .inl (gQ G, 4, .inr (.inr (.inr (.inr (fun z => some (a (49 + 11 * z))))))))]) H := kpF hk1 h_arr
  have hns : NSP G a Ns H := fun z hz => kpF hk1 (hns z hz)
  have hk4 := ix_lt hc0 (by omega)
  have h_f : PP G (famW G a Ns (ix p9)) H := fam_split hns
  have h_n : PP G (netW G a (49 + 11 * ix p9) (Ns (ix p9))) H := hns _ hk4
  have hN := hW _ hk4
  have hg9 := hN.g
  have ho9 := hN.o
  have hi9 := hN.2.1
  refine lv_astore_n (lv' := [(2, .ref (a (49 + 11 * ix p9))), (0, .ref (a 0)), (1, .int p9)]) hx hb dX11_clear_5 rfl hl (by decide) rfl (fun ls hl => ?_)
  refine lv_aload_n hx hb dX11_clear_6 rfl (lv_at hl 0 rfl) ?_
  refine ro_i (va_runV (As := []) (rest := []) FX (c_X3_size l G a (49 + 11 * ix p9) (Ns (ix p9)) ) (cwV 0 hts gX11_clear_X3_size rfl rfl rfl (by decide +kernel) ⟨Nat.le_of_ble_eq_true rfl, Nat.le_of_ble_eq_true rfl⟩) (preV hK hNW h_n (va_recv hK h_n (ci := 3) (q0 := 0) rfl rfl)) rfl rfl hl.1 rfl (lv_room (Nat.le_of_ble_eq_true rfl)) dX11_clear_7 ⟨Nat.le_of_ble_eq_true rfl, Nat.le_of_ble_eq_true rfl⟩) ?_
  refine lv_istore_n (lv' := [(3, .int (nI (nG (Ns (ix p9))))), (2, .ref (a (49 + 11 * ix p9))), (0, .ref (a 0)), (1, .int p9)]) hx hb dX11_clear_10 rfl hl (by decide) rfl (fun ls hl => ?_)
  refine lv_aload_n hx hb dX11_clear_11 rfl (lv_at hl 1 rfl) ?_
  refine wr_v (va_runV (As := []) (rest := []) FX (c_X3_removeAll l G a ha (49 + 11 * ix p9) (Ns (ix p9))) (cwV 0 hts gX11_clear_X3_removeAll rfl rfl rfl (by decide +kernel) ⟨Nat.le_of_ble_eq_true rfl, Nat.le_of_ble_eq_true rfl⟩) (preV hK hNW h_n (va_recv hK h_n (ci := 3) (q0 := 0) rfl rfl)) rfl rfl hl.1 rfl (lv_room (Nat.le_of_ble_eq_true rfl)) dX11_clear_12 ⟨Nat.le_of_ble_eq_true rfl, Nat.le_of_ble_eq_true rfl⟩) hS (rng_sub (by omega)) (fun _ H locs _ hP9 hk2 hS => ?_)
  have h_n : PP G (netW G a (49 + 11 * ix p9) (clrN (Ns (ix p9)))) H := hP9
  have h_g : PP G ([(a 0, .inr (11, [.ref (a 1), .ref (a 2), .ref (a 4), .ref (a 6), .ref (a 21), .ref (a 28), .ref (a 31), .ref (a 36), .ref (a 41), .ref (a 42), .ref (a 45), .ref (a 48)]))]) H := kp hk2 h_g (dj_cons (rng_no ha (by omega)) (dj_nil))
  have h_arr : PP G ([(a 1, .inl (gQ G, 4, .inr (.inr (.inr (.inr (fun z => some (a (49 + 11 * z))))))))]) H := kp hk2 h_arr (dj_cons (rng_no ha (by omega)) (dj_nil))
  have h_f : PP G (famW G a Ns (ix p9)) H := kp hk2 h_f (dj_famk ha)
  refine lv_iload_n hx hb dX11_clear_15 rfl (lv_at hl 0 rfl) ?_
  refine retw (Nat.le_of_ble_eq_true rfl) (Nat.le_of_ble_eq_true rfl) ?_
  exact en_wi () hx hb hr hlocks hS (⟨(if_pos hc0), rfl⟩) (⟨h_g, h_arr, fam_join h_f h_n⟩) dX11_clear_16
set_option maxHeartbeats 4000000 in
set_option maxRecDepth 100000 in
/-- stick -/
theorem c_X11_stick (l : Launch) (hfl : l.stackTraces = false) (G : GG) (a : Nat → Nat) (ha : Inj a) (t9 : Nat) (Ns : Nat → NT) (p9 g9 b9 : Int32) (hW : ∀ z, z < 4 → WF (Ns z))  : vx_Met l yX11_stick wsX11_stick ({ frames := 7, cells := 3, slots := 18, locals := 104 } : Room) (PcX G a t9 [.ref (a 0), .int p9, .int g9, .int b9] (fun H => PP G ([(a 0, .inr (11, [.ref (a 1), .ref (a 2), .ref (a 4), .ref (a 6), .ref (a 21), .ref (a 28), .ref (a 31), .ref (a 36), .ref (a 41), .ref (a 42), .ref (a 45), .ref (a 48)]))]) H ∧ PP G ([(a 1, .inl (gQ G, 4, .inr (.inr (.inr (.inr (fun z => some (a (49 + 11 * z))))))))]) H ∧ NSP G a Ns H)) (QI (fun (r : Int32) (_ : Unit) => cSt Ns p9 g9 b9 = 0 ∧ r = nT (Ns (ix p9)) (ix g9)) (fun _ H => PP G ([(a 0, .inr (11, [.ref (a 1), .ref (a 2), .ref (a 4), .ref (a 6), .ref (a 21), .ref (a 28), .ref (a 31), .ref (a 36), .ref (a 41), .ref (a 42), .ref (a 45), .ref (a 48)]))]) H ∧ PP G ([(a 1, .inl (gQ G, 4, .inr (.inr (.inr (.inr (fun z => some (a (49 + 11 * z))))))))]) H ∧ NSP G a (upN Ns (ix p9) (stkN (Ns (ix p9)) (ix g9) b9)) H) (rng a 49 44)) (XQ (XE (cSt Ns p9 g9 b9)) (fun H => PP G ([(a 0, .inr (11, [.ref (a 1), .ref (a 2), .ref (a 4), .ref (a 6), .ref (a 21), .ref (a 28), .ref (a 31), .ref (a 36), .ref (a 41), .ref (a 42), .ref (a 45), .ref (a 48)]))]) H ∧ PP G ([(a 1, .inl (gQ G, 4, .inr (.inr (.inr (.inr (fun z => some (a (49 + 11 * z))))))))]) H ∧ NSP G a Ns H) (rng a 49 44)) 3 18 (rng a 49 44) := by
  refine vx_ofW (cc := cX11_stick) (maxL := 6) (ret := (some .int)) (by decide) rfl ?_
  intro p e s m args below meth c s₁ B hml htab hv
  obtain ⟨⟨⟨rfl, hB, hK, hNW⟩, hLow⟩, hX⟩ := hv
  have hx := B.exec
  have hb := B.bytes
  have hr := B.returns
  have hts := atoms_spec (ws := wsX11_stick) B.pre
  have hown : s.vm.findClass RX11 = some m.cls := findClass_of_methodNamed B.named
  have hlocks := B.notSynchronized
  have FX : CallFix p m c cX11_stick 6 s ([.ref (a 0), .int p9, .int g9, .int b9] : List Value).toArray wsX11_stick RX11 := ⟨hx, hb, hml, hown, hts⟩
  have hl := lv_entry ([.ref (a 0), .int p9, .int g9, .int b9]) (n := 6) (Nat.le_of_ble_eq_true rfl)
  rw [lg_entry_eq]
  generalize (lg_sl ([.ref (a 0), .int p9, .int g9, .int b9]) ++ List.replicate (6 - (lg_sl ([.ref (a 0), .int p9, .int g9, .int b9])).length) Slot.unset).toArray = ls at hl ⊢
  have hl : lv_has ls 6 [(0, .ref (a 0)), (1, .int p9), (2, .int g9), (3, .int b9)] := hl
  obtain ⟨h_g, h_arr, hns⟩ := hB
  have hS : va_S (rng a 49 44) s.heap s.heap [] := va_S.rf
  refine lv_aload_n hx hb dX11_stick_0 rfl (lv_at hl 0 rfl) ?_
  refine lv_iload_n hx hb dX11_stick_1 rfl (lv_at hl 1 rfl) ?_
  refine xcr (vx_runV (As := [.int p9]) (rest := []) FX (c_X11_netAt l hfl G a ha t9 p9) (cwV 1 hts gX11_stick_X11_netAt rfl rfl rfl (by decide +kernel) ⟨Nat.le_of_ble_eq_true rfl, Nat.le_of_ble_eq_true rfl⟩) (preVX hK hNW (⟨h_g, h_arr⟩) (hLow.at hS (fun q9 _ q => rng_M q9 q)) (hX.at hS (fun q9 _ q => rng_M q9 q)) (va_recv hK h_g (ci := 11) (q0 := 0) rfl rfl)) rfl rfl hl.1 rfl (lv_room (Nat.le_of_ble_eq_true rfl)) dX11_stick_2 ⟨Nat.le_of_ble_eq_true rfl, Nat.le_of_ble_eq_true rfl⟩) hS htab hlocks (fun H1 hk9 => ⟨kpF hk9 h_g, kpF hk9 h_arr, fun z hz => kpF hk9 (hns z hz)⟩) (fun E hE9 => XE_1 hE9.1 (if_neg hE9.2)) (Nat.le_of_ble_eq_true rfl) (Nat.le_of_ble_eq_true rfl) (fun _ hc0 H locs hk1 hS => ?_)
  have h_g : PP G ([(a 0, .inr (11, [.ref (a 1), .ref (a 2), .ref (a 4), .ref (a 6), .ref (a 21), .ref (a 28), .ref (a 31), .ref (a 36), .ref (a 41), .ref (a 42), .ref (a 45), .ref (a 48)]))]) H := kpF hk1 h_g
  have h_arr : PP G ([(a 1, .inl (gQ G, 4, .inr (.inr (.inr (.inr (fun z => some (a (49 + 11 * z))))))))]) H := kpF hk1 h_arr
  have hns : NSP G a Ns H := fun z hz => kpF hk1 (hns z hz)
  have hk4 := ix_lt hc0 (by omega)
  have h_f : PP G (famW G a Ns (ix p9)) H := fam_split hns
  have h_n : PP G (netW G a (49 + 11 * ix p9) (Ns (ix p9))) H := hns _ hk4
  have hN := hW _ hk4
  have hg9 := hN.g
  have ho9 := hN.o
  have hi9 := hN.2.1
  refine lv_astore (lv' := [(4, .ref (a (49 + 11 * ix p9))), (0, .ref (a 0)), (1, .int p9), (2, .int g9), (3, .int b9)]) hx hb dX11_stick_5 hl (by decide) rfl (fun ls hl => ?_)
  refine lv_aload hx hb dX11_stick_7 (lv_at hl 0 rfl) ?_
  refine lv_iload_n hx hb dX11_stick_9 rfl (lv_at hl 3 rfl) ?_
  refine xcv (vx_runS (As := [.ref (a (49 + 11 * ix p9)), .int g9]) (rest := []) FX (c_X11_needGate l hfl G a ha t9 (ix p9) (Ns (ix p9)) g9) (va_cwS 2 hts gX11_stick_X11_needGate rfl rfl rfl (by decide +kernel) ⟨Nat.le_of_ble_eq_true rfl, Nat.le_of_ble_eq_true rfl⟩) (preSX hK hNW h_n (hLow.at hS (fun q9 _ q => rng_M q9 q)) (hX.at hS (fun q9 _ q => rng_M q9 q))) rfl rfl hl.1 rfl (lv_room (Nat.le_of_ble_eq_true rfl)) dX11_stick_10 ⟨Nat.le_of_ble_eq_true rfl, Nat.le_of_ble_eq_true rfl⟩) hS htab hlocks (fun H1 hk9 => ⟨kpF hk9 h_g, kpF hk9 h_arr, fam_back (kpF hk9 h_f) (kpF hk9 h_n)⟩) (fun E hE9 => XE_1 hE9.1 ((if_pos hc0).trans (if_neg hE9.2))) (Nat.le_of_ble_eq_true rfl) (Nat.le_of_ble_eq_true rfl) (fun q1 H locs hk2 hS => ?_)
  have h_g : PP G ([(a 0, .inr (11, [.ref (a 1), .ref (a 2), .ref (a 4), .ref (a 6), .ref (a 21), .ref (a 28), .ref (a 31), .ref (a 36), .ref (a 41), .ref (a 42), .ref (a 45), .ref (a 48)]))]) H := kpF hk2 h_g
  have h_arr : PP G ([(a 1, .inl (gQ G, 4, .inr (.inr (.inr (.inr (fun z => some (a (49 + 11 * z))))))))]) H := kpF hk2 h_arr
  have h_f : PP G (famW G a Ns (ix p9)) H := kpF hk2 h_f
  have h_n : PP G (netW G a (49 + 11 * ix p9) (Ns (ix p9))) H := kpF hk2 h_n
  have eg := ix_eq q1 (by omega)
  have lg := ix_lt q1 (by omega)
  rw [eg] at hl
  refine lv_iload_n hx hb dX11_stick_13 rfl (lv_at hl 4 rfl) ?_
  refine lv_iconst (v := -1) hx hb dX11_stick_14 (by decide) ?_
  refine lv_iconst (v := nI 1) hx hb dX11_stick_15 (by decide) ?_
  refine xcv (vx_runS (As := [.int b9, .int (-1), .int (nI 1)]) (rest := []) FX (c_X11_needRange l hfl G a ha t9 b9 (-1) (nI 1)) (va_cwS 3 hts gX11_stick_X11_needRange rfl rfl rfl (by decide +kernel) ⟨Nat.le_of_ble_eq_true rfl, Nat.le_of_ble_eq_true rfl⟩) (preSX hK hNW trivial (hLow.at hS (fun q9 _ q => rng_M q9 q)) (hX.at hS (fun q9 _ q => rng_M q9 q))) rfl rfl hl.1 rfl (lv_room (Nat.le_of_ble_eq_true rfl)) dX11_stick_16 ⟨Nat.le_of_ble_eq_true rfl, Nat.le_of_ble_eq_true rfl⟩) hS htab hlocks (fun H1 hk9 => ⟨kpF hk9 h_g, kpF hk9 h_arr, fam_back (kpF hk9 h_f) (kpF hk9 h_n)⟩) (fun E hE9 => XE_2 hE9.1 ((if_pos hc0).trans ((if_pos q1).trans (if_neg hE9.2)))) (Nat.le_of_ble_eq_true rfl) (Nat.le_of_ble_eq_true rfl) (fun q2 H locs hk3 hS => ?_)
  have h_g : PP G ([(a 0, .inr (11, [.ref (a 1), .ref (a 2), .ref (a 4), .ref (a 6), .ref (a 21), .ref (a 28), .ref (a 31), .ref (a 36), .ref (a 41), .ref (a 42), .ref (a 45), .ref (a 48)]))]) H := kpF hk3 h_g
  have h_arr : PP G ([(a 1, .inl (gQ G, 4, .inr (.inr (.inr (.inr (fun z => some (a (49 + 11 * z))))))))]) H := kpF hk3 h_arr
  have h_f : PP G (famW G a Ns (ix p9)) H := kpF hk3 h_f
  have h_n : PP G (netW G a (49 + 11 * ix p9) (Ns (ix p9))) H := kpF hk3 h_n
  refine lv_aload hx hb dX11_stick_19 (lv_at hl 0 rfl) ?_
  refine lv_iload_n hx hb dX11_stick_21 rfl (lv_at hl 3 rfl) ?_
  refine ro_i (va_runV (As := [.int (nI (ix g9))]) (rest := []) FX (c_X3_stuckBitOf l G a (49 + 11 * ix p9) (Ns (ix p9)) hN (ix g9) lg) (cwV 1 hts gX11_stick_X3_stuckBitOf rfl rfl rfl (by decide +kernel) ⟨Nat.le_of_ble_eq_true rfl, Nat.le_of_ble_eq_true rfl⟩) (preV hK hNW h_n (va_recv hK h_n (ci := 3) (q0 := 0) rfl rfl)) rfl rfl hl.1 rfl (lv_room (Nat.le_of_ble_eq_true rfl)) dX11_stick_22 ⟨Nat.le_of_ble_eq_true rfl, Nat.le_of_ble_eq_true rfl⟩) ?_
  refine lv_istore (lv' := [(5, .int (nT (Ns (ix p9)) (ix g9))), (4, .ref (a (49 + 11 * ix p9))), (0, .ref (a 0)), (1, .int p9), (2, .int (nI (ix g9))), (3, .int b9)]) hx hb dX11_stick_25 hl (by decide) rfl (fun ls hl => ?_)
  refine lv_aload hx hb dX11_stick_27 (lv_at hl 1 rfl) ?_
  refine lv_iload_n hx hb dX11_stick_29 rfl (lv_at hl 4 rfl) ?_
  refine lv_iload_n hx hb dX11_stick_30 rfl (lv_at hl 5 rfl) ?_
  refine wr_v (va_runV (As := [.int (nI (ix g9)), .int b9]) (rest := []) FX (c_X3_setStuckBit l G a ha (49 + 11 * ix p9) (Ns (ix p9)) (ix g9) b9 (by omega)) (cwV 2 hts gX11_stick_X3_setStuckBit rfl rfl rfl (by decide +kernel) ⟨Nat.le_of_ble_eq_true rfl, Nat.le_of_ble_eq_true rfl⟩) (preV hK hNW h_n (va_recv hK h_n (ci := 3) (q0 := 0) rfl rfl)) rfl rfl hl.1 rfl (lv_room (Nat.le_of_ble_eq_true rfl)) dX11_stick_31 ⟨Nat.le_of_ble_eq_true rfl, Nat.le_of_ble_eq_true rfl⟩) hS (rng_sub (by omega)) (fun _ H locs _ hP9 hk4 hS => ?_)
  have h_n : PP G (netW G a (49 + 11 * ix p9) (stkN (Ns (ix p9)) (ix g9) b9)) H := hP9
  have h_g : PP G ([(a 0, .inr (11, [.ref (a 1), .ref (a 2), .ref (a 4), .ref (a 6), .ref (a 21), .ref (a 28), .ref (a 31), .ref (a 36), .ref (a 41), .ref (a 42), .ref (a 45), .ref (a 48)]))]) H := kp hk4 h_g (dj_cons (rng_no ha (by omega)) (dj_nil))
  have h_arr : PP G ([(a 1, .inl (gQ G, 4, .inr (.inr (.inr (.inr (fun z => some (a (49 + 11 * z))))))))]) H := kp hk4 h_arr (dj_cons (rng_no ha (by omega)) (dj_nil))
  have h_f : PP G (famW G a Ns (ix p9)) H := kp hk4 h_f (dj_famk ha)
  refine lv_iload hx hb dX11_stick_34 (lv_at hl 0 rfl) ?_
  refine retw (Nat.le_of_ble_eq_true rfl) (Nat.le_of_ble_eq_true rfl) ?_
  exact en_wi () hx hb hr hlocks hS (⟨((if_pos hc0).trans ((if_pos q1).trans (if_pos q2))), rfl⟩) (⟨h_g, h_arr, fam_join h_f h_n⟩) dX11_stick_36
set_option maxHeartbeats 4000000 in
set_option maxRecDepth 100000 in
/-- gate -/
theorem c_X11_gate (l : Launch) (hfl : l.stackTraces = false) (G : GG) (a : Nat → Nat) (ha : Inj a) (t9 : Nat) (Ns : Nat → NT) (p9 kd9 f9 s9 : Int32) (hW : ∀ z, z < 4 → WF (Ns z))  : vx_Met l yX11_gate wsX11_gate ({ frames := 7, cells := 5, slots := 30, locals := 103 } : Room) (PcX G a t9 [.ref (a 0), .int p9, .int kd9, .int f9, .int s9] (fun H => PP G ([(a 0, .inr (11, [.ref (a 1), .ref (a 2), .ref (a 4), .ref (a 6), .ref (a 21), .ref (a 28), .ref (a 31), .ref (a 36), .ref (a 41), .ref (a 42), .ref (a 45), .ref (a 48)]))]) H ∧ PP G ([(a 1, .inl (gQ G, 4, .inr (.inr (.inr (.inr (fun z => some (a (49 + 11 * z))))))))]) H ∧ NSP G a Ns H)) (QI (fun (r : Int32) (_ : Unit) => cGa Ns p9 kd9 f9 s9 = 0 ∧ r = nI (nG (Ns (ix p9)))) (fun _ H => PP G ([(a 0, .inr (11, [.ref (a 1), .ref (a 2), .ref (a 4), .ref (a 6), .ref (a 21), .ref (a 28), .ref (a 31), .ref (a 36), .ref (a 41), .ref (a 42), .ref (a 45), .ref (a 48)]))]) H ∧ PP G ([(a 1, .inl (gQ G, 4, .inr (.inr (.inr (.inr (fun z => some (a (49 + 11 * z))))))))]) H ∧ NSP G a (upN Ns (ix p9) (addG (Ns (ix p9)) (ix kd9) (ix f9) (if ix kd9 = 3 then ix f9 else ix s9))) H) (rng a 49 44)) (XQ (XE (cGa Ns p9 kd9 f9 s9)) (fun H => PP G ([(a 0, .inr (11, [.ref (a 1), .ref (a 2), .ref (a 4), .ref (a 6), .ref (a 21), .ref (a 28), .ref (a 31), .ref (a 36), .ref (a 41), .ref (a 42), .ref (a 45), .ref (a 48)]))]) H ∧ PP G ([(a 1, .inl (gQ G, 4, .inr (.inr (.inr (.inr (fun z => some (a (49 + 11 * z))))))))]) H ∧ NSP G a Ns H) (rng a 49 44)) 5 30 (rng a 49 44) := by
  refine vx_ofW (cc := cX11_gate) (maxL := 6) (ret := (some .int)) (by decide) rfl ?_
  intro p e s m args below meth c s₁ B hml htab hv
  obtain ⟨⟨⟨rfl, hB, hK, hNW⟩, hLow⟩, hX⟩ := hv
  have hx := B.exec
  have hb := B.bytes
  have hr := B.returns
  have hts := atoms_spec (ws := wsX11_gate) B.pre
  have hown : s.vm.findClass RX11 = some m.cls := findClass_of_methodNamed B.named
  have hlocks := B.notSynchronized
  have FX : CallFix p m c cX11_gate 6 s ([.ref (a 0), .int p9, .int kd9, .int f9, .int s9] : List Value).toArray wsX11_gate RX11 := ⟨hx, hb, hml, hown, hts⟩
  have hl := lv_entry ([.ref (a 0), .int p9, .int kd9, .int f9, .int s9]) (n := 6) (Nat.le_of_ble_eq_true rfl)
  rw [lg_entry_eq]
  generalize (lg_sl ([.ref (a 0), .int p9, .int kd9, .int f9, .int s9]) ++ List.replicate (6 - (lg_sl ([.ref (a 0), .int p9, .int kd9, .int f9, .int s9])).length) Slot.unset).toArray = ls at hl ⊢
  have hl : lv_has ls 6 [(0, .ref (a 0)), (1, .int p9), (2, .int kd9), (3, .int f9), (4, .int s9)] := hl
  obtain ⟨h_g, h_arr, hns⟩ := hB
  have hS : va_S (rng a 49 44) s.heap s.heap [] := va_S.rf
  refine lv_aload_n hx hb dX11_gate_0 rfl (lv_at hl 0 rfl) ?_
  refine lv_iload_n hx hb dX11_gate_1 rfl (lv_at hl 1 rfl) ?_
  refine xcr (vx_runV (As := [.int p9]) (rest := []) FX (c_X11_netAt l hfl G a ha t9 p9) (cwV 1 hts gX11_gate_X11_netAt rfl rfl rfl (by decide +kernel) ⟨Nat.le_of_ble_eq_true rfl, Nat.le_of_ble_eq_true rfl⟩) (preVX hK hNW (⟨h_g, h_arr⟩) (hLow.at hS (fun q9 _ q => rng_M q9 q)) (hX.at hS (fun q9 _ q => rng_M q9 q)) (va_recv hK h_g (ci := 11) (q0 := 0) rfl rfl)) rfl rfl hl.1 rfl (lv_room (Nat.le_of_ble_eq_true rfl)) dX11_gate_2 ⟨Nat.le_of_ble_eq_true rfl, Nat.le_of_ble_eq_true rfl⟩) hS htab hlocks (fun H1 hk9 => ⟨kpF hk9 h_g, kpF hk9 h_arr, fun z hz => kpF hk9 (hns z hz)⟩) (fun E hE9 => XE_1 hE9.1 (if_neg hE9.2)) (Nat.le_of_ble_eq_true rfl) (Nat.le_of_ble_eq_true rfl) (fun _ hc0 H locs hk1 hS => ?_)
  have h_g : PP G ([(a 0, .inr (11, [.ref (a 1), .ref (a 2), .ref (a 4), .ref (a 6), .ref (a 21), .ref (a 28), .ref (a 31), .ref (a 36), .ref (a 41), .ref (a 42), .ref (a 45), .ref (a 48)]))]) H := kpF hk1 h_g
  have h_arr : PP G ([(a 1, .inl (gQ G, 4, .inr (.inr (.inr (.inr (fun z => some (a (49 + 11 * z))))))))]) H := kpF hk1 h_arr
  have hns : NSP G a Ns H := fun z hz => kpF hk1 (hns z hz)
  have hk4 := ix_lt hc0 (by omega)
  have h_f : PP G (famW G a Ns (ix p9)) H := fam_split hns
  have h_n : PP G (netW G a (49 + 11 * ix p9) (Ns (ix p9))) H := hns _ hk4
  have hN := hW _ hk4
  have hg9 := hN.g
  have ho9 := hN.o
  have hi9 := hN.2.1
  refine lv_astore (lv' := [(5, .ref (a (49 + 11 * ix p9))), (0, .ref (a 0)), (1, .int p9), (2, .int kd9), (3, .int f9), (4, .int s9)]) hx hb dX11_gate_5 hl (by decide) rfl (fun ls hl => ?_)
  refine lv_iload_n hx hb dX11_gate_7 rfl (lv_at hl 3 rfl) ?_
  refine xcv (vx_runS (As := [.int kd9]) (rest := []) FX (c_X11_needKind l hfl G a ha t9 kd9) (va_cwS 1 hts gX11_gate_X11_needKind rfl rfl rfl (by decide +kernel) ⟨Nat.le_of_ble_eq_true rfl, Nat.le_of_ble_eq_true rfl⟩) (preSX hK hNW trivial (hLow.at hS (fun q9 _ q => rng_M q9 q)) (hX.at hS (fun q9 _ q => rng_M q9 q))) rfl rfl hl.1 rfl (lv_room (Nat.le_of_ble_eq_true rfl)) dX11_gate_8 ⟨Nat.le_of_ble_eq_true rfl, Nat.le_of_ble_eq_true rfl⟩) hS htab hlocks (fun H1 hk9 => ⟨kpF hk9 h_g, kpF hk9 h_arr, fam_back (kpF hk9 h_f) (kpF hk9 h_n)⟩) (fun E hE9 => XE_1 hE9.1 ((if_pos hc0).trans (if_neg hE9.2))) (Nat.le_of_ble_eq_true rfl) (Nat.le_of_ble_eq_true rfl) (fun q1 H locs hk2 hS => ?_)
  have h_g : PP G ([(a 0, .inr (11, [.ref (a 1), .ref (a 2), .ref (a 4), .ref (a 6), .ref (a 21), .ref (a 28), .ref (a 31), .ref (a 36), .ref (a 41), .ref (a 42), .ref (a 45), .ref (a 48)]))]) H := kpF hk2 h_g
  have h_arr : PP G ([(a 1, .inl (gQ G, 4, .inr (.inr (.inr (.inr (fun z => some (a (49 + 11 * z))))))))]) H := kpF hk2 h_arr
  have h_f : PP G (famW G a Ns (ix p9)) H := kpF hk2 h_f
  have h_n : PP G (netW G a (49 + 11 * ix p9) (Ns (ix p9))) H := kpF hk2 h_n
  refine lv_aload hx hb dX11_gate_11 (lv_at hl 0 rfl) ?_
  refine lv_iload_n hx hb dX11_gate_13 rfl (lv_at hl 4 rfl) ?_
  refine xcv (vx_runS (As := [.ref (a (49 + 11 * ix p9)), .int f9]) (rest := []) FX (c_X11_needGate l hfl G a ha t9 (ix p9) (Ns (ix p9)) f9) (va_cwS 2 hts gX11_gate_X11_needGate rfl rfl rfl (by decide +kernel) ⟨Nat.le_of_ble_eq_true rfl, Nat.le_of_ble_eq_true rfl⟩) (preSX hK hNW h_n (hLow.at hS (fun q9 _ q => rng_M q9 q)) (hX.at hS (fun q9 _ q => rng_M q9 q))) rfl rfl hl.1 rfl (lv_room (Nat.le_of_ble_eq_true rfl)) dX11_gate_14 ⟨Nat.le_of_ble_eq_true rfl, Nat.le_of_ble_eq_true rfl⟩) hS htab hlocks (fun H1 hk9 => ⟨kpF hk9 h_g, kpF hk9 h_arr, fam_back (kpF hk9 h_f) (kpF hk9 h_n)⟩) (fun E hE9 => XE_1 hE9.1 ((if_pos hc0).trans ((if_pos q1).trans (if_neg hE9.2)))) (Nat.le_of_ble_eq_true rfl) (Nat.le_of_ble_eq_true rfl) (fun q2 H locs hk3 hS => ?_)
  have h_g : PP G ([(a 0, .inr (11, [.ref (a 1), .ref (a 2), .ref (a 4), .ref (a 6), .ref (a 21), .ref (a 28), .ref (a 31), .ref (a 36), .ref (a 41), .ref (a 42), .ref (a 45), .ref (a 48)]))]) H := kpF hk3 h_g
  have h_arr : PP G ([(a 1, .inl (gQ G, 4, .inr (.inr (.inr (.inr (fun z => some (a (49 + 11 * z))))))))]) H := kpF hk3 h_arr
  have h_f : PP G (famW G a Ns (ix p9)) H := kpF hk3 h_f
  have h_n : PP G (netW G a (49 + 11 * ix p9) (Ns (ix p9))) H := kpF hk3 h_n
  have ek := ix_eq q1 (by omega)
  have lk := ix_lt q1 (by omega)
  have ef := ix_eq q2 (by omega)
  refine lv_iload_n hx hb dX11_gate_17 rfl (lv_at hl 3 rfl) ?_
  refine lv_iconst (v := nI 3) hx hb dX11_gate_18 (by decide) ?_
  refine lv_icmp_eq (tgt := 29) hx hb dX11_gate_19 (by decide) (fun c19 => ?_) (fun c19 => ?_)
  · skip
    refine lv_aload hx hb dX11_gate_29 (lv_at hl 0 rfl) ?_
    refine ro_i (va_runV (As := []) (rest := []) FX (c_X3_isFull l G a (49 + 11 * ix p9) (Ns (ix p9)) hN) (cwV 0 hts gX11_gate_X3_isFull rfl rfl rfl (by decide +kernel) ⟨Nat.le_of_ble_eq_true rfl, Nat.le_of_ble_eq_true rfl⟩) (preV hK hNW h_n (va_recv hK h_n (ci := 3) (q0 := 0) rfl rfl)) rfl rfl hl.1 rfl (lv_room (Nat.le_of_ble_eq_true rfl)) dX11_gate_31 ⟨Nat.le_of_ble_eq_true rfl, Nat.le_of_ble_eq_true rfl⟩) ?_
    refine lv_if_eq (tgt := 47) hx hb dX11_gate_34 (by decide) (fun c34 => ?_) (fun c34 => ?_)
    · skip
      have c34 := bI_0.mp c34
      have hl : lv_has ls 6 [(5, .ref (a (49 + 11 * ix p9))), (0, .ref (a 0)), (1, .int p9), (2, .int (nI (ix kd9))), (3, .int (nI (ix f9))), (4, .int s9)] := by rw [← ek, ← ef]; exact hl
      refine lv_aload hx hb dX11_gate_47 (lv_at hl 0 rfl) ?_
      refine lv_iload_n hx hb dX11_gate_49 rfl (lv_at hl 3 rfl) ?_
      refine lv_iload_n hx hb dX11_gate_50 rfl (lv_at hl 4 rfl) ?_
      refine lv_iload hx hb dX11_gate_51 (lv_at hl 5 rfl) ?_
      refine wr_i (va_runV (As := [.int (nI (ix kd9)), .int (nI (ix f9)), .int s9]) (rest := []) FX (c_X3_addJoined l G a ha (49 + 11 * ix p9) (Ns (ix p9)) (ix kd9) (ix f9) (ix s9) s9 (by omega) (fun h => absurd (by rw [c19, ix_nI (by omega)]) h) (by omega)) (cwV 3 hts gX11_gate_X3_addJoined rfl rfl rfl (by decide +kernel) ⟨Nat.le_of_ble_eq_true rfl, Nat.le_of_ble_eq_true rfl⟩) (preV hK hNW h_n (va_recv hK h_n (ci := 3) (q0 := 0) rfl rfl)) rfl rfl hl.1 rfl (lv_room (Nat.le_of_ble_eq_true rfl)) dX11_gate_53 ⟨Nat.le_of_ble_eq_true rfl, Nat.le_of_ble_eq_true rfl⟩) hS (rng_sub (by omega)) (fun rr _ H locs er hP9 hk4 hS => ?_)
      have h_n : PP G (netW G a (49 + 11 * ix p9) (addG (Ns (ix p9)) (ix kd9) (ix f9) (if ix kd9 = 3 then ix f9 else ix s9))) H := hP9
      have h_g : PP G ([(a 0, .inr (11, [.ref (a 1), .ref (a 2), .ref (a 4), .ref (a 6), .ref (a 21), .ref (a 28), .ref (a 31), .ref (a 36), .ref (a 41), .ref (a 42), .ref (a 45), .ref (a 48)]))]) H := kp hk4 h_g (dj_cons (rng_no ha (by omega)) (dj_nil))
      have h_arr : PP G ([(a 1, .inl (gQ G, 4, .inr (.inr (.inr (.inr (fun z => some (a (49 + 11 * z))))))))]) H := kp hk4 h_arr (dj_cons (rng_no ha (by omega)) (dj_nil))
      have h_f : PP G (famW G a Ns (ix p9)) H := kp hk4 h_f (dj_famk ha)
      refine lv_as (y := nI (nG (Ns (ix p9)))) er ?_
      refine retw (Nat.le_of_ble_eq_true rfl) (Nat.le_of_ble_eq_true rfl) ?_
      exact en_wi () hx hb hr hlocks hS (⟨((if_pos hc0).trans ((if_pos q1).trans ((if_pos q2).trans ((if_pos (Or.inl c19)).trans (if_pos (by omega)))))), rfl⟩) (⟨h_g, h_arr, fam_join h_f h_n⟩) dX11_gate_56
    · skip
      have c34 := bI_1 c34
      exact thS (a := a) (cls := ISE) (text := "no room for a gate") (is := 120) hx hb hfl hown (by decide +kernel) (hts (.classLink RX11 103 "java/lang/IllegalStateException") (List.mem_of_getElem? (i := 1) (by decide +kernel))) (hts (.initialized "java/lang/IllegalStateException") (List.mem_of_getElem? (i := 2) (by decide +kernel))) hX (by decide +kernel) (ht_ISE (fun w h => hts w (List.mem_cons_of_mem _ (List.mem_append_left _ (List.mem_append_right _ h)))) hX.2.1) hg_ISE (fun q9 q => rng_M q9 q) hS (hl.1.trans hml.symm) dX11_gate_37 dX11_gate_40 dX11_gate_41 dX11_gate_43 dX11_gate_46 htab (Nat.le_of_ble_eq_true rfl) (Nat.le_of_ble_eq_true rfl) (Nat.le_of_ble_eq_true rfl) (Nat.le_of_ble_eq_true rfl) hlocks (XE_3 rfl ((if_pos hc0).trans ((if_pos q1).trans ((if_pos q2).trans ((if_pos (Or.inl c19)).trans (if_neg (fun q => by omega))))))) (fun H1 hk9 => ⟨kpF hk9 h_g, kpF hk9 h_arr, fam_back (kpF hk9 h_f) (kpF hk9 h_n)⟩) (Nat.le_of_ble_eq_true rfl) (Nat.le_of_ble_eq_true rfl)
  · skip
    refine lv_aload hx hb dX11_gate_22 (lv_at hl 0 rfl) ?_
    refine lv_iload hx hb dX11_gate_24 (lv_at hl 5 rfl) ?_
    refine xcv (vx_runS (As := [.ref (a (49 + 11 * ix p9)), .int s9]) (rest := []) FX (c_X11_needGate l hfl G a ha t9 (ix p9) (Ns (ix p9)) s9) (va_cwS 2 hts gX11_gate_X11_needGate rfl rfl rfl (by decide +kernel) ⟨Nat.le_of_ble_eq_true rfl, Nat.le_of_ble_eq_true rfl⟩) (preSX hK hNW h_n (hLow.at hS (fun q9 _ q => rng_M q9 q)) (hX.at hS (fun q9 _ q => rng_M q9 q))) rfl rfl hl.1 rfl (lv_room (Nat.le_of_ble_eq_true rfl)) dX11_gate_26 ⟨Nat.le_of_ble_eq_true rfl, Nat.le_of_ble_eq_true rfl⟩) hS htab hlocks (fun H1 hk9 => ⟨kpF hk9 h_g, kpF hk9 h_arr, fam_back (kpF hk9 h_f) (kpF hk9 h_n)⟩) (fun E hE9 => XE_1 hE9.1 ((if_pos hc0).trans ((if_pos q1).trans ((if_pos q2).trans (if_neg (fun q => q.elim c19 hE9.2)))))) (Nat.le_of_ble_eq_true rfl) (Nat.le_of_ble_eq_true rfl) (fun q3 H locs hk6 hS => ?_)
    have h_g : PP G ([(a 0, .inr (11, [.ref (a 1), .ref (a 2), .ref (a 4), .ref (a 6), .ref (a 21), .ref (a 28), .ref (a 31), .ref (a 36), .ref (a 41), .ref (a 42), .ref (a 45), .ref (a 48)]))]) H := kpF hk6 h_g
    have h_arr : PP G ([(a 1, .inl (gQ G, 4, .inr (.inr (.inr (.inr (fun z => some (a (49 + 11 * z))))))))]) H := kpF hk6 h_arr
    have h_f : PP G (famW G a Ns (ix p9)) H := kpF hk6 h_f
    have h_n : PP G (netW G a (49 + 11 * ix p9) (Ns (ix p9))) H := kpF hk6 h_n
    refine lv_aload hx hb dX11_gate_29 (lv_at hl 0 rfl) ?_
    refine ro_i (va_runV (As := []) (rest := []) FX (c_X3_isFull l G a (49 + 11 * ix p9) (Ns (ix p9)) hN) (cwV 0 hts gX11_gate_X3_isFull rfl rfl rfl (by decide +kernel) ⟨Nat.le_of_ble_eq_true rfl, Nat.le_of_ble_eq_true rfl⟩) (preV hK hNW h_n (va_recv hK h_n (ci := 3) (q0 := 0) rfl rfl)) rfl rfl hl.1 rfl (lv_room (Nat.le_of_ble_eq_true rfl)) dX11_gate_31 ⟨Nat.le_of_ble_eq_true rfl, Nat.le_of_ble_eq_true rfl⟩) ?_
    refine lv_if_eq (tgt := 47) hx hb dX11_gate_34 (by decide) (fun c34 => ?_) (fun c34 => ?_)
    · skip
      have c34 := bI_0.mp c34
      have hl : lv_has ls 6 [(5, .ref (a (49 + 11 * ix p9))), (0, .ref (a 0)), (1, .int p9), (2, .int (nI (ix kd9))), (3, .int (nI (ix f9))), (4, .int s9)] := by rw [← ek, ← ef]; exact hl
      refine lv_aload hx hb dX11_gate_47 (lv_at hl 0 rfl) ?_
      refine lv_iload_n hx hb dX11_gate_49 rfl (lv_at hl 3 rfl) ?_
      refine lv_iload_n hx hb dX11_gate_50 rfl (lv_at hl 4 rfl) ?_
      refine lv_iload hx hb dX11_gate_51 (lv_at hl 5 rfl) ?_
      refine wr_i (va_runV (As := [.int (nI (ix kd9)), .int (nI (ix f9)), .int s9]) (rest := []) FX (c_X3_addJoined l G a ha (49 + 11 * ix p9) (Ns (ix p9)) (ix kd9) (ix f9) (ix s9) s9 (by omega) (fun _ => ix_eq q3 (by omega)) (by omega)) (cwV 3 hts gX11_gate_X3_addJoined rfl rfl rfl (by decide +kernel) ⟨Nat.le_of_ble_eq_true rfl, Nat.le_of_ble_eq_true rfl⟩) (preV hK hNW h_n (va_recv hK h_n (ci := 3) (q0 := 0) rfl rfl)) rfl rfl hl.1 rfl (lv_room (Nat.le_of_ble_eq_true rfl)) dX11_gate_53 ⟨Nat.le_of_ble_eq_true rfl, Nat.le_of_ble_eq_true rfl⟩) hS (rng_sub (by omega)) (fun rr _ H locs er hP9 hk7 hS => ?_)
      have h_n : PP G (netW G a (49 + 11 * ix p9) (addG (Ns (ix p9)) (ix kd9) (ix f9) (if ix kd9 = 3 then ix f9 else ix s9))) H := hP9
      have h_g : PP G ([(a 0, .inr (11, [.ref (a 1), .ref (a 2), .ref (a 4), .ref (a 6), .ref (a 21), .ref (a 28), .ref (a 31), .ref (a 36), .ref (a 41), .ref (a 42), .ref (a 45), .ref (a 48)]))]) H := kp hk7 h_g (dj_cons (rng_no ha (by omega)) (dj_nil))
      have h_arr : PP G ([(a 1, .inl (gQ G, 4, .inr (.inr (.inr (.inr (fun z => some (a (49 + 11 * z))))))))]) H := kp hk7 h_arr (dj_cons (rng_no ha (by omega)) (dj_nil))
      have h_f : PP G (famW G a Ns (ix p9)) H := kp hk7 h_f (dj_famk ha)
      refine lv_as (y := nI (nG (Ns (ix p9)))) er ?_
      refine retw (Nat.le_of_ble_eq_true rfl) (Nat.le_of_ble_eq_true rfl) ?_
      exact en_wi () hx hb hr hlocks hS (⟨((if_pos hc0).trans ((if_pos q1).trans ((if_pos q2).trans ((if_pos (Or.inr q3)).trans (if_pos (by omega)))))), rfl⟩) (⟨h_g, h_arr, fam_join h_f h_n⟩) dX11_gate_56
    · skip
      have c34 := bI_1 c34
      exact thS (a := a) (cls := ISE) (text := "no room for a gate") (is := 120) hx hb hfl hown (by decide +kernel) (hts (.classLink RX11 103 "java/lang/IllegalStateException") (List.mem_of_getElem? (i := 1) (by decide +kernel))) (hts (.initialized "java/lang/IllegalStateException") (List.mem_of_getElem? (i := 2) (by decide +kernel))) hX (by decide +kernel) (ht_ISE (fun w h => hts w (List.mem_cons_of_mem _ (List.mem_append_left _ (List.mem_append_right _ h)))) hX.2.1) hg_ISE (fun q9 q => rng_M q9 q) hS (hl.1.trans hml.symm) dX11_gate_37 dX11_gate_40 dX11_gate_41 dX11_gate_43 dX11_gate_46 htab (Nat.le_of_ble_eq_true rfl) (Nat.le_of_ble_eq_true rfl) (Nat.le_of_ble_eq_true rfl) (Nat.le_of_ble_eq_true rfl) hlocks (XE_3 rfl ((if_pos hc0).trans ((if_pos q1).trans ((if_pos q2).trans ((if_pos (Or.inr q3)).trans (if_neg (fun q => by omega))))))) (fun H1 hk9 => ⟨kpF hk9 h_g, kpF hk9 h_arr, fam_back (kpF hk9 h_f) (kpF hk9 h_n)⟩) (Nat.le_of_ble_eq_true rfl) (Nat.le_of_ble_eq_true rfl)
