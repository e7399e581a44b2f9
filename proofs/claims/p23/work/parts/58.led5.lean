set_option maxRecDepth 20000 in
theorem inX11_off_11 : ∀ w ∈ u_ws RX11 TX11 12, w ∈ wsX11_off := by decide +kernel
set_option maxHeartbeats 4000000 in
set_option maxRecDepth 100000 in
/-- off -/
theorem c_X11_off (l : Launch) (hfl : l.stackTraces = false) (G : GG) (a : Nat → Nat) (ha : Inj a) (t9 : Nat) (Ns : Nat → NT) (w0 o0 : Nat → Int64) (x1 x2 x3 x4 x5 : Int32) (p9 op9 w9 : Int32) (hW : ∀ z, z < 4 → WF (Ns z))  : vx_Met l yX11_off wsX11_off ({ frames := 7, cells := 4, slots := 24, locals := 123 } : Room) (PcX G a t9 [.ref (a 0), .int p9, .int op9, .int w9] (fun H => PP G ([(a 0, .inr (11, [.ref (a 1), .ref (a 2), .ref (a 4), .ref (a 6), .ref (a 21), .ref (a 28), .ref (a 31), .ref (a 36), .ref (a 41), .ref (a 42), .ref (a 45), .ref (a 48)]))]) H ∧ PP G ([(a 1, .inl (gQ G, 4, .inr (.inr (.inr (.inr (fun z => some (a (49 + 11 * z))))))))]) H ∧ PP G (lanW G a 31 w0 o0) H ∧ PP G (audW a 48 x1 x2 x3 x4 x5) H ∧ NSP G a Ns H)) (QI (fun (r : Int32) (_ : ((Nat → Int64) × (Nat → Int64)) × (Int32 × Int32 × Int32 × Int32 × Int32)) => cOff Ns p9 op9 w9 = 0 ∧ r = offV (Ns (ix p9)) (ix op9) (ix w9)) (fun u H => PP G ([(a 0, .inr (11, [.ref (a 1), .ref (a 2), .ref (a 4), .ref (a 6), .ref (a 21), .ref (a 28), .ref (a 31), .ref (a 36), .ref (a 41), .ref (a 42), .ref (a 45), .ref (a 48)]))]) H ∧ PP G ([(a 1, .inl (gQ G, 4, .inr (.inr (.inr (.inr (fun z => some (a (49 + 11 * z))))))))]) H ∧ PP G (lanW G a 31 u.1.1 u.1.2) H ∧ PP G (audW a 48 u.2.1 u.2.2.1 u.2.2.2.1 u.2.2.2.2.1 u.2.2.2.2.2) H ∧ NSP G a Ns H) (orA (rng a 48 1) (rng a 31 5))) (XQ (XE (cOff Ns p9 op9 w9)) (fun H => PP G ([(a 0, .inr (11, [.ref (a 1), .ref (a 2), .ref (a 4), .ref (a 6), .ref (a 21), .ref (a 28), .ref (a 31), .ref (a 36), .ref (a 41), .ref (a 42), .ref (a 45), .ref (a 48)]))]) H ∧ PP G ([(a 1, .inl (gQ G, 4, .inr (.inr (.inr (.inr (fun z => some (a (49 + 11 * z))))))))]) H ∧ PP G (lanW G a 31 w0 o0) H ∧ PP G (audW a 48 x1 x2 x3 x4 x5) H ∧ NSP G a Ns H) (orA (rng a 48 1) (rng a 31 5))) 4 24 (orA (rng a 48 1) (rng a 31 5)) := by
  refine vx_ofW (cc := cX11_off) (maxL := 5) (ret := (some .int)) (by decide) rfl ?_
  intro p e s m args below meth c s₁ B hml htab hv
  obtain ⟨⟨⟨rfl, hB, hK, hNW⟩, hLow⟩, hX⟩ := hv
  have hx := B.exec
  have hb := B.bytes
  have hr := B.returns
  have hts := atoms_spec (ws := wsX11_off) B.pre
  have hown : s.vm.findClass RX11 = some m.cls := findClass_of_methodNamed B.named
  have hlocks := B.notSynchronized
  have FX : CallFix p m c cX11_off 5 s ([.ref (a 0), .int p9, .int op9, .int w9] : List Value).toArray wsX11_off RX11 := ⟨hx, hb, hml, hown, hts⟩
  have hl := lv_entry ([.ref (a 0), .int p9, .int op9, .int w9]) (n := 5) (Nat.le_of_ble_eq_true rfl)
  rw [lg_entry_eq]
  generalize (lg_sl ([.ref (a 0), .int p9, .int op9, .int w9]) ++ List.replicate (5 - (lg_sl ([.ref (a 0), .int p9, .int op9, .int w9])).length) Slot.unset).toArray = ls at hl ⊢
  have hl : lv_has ls 5 [(0, .ref (a 0)), (1, .int p9), (2, .int op9), (3, .int w9)] := hl
  obtain ⟨h_g, h_arr, h_l, h_au, hns⟩ := hB
  have hS : va_S (orA (rng a 48 1) (rng a 31 5)) s.heap s.heap [] := va_S.rf
  refine lv_aload_n hx hb dX11_off_0 rfl (lv_at hl 0 rfl) ?_
  refine lv_iload_n hx hb dX11_off_1 rfl (lv_at hl 1 rfl) ?_
  refine xcr (vx_runV (As := [.int p9]) (rest := []) FX (c_X11_netAt l hfl G a ha t9 p9) (cwV 1 hts gX11_off_X11_netAt rfl rfl rfl (by decide +kernel) ⟨Nat.le_of_ble_eq_true rfl, Nat.le_of_ble_eq_true rfl⟩) (preVX hK hNW (⟨h_g, h_arr⟩) (hLow.at hS (fun q9 _ q => q.elim (rng_M q9) (rng_M q9))) (hX.at hS (fun q9 _ q => q.elim (rng_M q9) (rng_M q9))) (va_recv hK h_g (ci := 11) (q0 := 0) rfl rfl)) rfl rfl hl.1 rfl (lv_room (Nat.le_of_ble_eq_true rfl)) dX11_off_2 ⟨Nat.le_of_ble_eq_true rfl, Nat.le_of_ble_eq_true rfl⟩) hS htab hlocks (fun H1 hk9 => ⟨kpF hk9 h_g, kpF hk9 h_arr, kpF hk9 h_l, kpF hk9 h_au, fun z hz => kpF hk9 (hns z hz)⟩) (fun E hE9 => XE_1 hE9.1 (if_neg hE9.2)) (Nat.le_of_ble_eq_true rfl) (Nat.le_of_ble_eq_true rfl) (fun _ hc0 H locs hk1 hS => ?_)
  have h_g : PP G ([(a 0, .inr (11, [.ref (a 1), .ref (a 2), .ref (a 4), .ref (a 6), .ref (a 21), .ref (a 28), .ref (a 31), .ref (a 36), .ref (a 41), .ref (a 42), .ref (a 45), .ref (a 48)]))]) H := kpF hk1 h_g
  have h_arr : PP G ([(a 1, .inl (gQ G, 4, .inr (.inr (.inr (.inr (fun z => some (a (49 + 11 * z))))))))]) H := kpF hk1 h_arr
  have h_l : PP G (lanW G a 31 w0 o0) H := kpF hk1 h_l
  have h_au : PP G (audW a 48 x1 x2 x3 x4 x5) H := kpF hk1 h_au
  have hns : NSP G a Ns H := fun z hz => kpF hk1 (hns z hz)
  have hk4 := ix_lt hc0 (by omega)
  have h_f : PP G (famW G a Ns (ix p9)) H := fam_split hns
  have h_n : PP G (netW G a (49 + 11 * ix p9) (Ns (ix p9))) H := hns _ hk4
  have hN := hW _ hk4
  have hg9 := hN.g
  have ho9 := hN.o
  have hi9 := hN.2.1
  refine lv_astore (lv' := [(4, .ref (a (49 + 11 * ix p9))), (0, .ref (a 0)), (1, .int p9), (2, .int op9), (3, .int w9)]) hx hb dX11_off_5 hl (by decide) rfl (fun ls hl => ?_)
  refine lv_iload_n hx hb dX11_off_7 rfl (lv_at hl 3 rfl) ?_
  refine lv_iconst (v := nI 0) hx hb dX11_off_8 (by decide) ?_
  refine lv_iconst (v := nI 1) hx hb dX11_off_9 (by decide) ?_
  refine xcv (vx_runS (As := [.int op9, .int (nI 0), .int (nI 1)]) (rest := []) FX (c_X11_needRange l hfl G a ha t9 op9 (nI 0) (nI 1)) (va_cwS 3 hts gX11_off_X11_needRange rfl rfl rfl (by decide +kernel) ⟨Nat.le_of_ble_eq_true rfl, Nat.le_of_ble_eq_true rfl⟩) (preSX hK hNW trivial (hLow.at hS (fun q9 _ q => q.elim (rng_M q9) (rng_M q9))) (hX.at hS (fun q9 _ q => q.elim (rng_M q9) (rng_M q9)))) rfl rfl hl.1 rfl (lv_room (Nat.le_of_ble_eq_true rfl)) dX11_off_10 ⟨Nat.le_of_ble_eq_true rfl, Nat.le_of_ble_eq_true rfl⟩) hS htab hlocks (fun H1 hk9 => ⟨kpF hk9 h_g, kpF hk9 h_arr, kpF hk9 h_l, kpF hk9 h_au, fam_back (kpF hk9 h_f) (kpF hk9 h_n)⟩) (fun E hE9 => XE_2 hE9.1 ((if_pos hc0).trans (if_neg hE9.2))) (Nat.le_of_ble_eq_true rfl) (Nat.le_of_ble_eq_true rfl) (fun q1 H locs hk2 hS => ?_)
  have h_g : PP G ([(a 0, .inr (11, [.ref (a 1), .ref (a 2), .ref (a 4), .ref (a 6), .ref (a 21), .ref (a 28), .ref (a 31), .ref (a 36), .ref (a 41), .ref (a 42), .ref (a 45), .ref (a 48)]))]) H := kpF hk2 h_g
  have h_arr : PP G ([(a 1, .inl (gQ G, 4, .inr (.inr (.inr (.inr (fun z => some (a (49 + 11 * z))))))))]) H := kpF hk2 h_arr
  have h_l : PP G (lanW G a 31 w0 o0) H := kpF hk2 h_l
  have h_au : PP G (audW a 48 x1 x2 x3 x4 x5) H := kpF hk2 h_au
  have h_f : PP G (famW G a Ns (ix p9)) H := kpF hk2 h_f
  have h_n : PP G (netW G a (49 + 11 * ix p9) (Ns (ix p9))) H := kpF hk2 h_n
  refine lv_iload_n hx hb dX11_off_13 rfl (lv_at hl 4 rfl) ?_
  refine lv_iconst (v := nI 0) hx hb dX11_off_14 (by decide) ?_
  refine lv_iconst (v := nI 3) hx hb dX11_off_15 (by decide) ?_
  refine xcv (vx_runS (As := [.int w9, .int (nI 0), .int (nI 3)]) (rest := []) FX (c_X11_needRange l hfl G a ha t9 w9 (nI 0) (nI 3)) (va_cwS 3 hts gX11_off_X11_needRange rfl rfl rfl (by decide +kernel) ⟨Nat.le_of_ble_eq_true rfl, Nat.le_of_ble_eq_true rfl⟩) (preSX hK hNW trivial (hLow.at hS (fun q9 _ q => q.elim (rng_M q9) (rng_M q9))) (hX.at hS (fun q9 _ q => q.elim (rng_M q9) (rng_M q9)))) rfl rfl hl.1 rfl (lv_room (Nat.le_of_ble_eq_true rfl)) dX11_off_16 ⟨Nat.le_of_ble_eq_true rfl, Nat.le_of_ble_eq_true rfl⟩) hS htab hlocks (fun H1 hk9 => ⟨kpF hk9 h_g, kpF hk9 h_arr, kpF hk9 h_l, kpF hk9 h_au, fam_back (kpF hk9 h_f) (kpF hk9 h_n)⟩) (fun E hE9 => XE_2 hE9.1 ((if_pos hc0).trans ((if_pos q1).trans (if_neg hE9.2)))) (Nat.le_of_ble_eq_true rfl) (Nat.le_of_ble_eq_true rfl) (fun q2 H locs hk3 hS => ?_)
  have h_g : PP G ([(a 0, .inr (11, [.ref (a 1), .ref (a 2), .ref (a 4), .ref (a 6), .ref (a 21), .ref (a 28), .ref (a 31), .ref (a 36), .ref (a 41), .ref (a 42), .ref (a 45), .ref (a 48)]))]) H := kpF hk3 h_g
  have h_arr : PP G ([(a 1, .inl (gQ G, 4, .inr (.inr (.inr (.inr (fun z => some (a (49 + 11 * z))))))))]) H := kpF hk3 h_arr
  have h_l : PP G (lanW G a 31 w0 o0) H := kpF hk3 h_l
  have h_au : PP G (audW a 48 x1 x2 x3 x4 x5) H := kpF hk3 h_au
  have h_f : PP G (famW G a Ns (ix p9)) H := kpF hk3 h_f
  have h_n : PP G (netW G a (49 + 11 * ix p9) (Ns (ix p9))) H := kpF hk3 h_n
  refine lv_aload hx hb dX11_off_19 (lv_at hl 0 rfl) ?_
  refine xcv (vx_runS (As := [.ref (a (49 + 11 * ix p9))]) (rest := []) FX (c_X11_needTwoOperands l hfl G a ha t9 (ix p9) (Ns (ix p9)) hN.2.1) (va_cwS 1 hts gX11_off_X11_needTwoOperands rfl rfl rfl (by decide +kernel) ⟨Nat.le_of_ble_eq_true rfl, Nat.le_of_ble_eq_true rfl⟩) (preSX hK hNW h_n (hLow.at hS (fun q9 _ q => q.elim (rng_M q9) (rng_M q9))) (hX.at hS (fun q9 _ q => q.elim (rng_M q9) (rng_M q9)))) rfl rfl hl.1 rfl (lv_room (Nat.le_of_ble_eq_true rfl)) dX11_off_21 ⟨Nat.le_of_ble_eq_true rfl, Nat.le_of_ble_eq_true rfl⟩) hS htab hlocks (fun H1 hk9 => ⟨kpF hk9 h_g, kpF hk9 h_arr, kpF hk9 h_l, kpF hk9 h_au, fam_back (kpF hk9 h_f) (kpF hk9 h_n)⟩) (fun E hE9 => XE_3 hE9.1 ((if_pos hc0).trans ((if_pos q1).trans ((if_pos q2).trans (if_neg hE9.2))))) (Nat.le_of_ble_eq_true rfl) (Nat.le_of_ble_eq_true rfl) (fun q3 H locs hk4 hS => ?_)
  have h_g : PP G ([(a 0, .inr (11, [.ref (a 1), .ref (a 2), .ref (a 4), .ref (a 6), .ref (a 21), .ref (a 28), .ref (a 31), .ref (a 36), .ref (a 41), .ref (a 42), .ref (a 45), .ref (a 48)]))]) H := kpF hk4 h_g
  have h_arr : PP G ([(a 1, .inl (gQ G, 4, .inr (.inr (.inr (.inr (fun z => some (a (49 + 11 * z))))))))]) H := kpF hk4 h_arr
  have h_l : PP G (lanW G a 31 w0 o0) H := kpF hk4 h_l
  have h_au : PP G (audW a 48 x1 x2 x3 x4 x5) H := kpF hk4 h_au
  have h_f : PP G (famW G a Ns (ix p9)) H := kpF hk4 h_f
  have h_n : PP G (netW G a (49 + 11 * ix p9) (Ns (ix p9))) H := kpF hk4 h_n
  obtain ⟨eo, leo⟩ := rg_ix q1.1 q1.2 (by omega) (by omega)
  rw [eo] at hl
  obtain ⟨ew, lew⟩ := rg_ix q2.1 q2.2 (by omega) (by omega)
  rw [ew] at hl
  refine lv_aload_n hx hb dX11_off_24 rfl (lv_at hl 1 rfl) ?_
  refine va_get (D := G.1) (ci := 11) (v := .ref (a 48)) (C := RX11) (T := TX11) (N := 12) hx hb hts inX11_off_11 hown hK h_g 0 rfl rfl 11 (by decide) (hts (.fieldLink RX11 82 "GateLedger" "audit" "LGateLedger$Audit;") (List.mem_of_getElem? (i := 1) (by decide +kernel))) (fun _ h9 => h9) rfl dX11_off_25 ?_
  refine lv_aload hx hb dX11_off_28 (lv_at hl 0 rfl) ?_
  refine lv_aload_n hx hb dX11_off_30 rfl (lv_at hl 1 rfl) ?_
  refine va_get (D := G.1) (ci := 11) (v := .ref (a 31)) (C := RX11) (T := TX11) (N := 12) hx hb hts inX11_off_11 hown hK h_g 0 rfl rfl 6 (by decide) (hts (.fieldLink RX11 51 "GateLedger" "lanes" "LGateLedger$Lanes;") (List.mem_of_getElem? (i := 2) (by decide +kernel))) (fun _ h9 => h9) rfl dX11_off_31 ?_
  refine lv_iload_n hx hb dX11_off_34 rfl (lv_at hl 3 rfl) ?_
  refine lv_iconst (v := nI 1) hx hb dX11_off_35 (by decide) ?_
  refine wr_v (va_runV (As := [.ref (a (49 + 11 * ix p9)), .ref (a 31), .int (nI (ix op9)), .int (nI 1)]) (rest := []) FX (c_X0_hold l G a ha 48 (49 + 11 * ix p9) 31 t9 (by omega) (by omega) (by omega) (Ns (ix p9)) hN x1 x2 x3 x4 x5 w0 o0 (ix op9) (1) (by omega) (by omega) (by omega)) (cwV 4 hts gX11_off_X0_hold rfl rfl rfl (by decide +kernel) ⟨Nat.le_of_ble_eq_true rfl, Nat.le_of_ble_eq_true rfl⟩) (preVL hK hNW (⟨h_au, h_l, h_n⟩) (hLow.at hS (fun q9 _ q => q.elim (rng_M q9) (rng_M q9))) (va_recv hK h_au (ci := 0) (q0 := 0) rfl rfl)) rfl rfl hl.1 rfl (lv_room (Nat.le_of_ble_eq_true rfl)) dX11_off_36 ⟨Nat.le_of_ble_eq_true rfl, Nat.le_of_ble_eq_true rfl⟩) hS (fun _ q => q) (fun v8 H locs _ hP9 hk5 hS => ?_)
  have h_au : PP G (audS a 48 (Ns (ix p9)) (ix op9) (1) (2 ^ nIn (Ns (ix p9)))) H := hP9.1
  have h_l : PP G (lanW G a 31 v8.1 v8.2) H := hP9.2
  have h_g : PP G ([(a 0, .inr (11, [.ref (a 1), .ref (a 2), .ref (a 4), .ref (a 6), .ref (a 21), .ref (a 28), .ref (a 31), .ref (a 36), .ref (a 41), .ref (a 42), .ref (a 45), .ref (a 48)]))]) H := kp hk5 h_g (dj_cons (or_no (rng_no ha (by omega)) (rng_no ha (by omega))) (dj_nil))
  have h_arr : PP G ([(a 1, .inl (gQ G, 4, .inr (.inr (.inr (.inr (fun z => some (a (49 + 11 * z))))))))]) H := kp hk5 h_arr (dj_cons (or_no (rng_no ha (by omega)) (rng_no ha (by omega))) (dj_nil))
  have h_f : PP G (famW G a Ns (ix p9)) H := kp hk5 h_f (dj_or (dj_famo ha (by omega)) (dj_famo ha (by omega)))
  have h_n : PP G (netW G a (49 + 11 * ix p9) (Ns (ix p9))) H := kp hk5 h_n (dj_or (dj_rng ha (netW_in (G := G) (a := a) (j := (49 + 11 * ix p9)) (N := (Ns (ix p9)))) (by omega)) (dj_rng ha (netW_in (G := G) (a := a) (j := (49 + 11 * ix p9)) (N := (Ns (ix p9)))) (by omega)))
  refine lv_aload_n hx hb dX11_off_39 rfl (lv_at hl 1 rfl) ?_
  refine va_get (D := G.1) (ci := 11) (v := .ref (a 48)) (C := RX11) (T := TX11) (N := 12) hx hb hts inX11_off_11 hown hK h_g 0 rfl rfl 11 (by decide) (hts (.fieldLink RX11 82 "GateLedger" "audit" "LGateLedger$Audit;") (List.mem_of_getElem? (i := 1) (by decide +kernel))) (fun _ h9 => h9) rfl dX11_off_40 ?_
  refine lv_iload_n hx hb dX11_off_43 rfl (lv_at hl 4 rfl) ?_
  refine ro_i (va_runV (As := [.int (nI (ix w9))]) (rest := []) FX (c_X0_told l G a 48 (nI (AX (Ns (ix p9)) (ix op9) (2 ^ nIn (Ns (ix p9))))) (AY (Ns (ix p9)) (ix op9) (2 ^ nIn (Ns (ix p9)))) (AZ (Ns (ix p9)) (ix op9) (2 ^ nIn (Ns (ix p9)))) (AV (Ns (ix p9)) (ix op9) (2 ^ nIn (Ns (ix p9)))) (AU (Ns (ix p9)) (ix op9) 1 (2 ^ nIn (Ns (ix p9)))) (ix w9) (by omega)) (cwV 1 hts gX11_off_X0_told rfl rfl rfl (by decide +kernel) ⟨Nat.le_of_ble_eq_true rfl, Nat.le_of_ble_eq_true rfl⟩) (preV hK hNW h_au (va_recv hK h_au (ci := 0) (q0 := 0) rfl rfl)) rfl rfl hl.1 rfl (lv_room (Nat.le_of_ble_eq_true rfl)) dX11_off_44 ⟨Nat.le_of_ble_eq_true rfl, Nat.le_of_ble_eq_true rfl⟩) ?_
  refine retw (Nat.le_of_ble_eq_true rfl) (Nat.le_of_ble_eq_true rfl) ?_
  exact en_wi (v8, (nI (AX (Ns (ix p9)) (ix op9) (2 ^ nIn (Ns (ix p9)))), AY (Ns (ix p9)) (ix op9) (2 ^ nIn (Ns (ix p9))), AZ (Ns (ix p9)) (ix op9) (2 ^ nIn (Ns (ix p9))), AV (Ns (ix p9)) (ix op9) (2 ^ nIn (Ns (ix p9))), AU (Ns (ix p9)) (ix op9) (1) (2 ^ nIn (Ns (ix p9))))) hx hb hr hlocks hS (⟨((if_pos hc0).trans ((if_pos q1).trans ((if_pos q2).trans (if_pos q3)))), rfl⟩) (⟨h_g, h_arr, h_l, h_au, fam_back h_f h_n⟩) dX11_off_47
set_option maxRecDepth 20000 in
theorem inX11_unseen_11 : ∀ w ∈ u_ws RX11 TX11 12, w ∈ wsX11_unseen := by decide +kernel
set_option maxHeartbeats 4000000 in
set_option maxRecDepth 100000 in
/-- unseen -/
theorem c_X11_unseen (l : Launch) (hfl : l.stackTraces = false) (G : GG) (a : Nat → Nat) (ha : Inj a) (t9 : Nat) (Ns : Nat → NT) (w0 o0 : Nat → Int64) (x1 x2 x3 x4 x5 : Int32) (p9 op9 w9 : Int32) (hW : ∀ z, z < 4 → WF (Ns z))  : vx_Met l yX11_unseen wsX11_unseen ({ frames := 7, cells := 4, slots := 24, locals := 123 } : Room) (PcX G a t9 [.ref (a 0), .int p9, .int op9, .int w9] (fun H => PP G ([(a 0, .inr (11, [.ref (a 1), .ref (a 2), .ref (a 4), .ref (a 6), .ref (a 21), .ref (a 28), .ref (a 31), .ref (a 36), .ref (a 41), .ref (a 42), .ref (a 45), .ref (a 48)]))]) H ∧ PP G ([(a 1, .inl (gQ G, 4, .inr (.inr (.inr (.inr (fun z => some (a (49 + 11 * z))))))))]) H ∧ PP G (lanW G a 31 w0 o0) H ∧ PP G (audW a 48 x1 x2 x3 x4 x5) H ∧ NSP G a Ns H)) (QI (fun (r : Int32) (_ : ((Nat → Int64) × (Nat → Int64)) × (Int32 × Int32 × Int32 × Int32 × Int32)) => cUns Ns p9 op9 w9 = 0 ∧ r = AU (Ns (ix p9)) (ix op9) (ix w9) (2 ^ nIn (Ns (ix p9)))) (fun u H => PP G ([(a 0, .inr (11, [.ref (a 1), .ref (a 2), .ref (a 4), .ref (a 6), .ref (a 21), .ref (a 28), .ref (a 31), .ref (a 36), .ref (a 41), .ref (a 42), .ref (a 45), .ref (a 48)]))]) H ∧ PP G ([(a 1, .inl (gQ G, 4, .inr (.inr (.inr (.inr (fun z => some (a (49 + 11 * z))))))))]) H ∧ PP G (lanW G a 31 u.1.1 u.1.2) H ∧ PP G (audW a 48 u.2.1 u.2.2.1 u.2.2.2.1 u.2.2.2.2.1 u.2.2.2.2.2) H ∧ NSP G a Ns H) (orA (rng a 48 1) (rng a 31 5))) (XQ (XE (cUns Ns p9 op9 w9)) (fun H => PP G ([(a 0, .inr (11, [.ref (a 1), .ref (a 2), .ref (a 4), .ref (a 6), .ref (a 21), .ref (a 28), .ref (a 31), .ref (a 36), .ref (a 41), .ref (a 42), .ref (a 45), .ref (a 48)]))]) H ∧ PP G ([(a 1, .inl (gQ G, 4, .inr (.inr (.inr (.inr (fun z => some (a (49 + 11 * z))))))))]) H ∧ PP G (lanW G a 31 w0 o0) H ∧ PP G (audW a 48 x1 x2 x3 x4 x5) H ∧ NSP G a Ns H) (orA (rng a 48 1) (rng a 31 5))) 4 24 (orA (rng a 48 1) (rng a 31 5)) := by
  refine vx_ofW (cc := cX11_unseen) (maxL := 5) (ret := (some .int)) (by decide) rfl ?_
  intro p e s m args below meth c s₁ B hml htab hv
  obtain ⟨⟨⟨rfl, hB, hK, hNW⟩, hLow⟩, hX⟩ := hv
  have hx := B.exec
  have hb := B.bytes
  have hr := B.returns
  have hts := atoms_spec (ws := wsX11_unseen) B.pre
  have hown : s.vm.findClass RX11 = some m.cls := findClass_of_methodNamed B.named
  have hlocks := B.notSynchronized
  have FX : CallFix p m c cX11_unseen 5 s ([.ref (a 0), .int p9, .int op9, .int w9] : List Value).toArray wsX11_unseen RX11 := ⟨hx, hb, hml, hown, hts⟩
  have hl := lv_entry ([.ref (a 0), .int p9, .int op9, .int w9]) (n := 5) (Nat.le_of_ble_eq_true rfl)
  rw [lg_entry_eq]
  generalize (lg_sl ([.ref (a 0), .int p9, .int op9, .int w9]) ++ List.replicate (5 - (lg_sl ([.ref (a 0), .int p9, .int op9, .int w9])).length) Slot.unset).toArray = ls at hl ⊢
  have hl : lv_has ls 5 [(0, .ref (a 0)), (1, .int p9), (2, .int op9), (3, .int w9)] := hl
  obtain ⟨h_g, h_arr, h_l, h_au, hns⟩ := hB
  have hS : va_S (orA (rng a 48 1) (rng a 31 5)) s.heap s.heap [] := va_S.rf
  refine lv_aload_n hx hb dX11_unseen_0 rfl (lv_at hl 0 rfl) ?_
  refine lv_iload_n hx hb dX11_unseen_1 rfl (lv_at hl 1 rfl) ?_
  refine xcr (vx_runV (As := [.int p9]) (rest := []) FX (c_X11_netAt l hfl G a ha t9 p9) (cwV 1 hts gX11_unseen_X11_netAt rfl rfl rfl (by decide +kernel) ⟨Nat.le_of_ble_eq_true rfl, Nat.le_of_ble_eq_true rfl⟩) (preVX hK hNW (⟨h_g, h_arr⟩) (hLow.at hS (fun q9 _ q => q.elim (rng_M q9) (rng_M q9))) (hX.at hS (fun q9 _ q => q.elim (rng_M q9) (rng_M q9))) (va_recv hK h_g (ci := 11) (q0 := 0) rfl rfl)) rfl rfl hl.1 rfl (lv_room (Nat.le_of_ble_eq_true rfl)) dX11_unseen_2 ⟨Nat.le_of_ble_eq_true rfl, Nat.le_of_ble_eq_true rfl⟩) hS htab hlocks (fun H1 hk9 => ⟨kpF hk9 h_g, kpF hk9 h_arr, kpF hk9 h_l, kpF hk9 h_au, fun z hz => kpF hk9 (hns z hz)⟩) (fun E hE9 => XE_1 hE9.1 (if_neg hE9.2)) (Nat.le_of_ble_eq_true rfl) (Nat.le_of_ble_eq_true rfl) (fun _ hc0 H locs hk1 hS => ?_)
  have h_g : PP G ([(a 0, .inr (11, [.ref (a 1), .ref (a 2), .ref (a 4), .ref (a 6), .ref (a 21), .ref (a 28), .ref (a 31), .ref (a 36), .ref (a 41), .ref (a 42), .ref (a 45), .ref (a 48)]))]) H := kpF hk1 h_g
  have h_arr : PP G ([(a 1, .inl (gQ G, 4, .inr (.inr (.inr (.inr (fun z => some (a (49 + 11 * z))))))))]) H := kpF hk1 h_arr
  have h_l : PP G (lanW G a 31 w0 o0) H := kpF hk1 h_l
  have h_au : PP G (audW a 48 x1 x2 x3 x4 x5) H := kpF hk1 h_au
  have hns : NSP G a Ns H := fun z hz => kpF hk1 (hns z hz)
  have hk4 := ix_lt hc0 (by omega)
  have h_f : PP G (famW G a Ns (ix p9)) H := fam_split hns
  have h_n : PP G (netW G a (49 + 11 * ix p9) (Ns (ix p9))) H := hns _ hk4
  have hN := hW _ hk4
  have hg9 := hN.g
  have ho9 := hN.o
  have hi9 := hN.2.1
  refine lv_astore (lv' := [(4, .ref (a (49 + 11 * ix p9))), (0, .ref (a 0)), (1, .int p9), (2, .int op9), (3, .int w9)]) hx hb dX11_unseen_5 hl (by decide) rfl (fun ls hl => ?_)
  refine lv_iload_n hx hb dX11_unseen_7 rfl (lv_at hl 3 rfl) ?_
  refine lv_iconst (v := nI 0) hx hb dX11_unseen_8 (by decide) ?_
  refine lv_iconst (v := nI 1) hx hb dX11_unseen_9 (by decide) ?_
  refine xcv (vx_runS (As := [.int op9, .int (nI 0), .int (nI 1)]) (rest := []) FX (c_X11_needRange l hfl G a ha t9 op9 (nI 0) (nI 1)) (va_cwS 3 hts gX11_unseen_X11_needRange rfl rfl rfl (by decide +kernel) ⟨Nat.le_of_ble_eq_true rfl, Nat.le_of_ble_eq_true rfl⟩) (preSX hK hNW trivial (hLow.at hS (fun q9 _ q => q.elim (rng_M q9) (rng_M q9))) (hX.at hS (fun q9 _ q => q.elim (rng_M q9) (rng_M q9)))) rfl rfl hl.1 rfl (lv_room (Nat.le_of_ble_eq_true rfl)) dX11_unseen_10 ⟨Nat.le_of_ble_eq_true rfl, Nat.le_of_ble_eq_true rfl⟩) hS htab hlocks (fun H1 hk9 => ⟨kpF hk9 h_g, kpF hk9 h_arr, kpF hk9 h_l, kpF hk9 h_au, fam_back (kpF hk9 h_f) (kpF hk9 h_n)⟩) (fun E hE9 => XE_2 hE9.1 ((if_pos hc0).trans (if_neg hE9.2))) (Nat.le_of_ble_eq_true rfl) (Nat.le_of_ble_eq_true rfl) (fun q1 H locs hk2 hS => ?_)
  have h_g : PP G ([(a 0, .inr (11, [.ref (a 1), .ref (a 2), .ref (a 4), .ref (a 6), .ref (a 21), .ref (a 28), .ref (a 31), .ref (a 36), .ref (a 41), .ref (a 42), .ref (a 45), .ref (a 48)]))]) H := kpF hk2 h_g
  have h_arr : PP G ([(a 1, .inl (gQ G, 4, .inr (.inr (.inr (.inr (fun z => some (a (49 + 11 * z))))))))]) H := kpF hk2 h_arr
  have h_l : PP G (lanW G a 31 w0 o0) H := kpF hk2 h_l
  have h_au : PP G (audW a 48 x1 x2 x3 x4 x5) H := kpF hk2 h_au
  have h_f : PP G (famW G a Ns (ix p9)) H := kpF hk2 h_f
  have h_n : PP G (netW G a (49 + 11 * ix p9) (Ns (ix p9))) H := kpF hk2 h_n
  refine lv_iload_n hx hb dX11_unseen_13 rfl (lv_at hl 4 rfl) ?_
  refine lv_iconst (v := nI 2) hx hb dX11_unseen_14 (by decide) ?_
  refine lv_bipush (v := nI 99) hx hb dX11_unseen_15 (by decide) ?_
  refine xcv (vx_runS (As := [.int w9, .int (nI 2), .int (nI 99)]) (rest := []) FX (c_X11_needRange l hfl G a ha t9 w9 (nI 2) (nI 99)) (va_cwS 3 hts gX11_unseen_X11_needRange rfl rfl rfl (by decide +kernel) ⟨Nat.le_of_ble_eq_true rfl, Nat.le_of_ble_eq_true rfl⟩) (preSX hK hNW trivial (hLow.at hS (fun q9 _ q => q.elim (rng_M q9) (rng_M q9))) (hX.at hS (fun q9 _ q => q.elim (rng_M q9) (rng_M q9)))) rfl rfl hl.1 rfl (lv_room (Nat.le_of_ble_eq_true rfl)) dX11_unseen_17 ⟨Nat.le_of_ble_eq_true rfl, Nat.le_of_ble_eq_true rfl⟩) hS htab hlocks (fun H1 hk9 => ⟨kpF hk9 h_g, kpF hk9 h_arr, kpF hk9 h_l, kpF hk9 h_au, fam_back (kpF hk9 h_f) (kpF hk9 h_n)⟩) (fun E hE9 => XE_2 hE9.1 ((if_pos hc0).trans ((if_pos q1).trans (if_neg hE9.2)))) (Nat.le_of_ble_eq_true rfl) (Nat.le_of_ble_eq_true rfl) (fun q2 H locs hk3 hS => ?_)
  have h_g : PP G ([(a 0, .inr (11, [.ref (a 1), .ref (a 2), .ref (a 4), .ref (a 6), .ref (a 21), .ref (a 28), .ref (a 31), .ref (a 36), .ref (a 41), .ref (a 42), .ref (a 45), .ref (a 48)]))]) H := kpF hk3 h_g
  have h_arr : PP G ([(a 1, .inl (gQ G, 4, .inr (.inr (.inr (.inr (fun z => some (a (49 + 11 * z))))))))]) H := kpF hk3 h_arr
  have h_l : PP G (lanW G a 31 w0 o0) H := kpF hk3 h_l
  have h_au : PP G (audW a 48 x1 x2 x3 x4 x5) H := kpF hk3 h_au
  have h_f : PP G (famW G a Ns (ix p9)) H := kpF hk3 h_f
  have h_n : PP G (netW G a (49 + 11 * ix p9) (Ns (ix p9))) H := kpF hk3 h_n
  refine lv_aload hx hb dX11_unseen_20 (lv_at hl 0 rfl) ?_
  refine xcv (vx_runS (As := [.ref (a (49 + 11 * ix p9))]) (rest := []) FX (c_X11_needTwoOperands l hfl G a ha t9 (ix p9) (Ns (ix p9)) hN.2.1) (va_cwS 1 hts gX11_unseen_X11_needTwoOperands rfl rfl rfl (by decide +kernel) ⟨Nat.le_of_ble_eq_true rfl, Nat.le_of_ble_eq_true rfl⟩) (preSX hK hNW h_n (hLow.at hS (fun q9 _ q => q.elim (rng_M q9) (rng_M q9))) (hX.at hS (fun q9 _ q => q.elim (rng_M q9) (rng_M q9)))) rfl rfl hl.1 rfl (lv_room (Nat.le_of_ble_eq_true rfl)) dX11_unseen_22 ⟨Nat.le_of_ble_eq_true rfl, Nat.le_of_ble_eq_true rfl⟩) hS htab hlocks (fun H1 hk9 => ⟨kpF hk9 h_g, kpF hk9 h_arr, kpF hk9 h_l, kpF hk9 h_au, fam_back (kpF hk9 h_f) (kpF hk9 h_n)⟩) (fun E hE9 => XE_3 hE9.1 ((if_pos hc0).trans ((if_pos q1).trans ((if_pos q2).trans (if_neg hE9.2))))) (Nat.le_of_ble_eq_true rfl) (Nat.le_of_ble_eq_true rfl) (fun q3 H locs hk4 hS => ?_)
  have h_g : PP G ([(a 0, .inr (11, [.ref (a 1), .ref (a 2), .ref (a 4), .ref (a 6), .ref (a 21), .ref (a 28), .ref (a 31), .ref (a 36), .ref (a 41), .ref (a 42), .ref (a 45), .ref (a 48)]))]) H := kpF hk4 h_g
  have h_arr : PP G ([(a 1, .inl (gQ G, 4, .inr (.inr (.inr (.inr (fun z => some (a (49 + 11 * z))))))))]) H := kpF hk4 h_arr
  have h_l : PP G (lanW G a 31 w0 o0) H := kpF hk4 h_l
  have h_au : PP G (audW a 48 x1 x2 x3 x4 x5) H := kpF hk4 h_au
  have h_f : PP G (famW G a Ns (ix p9)) H := kpF hk4 h_f
  have h_n : PP G (netW G a (49 + 11 * ix p9) (Ns (ix p9))) H := kpF hk4 h_n
  obtain ⟨eo, leo⟩ := rg_ix q1.1 q1.2 (by omega) (by omega)
  rw [eo] at hl
  obtain ⟨ew, lew⟩ := rg_ix q2.1 q2.2 (by omega) (by omega)
  rw [ew] at hl
  refine lv_aload_n hx hb dX11_unseen_25 rfl (lv_at hl 1 rfl) ?_
  refine va_get (D := G.1) (ci := 11) (v := .ref (a 48)) (C := RX11) (T := TX11) (N := 12) hx hb hts inX11_unseen_11 hown hK h_g 0 rfl rfl 11 (by decide) (hts (.fieldLink RX11 82 "GateLedger" "audit" "LGateLedger$Audit;") (List.mem_of_getElem? (i := 1) (by decide +kernel))) (fun _ h9 => h9) rfl dX11_unseen_26 ?_
  refine lv_aload hx hb dX11_unseen_29 (lv_at hl 0 rfl) ?_
  refine lv_aload_n hx hb dX11_unseen_31 rfl (lv_at hl 1 rfl) ?_
  refine va_get (D := G.1) (ci := 11) (v := .ref (a 31)) (C := RX11) (T := TX11) (N := 12) hx hb hts inX11_unseen_11 hown hK h_g 0 rfl rfl 6 (by decide) (hts (.fieldLink RX11 51 "GateLedger" "lanes" "LGateLedger$Lanes;") (List.mem_of_getElem? (i := 2) (by decide +kernel))) (fun _ h9 => h9) rfl dX11_unseen_32 ?_
  refine lv_iload_n hx hb dX11_unseen_35 rfl (lv_at hl 3 rfl) ?_
  refine lv_iload_n hx hb dX11_unseen_36 rfl (lv_at hl 4 rfl) ?_
  refine wr_v (va_runV (As := [.ref (a (49 + 11 * ix p9)), .ref (a 31), .int (nI (ix op9)), .int (nI (ix w9))]) (rest := []) FX (c_X0_hold l G a ha 48 (49 + 11 * ix p9) 31 t9 (by omega) (by omega) (by omega) (Ns (ix p9)) hN x1 x2 x3 x4 x5 w0 o0 (ix op9) (ix w9) (by omega) (by omega) (by omega)) (cwV 4 hts gX11_unseen_X0_hold rfl rfl rfl (by decide +kernel) ⟨Nat.le_of_ble_eq_true rfl, Nat.le_of_ble_eq_true rfl⟩) (preVL hK hNW (⟨h_au, h_l, h_n⟩) (hLow.at hS (fun q9 _ q => q.elim (rng_M q9) (rng_M q9))) (va_recv hK h_au (ci := 0) (q0 := 0) rfl rfl)) rfl rfl hl.1 rfl (lv_room (Nat.le_of_ble_eq_true rfl)) dX11_unseen_37 ⟨Nat.le_of_ble_eq_true rfl, Nat.le_of_ble_eq_true rfl⟩) hS (fun _ q => q) (fun v8 H locs _ hP9 hk5 hS => ?_)
  have h_au : PP G (audS a 48 (Ns (ix p9)) (ix op9) (ix w9) (2 ^ nIn (Ns (ix p9)))) H := hP9.1
  have h_l : PP G (lanW G a 31 v8.1 v8.2) H := hP9.2
  have h_g : PP G ([(a 0, .inr (11, [.ref (a 1), .ref (a 2), .ref (a 4), .ref (a 6), .ref (a 21), .ref (a 28), .ref (a 31), .ref (a 36), .ref (a 41), .ref (a 42), .ref (a 45), .ref (a 48)]))]) H := kp hk5 h_g (dj_cons (or_no (rng_no ha (by omega)) (rng_no ha (by omega))) (dj_nil))
  have h_arr : PP G ([(a 1, .inl (gQ G, 4, .inr (.inr (.inr (.inr (fun z => some (a (49 + 11 * z))))))))]) H := kp hk5 h_arr (dj_cons (or_no (rng_no ha (by omega)) (rng_no ha (by omega))) (dj_nil))
  have h_f : PP G (famW G a Ns (ix p9)) H := kp hk5 h_f (dj_or (dj_famo ha (by omega)) (dj_famo ha (by omega)))
  have h_n : PP G (netW G a (49 + 11 * ix p9) (Ns (ix p9))) H := kp hk5 h_n (dj_or (dj_rng ha (netW_in (G := G) (a := a) (j := (49 + 11 * ix p9)) (N := (Ns (ix p9)))) (by omega)) (dj_rng ha (netW_in (G := G) (a := a) (j := (49 + 11 * ix p9)) (N := (Ns (ix p9)))) (by omega)))
  refine lv_aload_n hx hb dX11_unseen_40 rfl (lv_at hl 1 rfl) ?_
  refine va_get (D := G.1) (ci := 11) (v := .ref (a 48)) (C := RX11) (T := TX11) (N := 12) hx hb hts inX11_unseen_11 hown hK h_g 0 rfl rfl 11 (by decide) (hts (.fieldLink RX11 82 "GateLedger" "audit" "LGateLedger$Audit;") (List.mem_of_getElem? (i := 1) (by decide +kernel))) (fun _ h9 => h9) rfl dX11_unseen_41 ?_
  refine ro_i (va_runV (As := []) (rest := []) FX (c_X0_unseenCount l G a 48 (nI (AX (Ns (ix p9)) (ix op9) (2 ^ nIn (Ns (ix p9))))) (AY (Ns (ix p9)) (ix op9) (2 ^ nIn (Ns (ix p9)))) (AZ (Ns (ix p9)) (ix op9) (2 ^ nIn (Ns (ix p9)))) (AV (Ns (ix p9)) (ix op9) (2 ^ nIn (Ns (ix p9)))) (AU (Ns (ix p9)) (ix op9) (ix w9) (2 ^ nIn (Ns (ix p9))))) (cwV 0 hts gX11_unseen_X0_unseenCount rfl rfl rfl (by decide +kernel) ⟨Nat.le_of_ble_eq_true rfl, Nat.le_of_ble_eq_true rfl⟩) (preV hK hNW h_au (va_recv hK h_au (ci := 0) (q0 := 0) rfl rfl)) rfl rfl hl.1 rfl (lv_room (Nat.le_of_ble_eq_true rfl)) dX11_unseen_44 ⟨Nat.le_of_ble_eq_true rfl, Nat.le_of_ble_eq_true rfl⟩) ?_
  refine retw (Nat.le_of_ble_eq_true rfl) (Nat.le_of_ble_eq_true rfl) ?_
  exact en_wi (v8, (nI (AX (Ns (ix p9)) (ix op9) (2 ^ nIn (Ns (ix p9)))), AY (Ns (ix p9)) (ix op9) (2 ^ nIn (Ns (ix p9))), AZ (Ns (ix p9)) (ix op9) (2 ^ nIn (Ns (ix p9))), AV (Ns (ix p9)) (ix op9) (2 ^ nIn (Ns (ix p9))), AU (Ns (ix p9)) (ix op9) (ix w9) (2 ^ nIn (Ns (ix p9))))) hx hb hr hlocks hS (⟨((if_pos hc0).trans ((if_pos q1).trans ((if_pos q2).trans (if_pos q3)))), rfl⟩) (⟨h_g, h_arr, h_l, h_au, fam_back h_f h_n⟩) dX11_unseen_47
