set_option maxRecDepth 20000 in
theorem inX11_changesAnew_11 : ∀ w ∈ u_ws RX11 TX11 12, w ∈ wsX11_changesAnew := by decide +kernel
set_option maxHeartbeats 4000000 in
set_option maxRecDepth 100000 in
/-- changesAnew -/
theorem c_X11_changesAnew (l : Launch) (hfl : l.stackTraces = false) (G : GG) (a : Nat → Nat) (ha : Inj a) (t9 : Nat) (Ns : Nat → NT) (dl : Nat → Nat) (hd : DL dl) (x0 : Int32) (f0 : Nat → Int32) (w0 o0 w1 o1 : Nat → Int64) (x1 y1 z1 : Nat) (tf : Nat → Int32) (p9 f9 v9 w9 : Int32) (hW : ∀ z, z < 4 → WF (Ns z))  : vx_Met l yX11_changesAnew wsX11_changesAnew ({ frames := 8, cells := 4, slots := 24, locals := 126 } : Room) (PcX G a t9 [.ref (a 0), .int p9, .int f9, .int v9, .int w9] (fun H => PP G ([(a 0, .inr (11, [.ref (a 1), .ref (a 2), .ref (a 4), .ref (a 6), .ref (a 21), .ref (a 28), .ref (a 31), .ref (a 36), .ref (a 41), .ref (a 42), .ref (a 45), .ref (a 48)]))]) H ∧ PP G ([(a 1, .inl (gQ G, 4, .inr (.inr (.inr (.inr (fun z => some (a (49 + 11 * z))))))))]) H ∧ PP G (rowW G a 2 4 (fun z => nI (dl z))) H ∧ PP G (timW G a 28 x0 f0) H ∧ PP G (lanW G a 31 w0 o0) H ∧ PP G (lanW G a 36 w1 o1) H ∧ PP G (talW a 41 x1 y1 z1) H ∧ PP G (ticW G a 45 tf) H ∧ NSP G a Ns H)) (QI (fun (r : Int32) (_ : ((Nat → Int32) × ((Nat → Int64) × (Nat → Int64)) × ((Nat → Int64) × (Nat → Int64))) × (Nat → Int32) × Nat × Nat × Nat) => cCh p9 f9 v9 w9 = 0 ∧ r = nI (tkV (Ns (ix p9)) dl (ix f9) (ix v9) (mxT (Ns (ix p9)) dl (nG (Ns (ix p9))) + 1) (ix w9))) (fun u H => PP G ([(a 0, .inr (11, [.ref (a 1), .ref (a 2), .ref (a 4), .ref (a 6), .ref (a 21), .ref (a 28), .ref (a 31), .ref (a 36), .ref (a 41), .ref (a 42), .ref (a 45), .ref (a 48)]))]) H ∧ PP G ([(a 1, .inl (gQ G, 4, .inr (.inr (.inr (.inr (fun z => some (a (49 + 11 * z))))))))]) H ∧ PP G (rowW G a 2 4 (fun z => nI (dl z))) H ∧ PP G (timW G a 28 (nI (mxT (Ns (ix p9)) dl (nG (Ns (ix p9))))) u.1.1) H ∧ PP G (lanW G a 31 u.1.2.1.1 u.1.2.1.2) H ∧ PP G (lanW G a 36 u.1.2.2.1 u.1.2.2.2) H ∧ PP G (talW a 41 u.2.2.1 u.2.2.2.1 u.2.2.2.2) H ∧ PP G (ticW G a 45 u.2.1) H ∧ NSP G a Ns H) (orA (rng a 28 14) (rng a 45 3))) (XQ (XE (cCh p9 f9 v9 w9)) (fun H => PP G ([(a 0, .inr (11, [.ref (a 1), .ref (a 2), .ref (a 4), .ref (a 6), .ref (a 21), .ref (a 28), .ref (a 31), .ref (a 36), .ref (a 41), .ref (a 42), .ref (a 45), .ref (a 48)]))]) H ∧ PP G ([(a 1, .inl (gQ G, 4, .inr (.inr (.inr (.inr (fun z => some (a (49 + 11 * z))))))))]) H ∧ PP G (rowW G a 2 4 (fun z => nI (dl z))) H ∧ PP G (timW G a 28 x0 f0) H ∧ PP G (lanW G a 31 w0 o0) H ∧ PP G (lanW G a 36 w1 o1) H ∧ PP G (talW a 41 x1 y1 z1) H ∧ PP G (ticW G a 45 tf) H ∧ NSP G a Ns H) (orA (rng a 28 14) (rng a 45 3))) 4 24 (orA (rng a 28 14) (rng a 45 3)) := by
  refine vx_ofW (cc := cX11_changesAnew) (maxL := 7) (ret := (some .int)) (by decide) rfl ?_
  intro p e s m args below meth c s₁ B hml htab hv
  obtain ⟨⟨⟨rfl, hB, hK, hNW⟩, hLow⟩, hX⟩ := hv
  have hx := B.exec
  have hb := B.bytes
  have hr := B.returns
  have hts := atoms_spec (ws := wsX11_changesAnew) B.pre
  have hown : s.vm.findClass RX11 = some m.cls := findClass_of_methodNamed B.named
  have hlocks := B.notSynchronized
  have FX : CallFix p m c cX11_changesAnew 7 s ([.ref (a 0), .int p9, .int f9, .int v9, .int w9] : List Value).toArray wsX11_changesAnew RX11 := ⟨hx, hb, hml, hown, hts⟩
  have hl := lv_entry ([.ref (a 0), .int p9, .int f9, .int v9, .int w9]) (n := 7) (Nat.le_of_ble_eq_true rfl)
  rw [lg_entry_eq]
  generalize (lg_sl ([.ref (a 0), .int p9, .int f9, .int v9, .int w9]) ++ List.replicate (7 - (lg_sl ([.ref (a 0), .int p9, .int f9, .int v9, .int w9])).length) Slot.unset).toArray = ls at hl ⊢
  have hl : lv_has ls 7 [(0, .ref (a 0)), (1, .int p9), (2, .int f9), (3, .int v9), (4, .int w9)] := hl
  obtain ⟨h_g, h_arr, h_d, h_t, h_l, h_l2, h_ta, h_tk, hns⟩ := hB
  have hS : va_S (orA (rng a 28 14) (rng a 45 3)) s.heap s.heap [] := va_S.rf
  refine lv_aload_n hx hb dX11_changesAnew_0 rfl (lv_at hl 0 rfl) ?_
  refine lv_iload_n hx hb dX11_changesAnew_1 rfl (lv_at hl 1 rfl) ?_
  refine xcr (vx_runV (As := [.int p9]) (rest := []) FX (c_X11_netAt l hfl G a ha t9 p9) (cwV 1 hts gX11_changesAnew_X11_netAt rfl rfl rfl (by decide +kernel) ⟨Nat.le_of_ble_eq_true rfl, Nat.le_of_ble_eq_true rfl⟩) (preVX hK hNW (⟨h_g, h_arr⟩) (hLow.at hS (fun q9 _ q => q.elim (fun c => rng_M q9 c) (fun c => rng_M q9 c))) (hX.at hS (fun q9 _ q => q.elim (fun c => rng_M q9 c) (fun c => rng_M q9 c))) (va_recv hK h_g (ci := 11) (q0 := 0) rfl rfl)) rfl rfl hl.1 rfl (lv_room (Nat.le_of_ble_eq_true rfl)) dX11_changesAnew_2 ⟨Nat.le_of_ble_eq_true rfl, Nat.le_of_ble_eq_true rfl⟩) hS htab hlocks (fun H1 hk9 => ⟨kpF hk9 h_g, kpF hk9 h_arr, kpF hk9 h_d, kpF hk9 h_t, kpF hk9 h_l, kpF hk9 h_l2, kpF hk9 h_ta, kpF hk9 h_tk, fun z hz => kpF hk9 (hns z hz)⟩) (fun E hE9 => XE_1 hE9.1 (if_neg hE9.2)) (Nat.le_of_ble_eq_true rfl) (Nat.le_of_ble_eq_true rfl) (fun _ hc0 H locs hk1 hS => ?_)
  have h_g : PP G ([(a 0, .inr (11, [.ref (a 1), .ref (a 2), .ref (a 4), .ref (a 6), .ref (a 21), .ref (a 28), .ref (a 31), .ref (a 36), .ref (a 41), .ref (a 42), .ref (a 45), .ref (a 48)]))]) H := kpF hk1 h_g
  have h_arr : PP G ([(a 1, .inl (gQ G, 4, .inr (.inr (.inr (.inr (fun z => some (a (49 + 11 * z))))))))]) H := kpF hk1 h_arr
  have h_d : PP G (rowW G a 2 4 (fun z => nI (dl z))) H := kpF hk1 h_d
  have h_t : PP G (timW G a 28 x0 f0) H := kpF hk1 h_t
  have h_l : PP G (lanW G a 31 w0 o0) H := kpF hk1 h_l
  have h_l2 : PP G (lanW G a 36 w1 o1) H := kpF hk1 h_l2
  have h_ta : PP G (talW a 41 x1 y1 z1) H := kpF hk1 h_ta
  have h_tk : PP G (ticW G a 45 tf) H := kpF hk1 h_tk
  have hns : NSP G a Ns H := fun z hz => kpF hk1 (hns z hz)
  have hk4 := ix_lt hc0 (by omega)
  have h_f : PP G (famW G a Ns (ix p9)) H := fam_split hns
  have h_n : PP G (netW G a (49 + 11 * ix p9) (Ns (ix p9))) H := hns _ hk4
  have hN := hW _ hk4
  have hg9 := hN.g
  have ho9 := hN.o
  have hi9 := hN.2.1
  refine lv_astore (lv' := [(5, .ref (a (49 + 11 * ix p9))), (0, .ref (a 0)), (1, .int p9), (2, .int f9), (3, .int v9), (4, .int w9)]) hx hb dX11_changesAnew_5 hl (by decide) rfl (fun ls hl => ?_)
  refine lv_iload_n hx hb dX11_changesAnew_7 rfl (lv_at hl 3 rfl) ?_
  refine lv_iload_n hx hb dX11_changesAnew_8 rfl (lv_at hl 4 rfl) ?_
  refine lv_iload hx hb dX11_changesAnew_9 (lv_at hl 5 rfl) ?_
  refine xcv (vx_runS (As := [.int f9, .int v9, .int w9]) (rest := []) FX (c_X11_needTransition l hfl G a ha t9 f9 v9 w9) (va_cwS 3 hts gX11_changesAnew_X11_needTransition rfl rfl rfl (by decide +kernel) ⟨Nat.le_of_ble_eq_true rfl, Nat.le_of_ble_eq_true rfl⟩) (preSX hK hNW trivial (hLow.at hS (fun q9 _ q => q.elim (fun c => rng_M q9 c) (fun c => rng_M q9 c))) (hX.at hS (fun q9 _ q => q.elim (fun c => rng_M q9 c) (fun c => rng_M q9 c)))) rfl rfl hl.1 rfl (lv_room (Nat.le_of_ble_eq_true rfl)) dX11_changesAnew_11 ⟨Nat.le_of_ble_eq_true rfl, Nat.le_of_ble_eq_true rfl⟩) hS htab hlocks (fun H1 hk9 => ⟨kpF hk9 h_g, kpF hk9 h_arr, kpF hk9 h_d, kpF hk9 h_t, kpF hk9 h_l, kpF hk9 h_l2, kpF hk9 h_ta, kpF hk9 h_tk, fam_back (kpF hk9 h_f) (kpF hk9 h_n)⟩) (fun E hE9 => XE_2 hE9.1 ((if_pos hc0).trans (if_neg hE9.2))) (Nat.le_of_ble_eq_true rfl) (Nat.le_of_ble_eq_true rfl) (fun q1 H locs hk2 hS => ?_)
  have h_g : PP G ([(a 0, .inr (11, [.ref (a 1), .ref (a 2), .ref (a 4), .ref (a 6), .ref (a 21), .ref (a 28), .ref (a 31), .ref (a 36), .ref (a 41), .ref (a 42), .ref (a 45), .ref (a 48)]))]) H := kpF hk2 h_g
  have h_arr : PP G ([(a 1, .inl (gQ G, 4, .inr (.inr (.inr (.inr (fun z => some (a (49 + 11 * z))))))))]) H := kpF hk2 h_arr
  have h_d : PP G (rowW G a 2 4 (fun z => nI (dl z))) H := kpF hk2 h_d
  have h_t : PP G (timW G a 28 x0 f0) H := kpF hk2 h_t
  have h_l : PP G (lanW G a 31 w0 o0) H := kpF hk2 h_l
  have h_l2 : PP G (lanW G a 36 w1 o1) H := kpF hk2 h_l2
  have h_ta : PP G (talW a 41 x1 y1 z1) H := kpF hk2 h_ta
  have h_tk : PP G (ticW G a 45 tf) H := kpF hk2 h_tk
  have h_f : PP G (famW G a Ns (ix p9)) H := kpF hk2 h_f
  have h_n : PP G (netW G a (49 + 11 * ix p9) (Ns (ix p9))) H := kpF hk2 h_n
  obtain ⟨ef, lef⟩ := rg_ix q1.1.1 q1.1.2 (by omega) (by omega)
  rw [ef] at hl
  obtain ⟨ev, lev⟩ := rg_ix q1.2.1.1 q1.2.1.2 (by omega) (by omega)
  rw [ev] at hl
  obtain ⟨ew, lew⟩ := rg_ix q1.2.2.1 q1.2.2.2 (by omega) (by omega)
  rw [ew] at hl
  refine lv_aload_n hx hb dX11_changesAnew_14 rfl (lv_at hl 1 rfl) ?_
  refine lv_aload hx hb dX11_changesAnew_15 (lv_at hl 0 rfl) ?_
  refine lv_iload_n hx hb dX11_changesAnew_17 rfl (lv_at hl 3 rfl) ?_
  refine lv_iload_n hx hb dX11_changesAnew_18 rfl (lv_at hl 4 rfl) ?_
  refine wr_v (va_runV (As := [.ref (a (49 + 11 * ix p9)), .int (nI (ix f9)), .int (nI (ix v9))]) (rest := []) FX (c_X11_prepareTransition l G a ha t9 Ns p9 hN dl hd x0 f0 w0 o0 w1 o1 x1 y1 z1 (ix f9) (ix v9) (by omega) (by omega)) (cwV 3 hts gX11_changesAnew_X11_prepareTransition rfl rfl rfl (by decide +kernel) ⟨Nat.le_of_ble_eq_true rfl, Nat.le_of_ble_eq_true rfl⟩) (preVL hK hNW (⟨h_g, h_d, h_t, h_l, h_l2, h_ta, h_n⟩) (hLow.at hS (fun q9 _ q => q.elim (fun c => rng_M q9 c) (fun c => rng_M q9 c))) (va_recv hK h_g (ci := 11) (q0 := 0) rfl rfl)) rfl rfl hl.1 rfl (lv_room (Nat.le_of_ble_eq_true rfl)) dX11_changesAnew_19 ⟨Nat.le_of_ble_eq_true rfl, Nat.le_of_ble_eq_true rfl⟩) hS (fun q h => Or.inl ((rng_sub (by omega)) q h)) (fun v7 H locs hv7 hP9 hk3 hS => ?_)
  have h_t : PP G (timW G a 28 (nI (mxT (Ns (ix p9)) dl (nG (Ns (ix p9))))) v7.1) H := hP9.1
  have h_l : PP G (lanW G a 31 v7.2.1.1 v7.2.1.2) H := hP9.2.1
  have h_l2 : PP G (lanW G a 36 v7.2.2.1 v7.2.2.2) H := hP9.2.2.1
  have h_ta : PP G (talW a 41 0 0 0) H := hP9.2.2.2
  have h_g : PP G ([(a 0, .inr (11, [.ref (a 1), .ref (a 2), .ref (a 4), .ref (a 6), .ref (a 21), .ref (a 28), .ref (a 31), .ref (a 36), .ref (a 41), .ref (a 42), .ref (a 45), .ref (a 48)]))]) H := kp hk3 h_g (dj_cons (rng_no ha (by omega)) (dj_nil))
  have h_arr : PP G ([(a 1, .inl (gQ G, 4, .inr (.inr (.inr (.inr (fun z => some (a (49 + 11 * z))))))))]) H := kp hk3 h_arr (dj_cons (rng_no ha (by omega)) (dj_nil))
  have h_d : PP G (rowW G a 2 4 (fun z => nI (dl z))) H := kp hk3 h_d (dj_cons (rng_no ha (by omega)) (dj_cons (rng_no ha (by omega)) (dj_nil)))
  have h_tk : PP G (ticW G a 45 tf) H := kp hk3 h_tk (dj_rng ha (ticW_in (G := G) (a := a) (i := 45) (f := tf)) (by omega))
  have h_f : PP G (famW G a Ns (ix p9)) H := kp hk3 h_f (dj_famo ha (by omega))
  have h_n : PP G (netW G a (49 + 11 * ix p9) (Ns (ix p9))) H := kp hk3 h_n (dj_rng ha (netW_in (G := G) (a := a) (j := (49 + 11 * ix p9)) (N := (Ns (ix p9)))) (by omega))
  have hm9 := mxT_le hN hd (nG (Ns (ix p9))) (Nat.le_refl _)
  refine lv_aload_n hx hb dX11_changesAnew_22 rfl (lv_at hl 1 rfl) ?_
  refine va_get (D := G.1) (ci := 11) (v := .ref (a 45)) (C := RX11) (T := TX11) (N := 12) hx hb hts inX11_changesAnew_11 hown hK h_g 0 rfl rfl 10 (by decide) (hts (.fieldLink RX11 75 "GateLedger" "ticks" "LGateLedger$Ticks;") (List.mem_of_getElem? (i := 1) (by decide +kernel))) (fun _ h9 => h9) rfl dX11_changesAnew_23 ?_
  refine lv_aload hx hb dX11_changesAnew_26 (lv_at hl 0 rfl) ?_
  refine lv_aload_n hx hb dX11_changesAnew_28 rfl (lv_at hl 1 rfl) ?_
  refine va_get (D := G.1) (ci := 11) (v := .ref (a 31)) (C := RX11) (T := TX11) (N := 12) hx hb hts inX11_changesAnew_11 hown hK h_g 0 rfl rfl 6 (by decide) (hts (.fieldLink RX11 51 "GateLedger" "lanes" "LGateLedger$Lanes;") (List.mem_of_getElem? (i := 2) (by decide +kernel))) (fun _ h9 => h9) rfl dX11_changesAnew_29 ?_
  refine wr_v (va_runV (As := [.ref (a (49 + 11 * ix p9)), .ref (a 31)]) (rest := []) FX (c_X6_begin l G a ha 45 (49 + 11 * ix p9) 31 tf (by omega) (by omega) (Ns (ix p9)) hN v7.2.1.1 v7.2.1.2 (bt (Ns (ix p9)) (ix f9)) hv7.2.1) (cwV 2 hts gX11_changesAnew_X6_begin rfl rfl rfl (by decide +kernel) ⟨Nat.le_of_ble_eq_true rfl, Nat.le_of_ble_eq_true rfl⟩) (preV hK hNW (⟨h_tk, h_n, h_l⟩) (va_recv hK h_tk (ci := 6) (q0 := 0) rfl rfl)) rfl rfl hl.1 rfl (lv_room (Nat.le_of_ble_eq_true rfl)) dX11_changesAnew_32 ⟨Nat.le_of_ble_eq_true rfl, Nat.le_of_ble_eq_true rfl⟩) hS (fun q h => Or.inr ((rng_sub (by omega)) q h)) (fun g8 H locs hg8 hP9 hk5 hS => ?_)
  have h_tk : PP G (ticW G a 45 g8) H := hP9
  have h_g : PP G ([(a 0, .inr (11, [.ref (a 1), .ref (a 2), .ref (a 4), .ref (a 6), .ref (a 21), .ref (a 28), .ref (a 31), .ref (a 36), .ref (a 41), .ref (a 42), .ref (a 45), .ref (a 48)]))]) H := kp hk5 h_g (dj_cons (rng_no ha (by omega)) (dj_nil))
  have h_arr : PP G ([(a 1, .inl (gQ G, 4, .inr (.inr (.inr (.inr (fun z => some (a (49 + 11 * z))))))))]) H := kp hk5 h_arr (dj_cons (rng_no ha (by omega)) (dj_nil))
  have h_d : PP G (rowW G a 2 4 (fun z => nI (dl z))) H := kp hk5 h_d (dj_cons (rng_no ha (by omega)) (dj_cons (rng_no ha (by omega)) (dj_nil)))
  have h_t : PP G (timW G a 28 (nI (mxT (Ns (ix p9)) dl (nG (Ns (ix p9))))) v7.1) H := kp hk5 h_t (dj_rng ha (timW_in (G := G) (a := a) (i := 28) (x := (nI (mxT (Ns (ix p9)) dl (nG (Ns (ix p9)))))) (f := v7.1)) (by omega))
  have h_l : PP G (lanW G a 31 v7.2.1.1 v7.2.1.2) H := kp hk5 h_l (dj_rng ha (lanW_in (G := G) (a := a) (i := 31) (w := v7.2.1.1) (o := v7.2.1.2)) (by omega))
  have h_l2 : PP G (lanW G a 36 v7.2.2.1 v7.2.2.2) H := kp hk5 h_l2 (dj_rng ha (lanW_in (G := G) (a := a) (i := 36) (w := v7.2.2.1) (o := v7.2.2.2)) (by omega))
  have h_ta : PP G (talW a 41 0 0 0) H := kp hk5 h_ta (dj_rng ha (talW_in (a := a) (i := 41) (x := 0) (y := 0) (z := 0)) (by omega))
  have h_f : PP G (famW G a Ns (ix p9)) H := kp hk5 h_f (dj_famo ha (by omega))
  have h_n : PP G (netW G a (49 + 11 * ix p9) (Ns (ix p9))) H := kp hk5 h_n (dj_rng ha (netW_in (G := G) (a := a) (j := (49 + 11 * ix p9)) (N := (Ns (ix p9)))) (by omega))
  refine lv_iconst (v := nI 0) hx hb dX11_changesAnew_35 (by decide) ?_
  refine lv_istore (lv' := [(6, .int (nI 0)), (5, .ref (a (49 + 11 * ix p9))), (0, .ref (a 0)), (1, .int p9), (2, .int (nI (ix f9))), (3, .int (nI (ix v9))), (4, .int (nI (ix w9)))]) hx hb dX11_changesAnew_36 hl (by decide) rfl (fun ls hl => ?_)
  refine lv_loop2 38 (fun (q : Nat) (g5 : Nat → Int32) => mxT (Ns (ix p9)) dl (nG (Ns (ix p9))) + 1 - q) (fun (q : Nat) (g5 : Nat → Int32) (H : Heap) (locs : List Loc) (ls : Array Slot) => (PP G ([(a 0, .inr (11, [.ref (a 1), .ref (a 2), .ref (a 4), .ref (a 6), .ref (a 21), .ref (a 28), .ref (a 31), .ref (a 36), .ref (a 41), .ref (a 42), .ref (a 45), .ref (a 48)]))]) H) ∧ (PP G ([(a 1, .inl (gQ G, 4, .inr (.inr (.inr (.inr (fun z => some (a (49 + 11 * z))))))))]) H) ∧ (PP G (rowW G a 2 4 (fun z => nI (dl z))) H) ∧ (PP G (timW G a 28 (nI (mxT (Ns (ix p9)) dl (nG (Ns (ix p9))))) v7.1) H) ∧ (PP G (lanW G a 31 v7.2.1.1 v7.2.1.2) H) ∧ (PP G (lanW G a 36 v7.2.2.1 v7.2.2.2) H) ∧ (PP G (talW a 41 (tkX (Ns (ix p9)) dl (ix f9) (ix v9) q) (tkY (Ns (ix p9)) dl (ix f9) (ix v9) q) (tkZ (Ns (ix p9)) dl (ix f9) (ix v9) q)) H) ∧ (PP G (ticW G a 45 g5) H) ∧ (PP G (famW G a Ns (ix p9)) H) ∧ (PP G (netW G a (49 + 11 * ix p9) (Ns (ix p9))) H) ∧ (va_S (orA (rng a 28 14) (rng a 45 3)) s.heap H locs) ∧ (lv_has ls 7 [(0, .ref (a 0)), (1, .int p9), (2, .int (nI (ix f9))), (3, .int (nI (ix v9))), (4, .int (nI (ix w9))), (5, .ref (a (49 + 11 * ix p9))), (6, .int (nI q))]) ∧ (q ≤ mxT (Ns (ix p9)) dl (nG (Ns (ix p9))) + 1) ∧ (WIN (Ns (ix p9)) dl (ix f9) (ix v9) q g5)) (fun _ _ => []) (fun q g5 H locs ls hI ih => ?_) 0 g8 ⟨h_g, h_arr, h_d, h_t, h_l, h_l2, h_ta, h_tk, h_f, h_n, hS, lv_sub hl [2, 3, 4, 5, 6, 1, 0] rfl, by omega, WIN_0 hg8⟩ rfl
  obtain ⟨h_g, h_arr, h_d, h_t, h_l, h_l2, h_ta, h_tk, h_f, h_n, hS, hl, hq, hw5⟩ := hI
  have ih7 := @ih
  clear ih
  refine lv_iload hx hb dX11_changesAnew_38 (lv_at hl 6 rfl) ?_
  refine lv_aload_n hx hb dX11_changesAnew_40 rfl (lv_at hl 0 rfl) ?_
  refine va_get (D := G.1) (ci := 11) (v := .ref (a 28)) (C := RX11) (T := TX11) (N := 12) hx hb hts inX11_changesAnew_11 hown hK h_g 0 rfl rfl 5 (by decide) (hts (.fieldLink RX11 44 "GateLedger" "timing" "LGateLedger$Timing;") (List.mem_of_getElem? (i := 3) (by decide +kernel))) (fun _ h9 => h9) rfl dX11_changesAnew_41 ?_
  refine ro_i (va_runV (As := []) (rest := [.int (nI q)]) FX (c_X7_latest l G a 28 (nI (mxT (Ns (ix p9)) dl (nG (Ns (ix p9))))) v7.1) (cwV 0 hts gX11_changesAnew_X7_latest rfl rfl rfl (by decide +kernel) ⟨Nat.le_of_ble_eq_true rfl, Nat.le_of_ble_eq_true rfl⟩) (preV hK hNW h_t (va_recv hK h_t (ci := 7) (q0 := 0) rfl rfl)) rfl rfl hl.1 rfl (lv_room (Nat.le_of_ble_eq_true rfl)) dX11_changesAnew_44 ⟨Nat.le_of_ble_eq_true rfl, Nat.le_of_ble_eq_true rfl⟩) ?_
  refine lv_icmp_gt (tgt := 79) hx hb dX11_changesAnew_47 (by decide) (fun c47 => ?_) (fun c47 => ?_)
  · skip
    have c47 := cv_lt (by omega) (by omega) c47
    have eq : q = mxT (Ns (ix p9)) dl (nG (Ns (ix p9))) + 1 := by omega
    refine lv_aload_n hx hb dX11_changesAnew_79 rfl (lv_at hl 0 rfl) ?_
    refine va_get (D := G.1) (ci := 11) (v := .ref (a 41)) (C := RX11) (T := TX11) (N := 12) hx hb hts inX11_changesAnew_11 hown hK h_g 0 rfl rfl 8 (by decide) (hts (.fieldLink RX11 61 "GateLedger" "tally" "LGateLedger$Tally;") (List.mem_of_getElem? (i := 6) (by decide +kernel))) (fun _ h9 => h9) rfl dX11_changesAnew_80 ?_
    refine lv_iload hx hb dX11_changesAnew_83 (lv_at hl 4 rfl) ?_
    refine ro_i (va_runV (As := [.int (nI (ix w9))]) (rest := []) FX (c_X5_told l G a 41 (tkX (Ns (ix p9)) dl (ix f9) (ix v9) q) (tkY (Ns (ix p9)) dl (ix f9) (ix v9) q) (tkZ (Ns (ix p9)) dl (ix f9) (ix v9) q) (ix w9) (by omega)) (cwV 1 hts gX11_changesAnew_X5_told rfl rfl rfl (by decide +kernel) ⟨Nat.le_of_ble_eq_true rfl, Nat.le_of_ble_eq_true rfl⟩) (preV hK hNW h_ta (va_recv hK h_ta (ci := 5) (q0 := 0) rfl rfl)) rfl rfl hl.1 rfl (lv_room (Nat.le_of_ble_eq_true rfl)) dX11_changesAnew_85 ⟨Nat.le_of_ble_eq_true rfl, Nat.le_of_ble_eq_true rfl⟩) ?_
    refine retw (Nat.le_of_ble_eq_true rfl) (Nat.le_of_ble_eq_true rfl) ?_
    exact en_wi (v7, g5, tkX (Ns (ix p9)) dl (ix f9) (ix v9) q, tkY (Ns (ix p9)) dl (ix f9) (ix v9) q, tkZ (Ns (ix p9)) dl (ix f9) (ix v9) q) hx hb hr hlocks hS (⟨((if_pos hc0).trans (if_pos q1)), congrArg (fun z => nI (tkV (Ns (ix p9)) dl (ix f9) (ix v9) z (ix w9))) eq⟩) (⟨h_g, h_arr, h_d, h_t, h_l, h_l2, h_ta, h_tk, fam_back h_f h_n⟩) dX11_changesAnew_88
  · skip
    have c47 := cv_nlt (by omega) (by omega) c47
    refine lv_aload_n hx hb dX11_changesAnew_50 rfl (lv_at hl 0 rfl) ?_
    refine va_get (D := G.1) (ci := 11) (v := .ref (a 45)) (C := RX11) (T := TX11) (N := 12) hx hb hts inX11_changesAnew_11 hown hK h_g 0 rfl rfl 10 (by decide) (hts (.fieldLink RX11 75 "GateLedger" "ticks" "LGateLedger$Ticks;") (List.mem_of_getElem? (i := 1) (by decide +kernel))) (fun _ h9 => h9) rfl dX11_changesAnew_51 ?_
    refine lv_aload hx hb dX11_changesAnew_54 (lv_at hl 5 rfl) ?_
    refine lv_aload_n hx hb dX11_changesAnew_56 rfl (lv_at hl 0 rfl) ?_
    refine va_get (D := G.1) (ci := 11) (v := .ref (a 2)) (C := RX11) (T := TX11) (N := 12) hx hb hts inX11_changesAnew_11 hown hK h_g 0 rfl rfl 1 (by decide) (hts (.fieldLink RX11 20 "GateLedger" "delays" "LGateLedger$Row;") (List.mem_of_getElem? (i := 4) (by decide +kernel))) (fun _ h9 => h9) rfl dX11_changesAnew_57 ?_
    refine lv_aload_n hx hb dX11_changesAnew_60 rfl (lv_at hl 0 rfl) ?_
    refine va_get (D := G.1) (ci := 11) (v := .ref (a 36)) (C := RX11) (T := TX11) (N := 12) hx hb hts inX11_changesAnew_11 hown hK h_g 0 rfl rfl 7 (by decide) (hts (.fieldLink RX11 55 "GateLedger" "otherLanes" "LGateLedger$Lanes;") (List.mem_of_getElem? (i := 5) (by decide +kernel))) (fun _ h9 => h9) rfl dX11_changesAnew_61 ?_
    refine lv_iload hx hb dX11_changesAnew_64 (lv_at hl 6 rfl) ?_
    refine lv_aload_n hx hb dX11_changesAnew_66 rfl (lv_at hl 0 rfl) ?_
    refine va_get (D := G.1) (ci := 11) (v := .ref (a 41)) (C := RX11) (T := TX11) (N := 12) hx hb hts inX11_changesAnew_11 hown hK h_g 0 rfl rfl 8 (by decide) (hts (.fieldLink RX11 61 "GateLedger" "tally" "LGateLedger$Tally;") (List.mem_of_getElem? (i := 6) (by decide +kernel))) (fun _ h9 => h9) rfl dX11_changesAnew_67 ?_
    refine wr_v (va_runV (As := [.ref (a (49 + 11 * ix p9)), .ref (a 2), .ref (a 36), .int (nI q), .ref (a 41)]) (rest := []) FX (c_X6_run l G a ha 45 (49 + 11 * ix p9) 2 36 41 g5 (by omega) (by omega) (by omega) (by omega) (by omega) (by omega) (by omega) (Ns (ix p9)) hN dl hd (ix f9) (ix v9) v7.2.2.1 v7.2.2.2 hv7.2.2 q (tkX (Ns (ix p9)) dl (ix f9) (ix v9) q) (tkY (Ns (ix p9)) dl (ix f9) (ix v9) q) (tkZ (Ns (ix p9)) dl (ix f9) (ix v9) q) (by omega) (tkY_le q) hw5) (cwV 5 hts gX11_changesAnew_X6_run rfl rfl rfl (by decide +kernel) ⟨Nat.le_of_ble_eq_true rfl, Nat.le_of_ble_eq_true rfl⟩) (preV hK hNW (⟨h_tk, h_ta, h_n, h_d, h_l2⟩) (va_recv hK h_tk (ci := 6) (q0 := 0) rfl rfl)) rfl rfl hl.1 rfl (lv_room (Nat.le_of_ble_eq_true rfl)) dX11_changesAnew_70 ⟨Nat.le_of_ble_eq_true rfl, Nat.le_of_ble_eq_true rfl⟩) hS (fun q h => h.elim ((fun q h => Or.inr ((rng_sub (by omega)) q h)) q) ((fun q h => Or.inl ((rng_sub (by omega)) q h)) q)) (fun g6 H locs hg6 hP9 hk8 hS => ?_)
    have h_tk : PP G (ticW G a 45 g6) H := hP9.1
    have h_ta : PP G (talW a 41 (tkX (Ns (ix p9)) dl (ix f9) (ix v9) (q + 1)) (tkY (Ns (ix p9)) dl (ix f9) (ix v9) (q + 1)) (tkZ (Ns (ix p9)) dl (ix f9) (ix v9) (q + 1))) H := hP9.2
    have h_g : PP G ([(a 0, .inr (11, [.ref (a 1), .ref (a 2), .ref (a 4), .ref (a 6), .ref (a 21), .ref (a 28), .ref (a 31), .ref (a 36), .ref (a 41), .ref (a 42), .ref (a 45), .ref (a 48)]))]) H := kp hk8 h_g (dj_cons (or_no (rng_no ha (by omega)) (rng_no ha (by omega))) (dj_nil))
    have h_arr : PP G ([(a 1, .inl (gQ G, 4, .inr (.inr (.inr (.inr (fun z => some (a (49 + 11 * z))))))))]) H := kp hk8 h_arr (dj_cons (or_no (rng_no ha (by omega)) (rng_no ha (by omega))) (dj_nil))
    have h_d : PP G (rowW G a 2 4 (fun z => nI (dl z))) H := kp hk8 h_d (dj_cons (or_no (rng_no ha (by omega)) (rng_no ha (by omega))) (dj_cons (or_no (rng_no ha (by omega)) (rng_no ha (by omega))) (dj_nil)))
    have h_t : PP G (timW G a 28 (nI (mxT (Ns (ix p9)) dl (nG (Ns (ix p9))))) v7.1) H := kp hk8 h_t (dj_or (dj_rng ha (timW_in (G := G) (a := a) (i := 28) (x := (nI (mxT (Ns (ix p9)) dl (nG (Ns (ix p9)))))) (f := v7.1)) (by omega)) (dj_rng ha (timW_in (G := G) (a := a) (i := 28) (x := (nI (mxT (Ns (ix p9)) dl (nG (Ns (ix p9)))))) (f := v7.1)) (by omega)))
    have h_l : PP G (lanW G a 31 v7.2.1.1 v7.2.1.2) H := kp hk8 h_l (dj_or (dj_rng ha (lanW_in (G := G) (a := a) (i := 31) (w := v7.2.1.1) (o := v7.2.1.2)) (by omega)) (dj_rng ha (lanW_in (G := G) (a := a) (i := 31) (w := v7.2.1.1) (o := v7.2.1.2)) (by omega)))
    have h_l2 : PP G (lanW G a 36 v7.2.2.1 v7.2.2.2) H := kp hk8 h_l2 (dj_or (dj_rng ha (lanW_in (G := G) (a := a) (i := 36) (w := v7.2.2.1) (o := v7.2.2.2)) (by omega)) (dj_rng ha (lanW_in (G := G) (a := a) (i := 36) (w := v7.2.2.1) (o := v7.2.2.2)) (by omega)))
    have h_f : PP G (famW G a Ns (ix p9)) H := kp hk8 h_f (dj_or (dj_famo ha (by omega)) (dj_famo ha (by omega)))
    have h_n : PP G (netW G a (49 + 11 * ix p9) (Ns (ix p9))) H := kp hk8 h_n (dj_or (dj_rng ha (netW_in (G := G) (a := a) (j := (49 + 11 * ix p9)) (N := (Ns (ix p9)))) (by omega)) (dj_rng ha (netW_in (G := G) (a := a) (j := (49 + 11 * ix p9)) (N := (Ns (ix p9)))) (by omega)))
    refine lv_iinc (v := nI (q + 1)) (lv' := [(6, .int (nI (q + 1))), (0, .ref (a 0)), (1, .int p9), (2, .int (nI (ix f9))), (3, .int (nI (ix v9))), (4, .int (nI (ix w9))), (5, .ref (a (49 + 11 * ix p9)))]) hx hb dX11_changesAnew_73 hl (k := 6) rfl (by first | exact nI_add _ 1 | decide) (by decide) rfl (fun ls hl => ?_)
    refine lv_goto (tgt := 38) hx hb dX11_changesAnew_76 (by decide) ?_
    exact ih7 (q + 1) g6 _ _ _ ⟨h_g, h_arr, h_d, h_t, h_l, h_l2, h_ta, h_tk, h_f, h_n, hS, lv_sub hl [1, 2, 3, 4, 5, 6, 0] rfl, by omega, hg6⟩ (by show mxT (Ns (ix p9)) dl (nG (Ns (ix p9))) + 1 - (q + 1) < mxT (Ns (ix p9)) dl (nG (Ns (ix p9))) + 1 - q; omega)
