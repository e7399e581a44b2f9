set_option maxRecDepth 20000 in
theorem inX11_cost_11 : ∀ w ∈ u_ws RX11 TX11 12, w ∈ wsX11_cost := by decide +kernel
set_option maxHeartbeats 4000000 in
set_option maxRecDepth 100000 in
/-- cost -/
theorem c_X11_cost (l : Launch) (hfl : l.stackTraces = false) (G : GG) (a : Nat → Nat) (ha : Inj a) (t9 : Nat) (dl ar : Nat → Nat) (kd9 d9 x9 : Int32)  : vx_Met l yX11_cost wsX11_cost ({ frames := 7, cells := 3, slots := 18, locals := 104 } : Room) (PcX G a t9 [.ref (a 0), .int kd9, .int d9, .int x9] (fun H => PP G ([(a 0, .inr (11, [.ref (a 1), .ref (a 2), .ref (a 4), .ref (a 6), .ref (a 21), .ref (a 28), .ref (a 31), .ref (a 36), .ref (a 41), .ref (a 42), .ref (a 45), .ref (a 48)]))]) H ∧ PP G (rowW G a 2 4 (fun z => nI (dl z))) H ∧ PP G (rowW G a 4 4 (fun z => nI (ar z))) H)) (QI (fun (r : Int32) (_ : Unit) => cCo kd9 d9 x9 = 0 ∧ r = nI (dl (ix kd9))) (fun _ H => PP G ([(a 0, .inr (11, [.ref (a 1), .ref (a 2), .ref (a 4), .ref (a 6), .ref (a 21), .ref (a 28), .ref (a 31), .ref (a 36), .ref (a 41), .ref (a 42), .ref (a 45), .ref (a 48)]))]) H ∧ PP G (rowW G a 2 4 (fun z => nI (un dl (ix kd9) (ix d9) z))) H ∧ PP G (rowW G a 4 4 (fun z => nI (un ar (ix kd9) (ix x9) z))) H) (rng a 2 4)) (XQ (XE (cCo kd9 d9 x9)) (fun H => PP G ([(a 0, .inr (11, [.ref (a 1), .ref (a 2), .ref (a 4), .ref (a 6), .ref (a 21), .ref (a 28), .ref (a 31), .ref (a 36), .ref (a 41), .ref (a 42), .ref (a 45), .ref (a 48)]))]) H ∧ PP G (rowW G a 2 4 (fun z => nI (dl z))) H ∧ PP G (rowW G a 4 4 (fun z => nI (ar z))) H) (rng a 2 4)) 3 18 (rng a 2 4) := by
  refine vx_ofW (cc := cX11_cost) (maxL := 5) (ret := (some .int)) (by decide) rfl ?_
  intro p e s m args below meth c s₁ B hml htab hv
  obtain ⟨⟨⟨rfl, hB, hK, hNW⟩, hLow⟩, hX⟩ := hv
  have hx := B.exec
  have hb := B.bytes
  have hr := B.returns
  have hts := atoms_spec (ws := wsX11_cost) B.pre
  have hown : s.vm.findClass RX11 = some m.cls := findClass_of_methodNamed B.named
  have hlocks := B.notSynchronized
  have FX : CallFix p m c cX11_cost 5 s ([.ref (a 0), .int kd9, .int d9, .int x9] : List Value).toArray wsX11_cost RX11 := ⟨hx, hb, hml, hown, hts⟩
  have hl := lv_entry ([.ref (a 0), .int kd9, .int d9, .int x9]) (n := 5) (Nat.le_of_ble_eq_true rfl)
  rw [lg_entry_eq]
  generalize (lg_sl ([.ref (a 0), .int kd9, .int d9, .int x9]) ++ List.replicate (5 - (lg_sl ([.ref (a 0), .int kd9, .int d9, .int x9])).length) Slot.unset).toArray = ls at hl ⊢
  have hl : lv_has ls 5 [(0, .ref (a 0)), (1, .int kd9), (2, .int d9), (3, .int x9)] := hl
  obtain ⟨h_g, h_d, h_r⟩ := hB
  have hS : va_S (rng a 2 4) s.heap s.heap [] := va_S.rf
  refine lv_iload_n hx hb dX11_cost_0 rfl (lv_at hl 1 rfl) ?_
  refine xcv (vx_runS (As := [.int kd9]) (rest := []) FX (c_X11_needKind l hfl G a ha t9 kd9) (va_cwS 1 hts gX11_cost_X11_needKind rfl rfl rfl (by decide +kernel) ⟨Nat.le_of_ble_eq_true rfl, Nat.le_of_ble_eq_true rfl⟩) (preSX hK hNW trivial (hLow.at hS (fun q9 _ q => rng_M q9 q)) (hX.at hS (fun q9 _ q => rng_M q9 q))) rfl rfl hl.1 rfl (lv_room (Nat.le_of_ble_eq_true rfl)) dX11_cost_1 ⟨Nat.le_of_ble_eq_true rfl, Nat.le_of_ble_eq_true rfl⟩) hS htab hlocks (fun H1 hk9 => ⟨kpF hk9 h_g, kpF hk9 h_d, kpF hk9 h_r⟩) (fun E hE9 => XE_1 hE9.1 (if_neg hE9.2)) (Nat.le_of_ble_eq_true rfl) (Nat.le_of_ble_eq_true rfl) (fun q1 H locs hk1 hS => ?_)
  have h_g : PP G ([(a 0, .inr (11, [.ref (a 1), .ref (a 2), .ref (a 4), .ref (a 6), .ref (a 21), .ref (a 28), .ref (a 31), .ref (a 36), .ref (a 41), .ref (a 42), .ref (a 45), .ref (a 48)]))]) H := kpF hk1 h_g
  have h_d : PP G (rowW G a 2 4 (fun z => nI (dl z))) H := kpF hk1 h_d
  have h_r : PP G (rowW G a 4 4 (fun z => nI (ar z))) H := kpF hk1 h_r
  refine lv_iload_n hx hb dX11_cost_4 rfl (lv_at hl 2 rfl) ?_
  refine lv_iconst (v := nI 1) hx hb dX11_cost_5 (by decide) ?_
  refine lv_bipush (v := nI 9) hx hb dX11_cost_6 (by decide) ?_
  refine xcv (vx_runS (As := [.int d9, .int (nI 1), .int (nI 9)]) (rest := []) FX (c_X11_needRange l hfl G a ha t9 d9 (nI 1) (nI 9)) (va_cwS 3 hts gX11_cost_X11_needRange rfl rfl rfl (by decide +kernel) ⟨Nat.le_of_ble_eq_true rfl, Nat.le_of_ble_eq_true rfl⟩) (preSX hK hNW trivial (hLow.at hS (fun q9 _ q => rng_M q9 q)) (hX.at hS (fun q9 _ q => rng_M q9 q))) rfl rfl hl.1 rfl (lv_room (Nat.le_of_ble_eq_true rfl)) dX11_cost_8 ⟨Nat.le_of_ble_eq_true rfl, Nat.le_of_ble_eq_true rfl⟩) hS htab hlocks (fun H1 hk9 => ⟨kpF hk9 h_g, kpF hk9 h_d, kpF hk9 h_r⟩) (fun E hE9 => XE_2 hE9.1 ((if_pos q1).trans (if_neg hE9.2))) (Nat.le_of_ble_eq_true rfl) (Nat.le_of_ble_eq_true rfl) (fun q2 H locs hk2 hS => ?_)
  have h_g : PP G ([(a 0, .inr (11, [.ref (a 1), .ref (a 2), .ref (a 4), .ref (a 6), .ref (a 21), .ref (a 28), .ref (a 31), .ref (a 36), .ref (a 41), .ref (a 42), .ref (a 45), .ref (a 48)]))]) H := kpF hk2 h_g
  have h_d : PP G (rowW G a 2 4 (fun z => nI (dl z))) H := kpF hk2 h_d
  have h_r : PP G (rowW G a 4 4 (fun z => nI (ar z))) H := kpF hk2 h_r
  refine lv_iload_n hx hb dX11_cost_11 rfl (lv_at hl 3 rfl) ?_
  refine lv_iconst (v := nI 0) hx hb dX11_cost_12 (by decide) ?_
  refine lv_bipush (v := nI 99) hx hb dX11_cost_13 (by decide) ?_
  refine xcv (vx_runS (As := [.int x9, .int (nI 0), .int (nI 99)]) (rest := []) FX (c_X11_needRange l hfl G a ha t9 x9 (nI 0) (nI 99)) (va_cwS 3 hts gX11_cost_X11_needRange rfl rfl rfl (by decide +kernel) ⟨Nat.le_of_ble_eq_true rfl, Nat.le_of_ble_eq_true rfl⟩) (preSX hK hNW trivial (hLow.at hS (fun q9 _ q => rng_M q9 q)) (hX.at hS (fun q9 _ q => rng_M q9 q))) rfl rfl hl.1 rfl (lv_room (Nat.le_of_ble_eq_true rfl)) dX11_cost_15 ⟨Nat.le_of_ble_eq_true rfl, Nat.le_of_ble_eq_true rfl⟩) hS htab hlocks (fun H1 hk9 => ⟨kpF hk9 h_g, kpF hk9 h_d, kpF hk9 h_r⟩) (fun E hE9 => XE_2 hE9.1 ((if_pos q1).trans ((if_pos q2).trans (if_neg hE9.2)))) (Nat.le_of_ble_eq_true rfl) (Nat.le_of_ble_eq_true rfl) (fun q3 H locs hk3 hS => ?_)
  have h_g : PP G ([(a 0, .inr (11, [.ref (a 1), .ref (a 2), .ref (a 4), .ref (a 6), .ref (a 21), .ref (a 28), .ref (a 31), .ref (a 36), .ref (a 41), .ref (a 42), .ref (a 45), .ref (a 48)]))]) H := kpF hk3 h_g
  have h_d : PP G (rowW G a 2 4 (fun z => nI (dl z))) H := kpF hk3 h_d
  have h_r : PP G (rowW G a 4 4 (fun z => nI (ar z))) H := kpF hk3 h_r
  have ek := ix_eq q1 (by omega)
  have lk := ix_lt q1 (by omega)
  obtain ⟨ed, ld⟩ := rg_ix q2.1 q2.2 (by omega) (by omega)
  obtain ⟨ea, la⟩ := rg_ix q3.1 q3.2 (by omega) (by omega)
  have hl : lv_has ls 5 [(0, .ref (a 0)), (1, .int (nI (ix kd9))), (2, .int (nI (ix d9))), (3, .int (nI (ix x9)))] := by rw [← ek, ← ed, ← ea]; exact hl
  refine lv_aload_n hx hb dX11_cost_18 rfl (lv_at hl 0 rfl) ?_
  refine va_get (D := G.1) (ci := 11) (v := .ref (a 2)) (C := RX11) (T := TX11) (N := 12) hx hb hts inX11_cost_11 hown hK h_g 0 rfl rfl 1 (by decide) (hts (.fieldLink RX11 20 "GateLedger" "delays" "LGateLedger$Row;") (List.mem_of_getElem? (i := 1) (by decide +kernel))) (fun _ h9 => h9) rfl dX11_cost_19 ?_
  refine lv_iload_n hx hb dX11_cost_22 rfl (lv_at hl 1 rfl) ?_
  refine ro_i (va_runV (As := [.int (nI (ix kd9))]) (rest := []) FX (c_X4_at l G a 2 4 (fun z => nI (dl z)) (nI (ix kd9)) (by decide)) (cwV 1 hts gX11_cost_X4_at rfl rfl rfl (by decide +kernel) ⟨Nat.le_of_ble_eq_true rfl, Nat.le_of_ble_eq_true rfl⟩) (preV hK hNW (va_P.sub h_d [0, 1] rfl) (va_recv hK h_d (ci := 4) (q0 := 0) rfl rfl)) rfl rfl hl.1 rfl (lv_room (Nat.le_of_ble_eq_true rfl)) dX11_cost_23 ⟨Nat.le_of_ble_eq_true rfl, Nat.le_of_ble_eq_true rfl⟩) ?_
  refine lv_as (y := nI (dl (ix kd9))) (rowAt_in (by omega) (by decide)) ?_
  refine lv_istore (lv' := [(4, .int (nI (dl (ix kd9)))), (0, .ref (a 0)), (1, .int (nI (ix kd9))), (2, .int (nI (ix d9))), (3, .int (nI (ix x9)))]) hx hb dX11_cost_26 hl (by decide) rfl (fun ls hl => ?_)
  refine lv_aload_n hx hb dX11_cost_28 rfl (lv_at hl 1 rfl) ?_
  refine va_get (D := G.1) (ci := 11) (v := .ref (a 2)) (C := RX11) (T := TX11) (N := 12) hx hb hts inX11_cost_11 hown hK h_g 0 rfl rfl 1 (by decide) (hts (.fieldLink RX11 20 "GateLedger" "delays" "LGateLedger$Row;") (List.mem_of_getElem? (i := 1) (by decide +kernel))) (fun _ h9 => h9) rfl dX11_cost_29 ?_
  refine lv_iload_n hx hb dX11_cost_32 rfl (lv_at hl 2 rfl) ?_
  refine lv_iload_n hx hb dX11_cost_33 rfl (lv_at hl 3 rfl) ?_
  refine wr_v (va_runV (As := [.int (nI (ix kd9)), .int (nI (ix d9))]) (rest := []) FX (c_X4_put l G a ha 2 4 (fun z => nI (dl z)) (nI (ix kd9)) (nI (ix d9)) (by decide)) (cwV 2 hts gX11_cost_X4_put rfl rfl rfl (by decide +kernel) ⟨Nat.le_of_ble_eq_true rfl, Nat.le_of_ble_eq_true rfl⟩) (preV hK hNW h_d (va_recv hK h_d (ci := 4) (q0 := 0) rfl rfl)) rfl rfl hl.1 rfl (lv_room (Nat.le_of_ble_eq_true rfl)) dX11_cost_34 ⟨Nat.le_of_ble_eq_true rfl, Nat.le_of_ble_eq_true rfl⟩) hS (rng_sub (by omega)) (fun _ H locs _ hP9 hk4 hS => ?_)
  rw [rowPut_in (by omega) (by decide)] at hP9
  rw [upd_un] at hP9
  have h_d : PP G (rowW G a 2 4 (fun z => nI (un dl (ix kd9) (ix d9) z))) H := hP9
  have h_g : PP G ([(a 0, .inr (11, [.ref (a 1), .ref (a 2), .ref (a 4), .ref (a 6), .ref (a 21), .ref (a 28), .ref (a 31), .ref (a 36), .ref (a 41), .ref (a 42), .ref (a 45), .ref (a 48)]))]) H := kp hk4 h_g (dj_cons (rng_no ha (by omega)) (dj_nil))
  have h_r : PP G (rowW G a 4 4 (fun z => nI (ar z))) H := kp hk4 h_r (dj_cons (rng_no ha (by omega)) (dj_cons (rng_no ha (by omega)) (dj_nil)))
  refine lv_aload_n hx hb dX11_cost_37 rfl (lv_at hl 1 rfl) ?_
  refine va_get (D := G.1) (ci := 11) (v := .ref (a 4)) (C := RX11) (T := TX11) (N := 12) hx hb hts inX11_cost_11 hown hK h_g 0 rfl rfl 2 (by decide) (hts (.fieldLink RX11 24 "GateLedger" "areas" "LGateLedger$Row;") (List.mem_of_getElem? (i := 2) (by decide +kernel))) (fun _ h9 => h9) rfl dX11_cost_38 ?_
  refine lv_iload_n hx hb dX11_cost_41 rfl (lv_at hl 2 rfl) ?_
  refine lv_iload_n hx hb dX11_cost_42 rfl (lv_at hl 4 rfl) ?_
  refine wr_v (va_runV (As := [.int (nI (ix kd9)), .int (nI (ix x9))]) (rest := []) FX (c_X4_put l G a ha 4 4 (fun z => nI (ar z)) (nI (ix kd9)) (nI (ix x9)) (by decide)) (cwV 2 hts gX11_cost_X4_put rfl rfl rfl (by decide +kernel) ⟨Nat.le_of_ble_eq_true rfl, Nat.le_of_ble_eq_true rfl⟩) (preV hK hNW h_r (va_recv hK h_r (ci := 4) (q0 := 0) rfl rfl)) rfl rfl hl.1 rfl (lv_room (Nat.le_of_ble_eq_true rfl)) dX11_cost_43 ⟨Nat.le_of_ble_eq_true rfl, Nat.le_of_ble_eq_true rfl⟩) hS (rng_sub (by omega)) (fun _ H locs _ hP9 hk6 hS => ?_)
  rw [rowPut_in (by omega) (by decide)] at hP9
  rw [upd_un] at hP9
  have h_r : PP G (rowW G a 4 4 (fun z => nI (un ar (ix kd9) (ix x9) z))) H := hP9
  have h_g : PP G ([(a 0, .inr (11, [.ref (a 1), .ref (a 2), .ref (a 4), .ref (a 6), .ref (a 21), .ref (a 28), .ref (a 31), .ref (a 36), .ref (a 41), .ref (a 42), .ref (a 45), .ref (a 48)]))]) H := kp hk6 h_g (dj_cons (rng_no ha (by omega)) (dj_nil))
  have h_d : PP G (rowW G a 2 4 (fun z => nI (un dl (ix kd9) (ix d9) z))) H := kp hk6 h_d (dj_cons (rng_no ha (by omega)) (dj_cons (rng_no ha (by omega)) (dj_nil)))
  refine lv_iload hx hb dX11_cost_46 (lv_at hl 0 rfl) ?_
  refine retw (Nat.le_of_ble_eq_true rfl) (Nat.le_of_ble_eq_true rfl) ?_
  exact en_wi () hx hb hr hlocks hS (⟨((if_pos q1).trans ((if_pos q2).trans (if_pos q3))), rfl⟩) (⟨h_g, h_d, h_r⟩) dX11_cost_48
set_option maxRecDepth 20000 in
theorem inX11_adder_11 : ∀ w ∈ u_ws RX11 TX11 12, w ∈ wsX11_adder := by decide +kernel
set_option maxHeartbeats 4000000 in
set_option maxRecDepth 100000 in
/-- adder -/
theorem c_X11_adder (l : Launch) (hfl : l.stackTraces = false) (G : GG) (a : Nat → Nat) (ha : Inj a) (t9 : Nat) (Ns : Nat → NT) (l9 y9 k9 : Int32) (f0 f1 f2 f3 f4 : Nat → Int32) (p9 m9 w9 : Int32) (hW : ∀ z, z < 4 → WF (Ns z))  : vx_Met l yX11_adder wsX11_adder ({ frames := 7, cells := 4, slots := 24, locals := 121 } : Room) (PcX G a t9 [.ref (a 0), .int p9, .int m9, .int w9] (fun H => PP G ([(a 0, .inr (11, [.ref (a 1), .ref (a 2), .ref (a 4), .ref (a 6), .ref (a 21), .ref (a 28), .ref (a 31), .ref (a 36), .ref (a 41), .ref (a 42), .ref (a 45), .ref (a 48)]))]) H ∧ PP G ([(a 1, .inl (gQ G, 4, .inr (.inr (.inr (.inr (fun z => some (a (49 + 11 * z))))))))]) H ∧ PP G (makO a 6 l9 y9 k9) H ∧ PP G (rowW G a 7 6 f0) H ∧ PP G (rowW G a 9 6 f1) H ∧ PP G (rowW G a 11 6 f2) H ∧ PP G (rowW G a 13 6 f3) H ∧ PP G (rowW G a 15 6 f4) H ∧ NSP G a Ns H)) (QI (fun (r : Int32) (_ : Int32 × Int32 × (Nat → Int32) × (Nat → Int32) × (Nat → Int32) × (Nat → Int32) × (Nat → Int32)) => cAd Ns p9 m9 w9 = 0 ∧ r = nI (nG (if ix m9 = 0 then ripN (Ns (ix p9)) (ix w9) else joiN (ix m9 = 1) (Ns (ix p9)) (ix w9)))) (fun u H => PP G ([(a 0, .inr (11, [.ref (a 1), .ref (a 2), .ref (a 4), .ref (a 6), .ref (a 21), .ref (a 28), .ref (a 31), .ref (a 36), .ref (a 41), .ref (a 42), .ref (a 45), .ref (a 48)]))]) H ∧ PP G ([(a 1, .inl (gQ G, 4, .inr (.inr (.inr (.inr (fun z => some (a (49 + 11 * z))))))))]) H ∧ PP G (makO a 6 l9 u.1 u.2.1) H ∧ PP G (rowW G a 7 6 u.2.2.1) H ∧ PP G (rowW G a 9 6 u.2.2.2.1) H ∧ PP G (rowW G a 11 6 u.2.2.2.2.1) H ∧ PP G (rowW G a 13 6 u.2.2.2.2.2.1) H ∧ PP G (rowW G a 15 6 u.2.2.2.2.2.2) H ∧ NSP G a (upN Ns (ix p9) (if ix m9 = 0 then ripN (Ns (ix p9)) (ix w9) else joiN (ix m9 = 1) (Ns (ix p9)) (ix w9))) H) (orA (rng a 6 11) (rng a 49 44))) (XQ (XE (cAd Ns p9 m9 w9)) (fun H => PP G ([(a 0, .inr (11, [.ref (a 1), .ref (a 2), .ref (a 4), .ref (a 6), .ref (a 21), .ref (a 28), .ref (a 31), .ref (a 36), .ref (a 41), .ref (a 42), .ref (a 45), .ref (a 48)]))]) H ∧ PP G ([(a 1, .inl (gQ G, 4, .inr (.inr (.inr (.inr (fun z => some (a (49 + 11 * z))))))))]) H ∧ PP G (makO a 6 l9 y9 k9) H ∧ PP G (rowW G a 7 6 f0) H ∧ PP G (rowW G a 9 6 f1) H ∧ PP G (rowW G a 11 6 f2) H ∧ PP G (rowW G a 13 6 f3) H ∧ PP G (rowW G a 15 6 f4) H ∧ NSP G a Ns H) (orA (rng a 6 11) (rng a 49 44))) 4 24 (orA (rng a 6 11) (rng a 49 44)) := by
  refine vx_ofW (cc := cX11_adder) (maxL := 5) (ret := (some .int)) (by decide) rfl ?_
  intro p e s m args below meth c s₁ B hml htab hv
  obtain ⟨⟨⟨rfl, hB, hK, hNW⟩, hLow⟩, hX⟩ := hv
  have hx := B.exec
  have hb := B.bytes
  have hr := B.returns
  have hts := atoms_spec (ws := wsX11_adder) B.pre
  have hown : s.vm.findClass RX11 = some m.cls := findClass_of_methodNamed B.named
  have hlocks := B.notSynchronized
  have FX : CallFix p m c cX11_adder 5 s ([.ref (a 0), .int p9, .int m9, .int w9] : List Value).toArray wsX11_adder RX11 := ⟨hx, hb, hml, hown, hts⟩
  have hl := lv_entry ([.ref (a 0), .int p9, .int m9, .int w9]) (n := 5) (Nat.le_of_ble_eq_true rfl)
  rw [lg_entry_eq]
  generalize (lg_sl ([.ref (a 0), .int p9, .int m9, .int w9]) ++ List.replicate (5 - (lg_sl ([.ref (a 0), .int p9, .int m9, .int w9])).length) Slot.unset).toArray = ls at hl ⊢
  have hl : lv_has ls 5 [(0, .ref (a 0)), (1, .int p9), (2, .int m9), (3, .int w9)] := hl
  obtain ⟨h_g, h_arr, h_o, h_u, h_p, h_pa, h_c, h_ca, hns⟩ := hB
  have hS : va_S (orA (rng a 6 11) (rng a 49 44)) s.heap s.heap [] := va_S.rf
  refine lv_aload_n hx hb dX11_adder_0 rfl (lv_at hl 0 rfl) ?_
  refine lv_iload_n hx hb dX11_adder_1 rfl (lv_at hl 1 rfl) ?_
  refine xcr (vx_runV (As := [.int p9]) (rest := []) FX (c_X11_netAt l hfl G a ha t9 p9) (cwV 1 hts gX11_adder_X11_netAt rfl rfl rfl (by decide +kernel) ⟨Nat.le_of_ble_eq_true rfl, Nat.le_of_ble_eq_true rfl⟩) (preVX hK hNW (⟨h_g, h_arr⟩) (hLow.at hS (fun q9 _ q => q.elim (rng_M q9) (rng_M q9))) (hX.at hS (fun q9 _ q => q.elim (rng_M q9) (rng_M q9))) (va_recv hK h_g (ci := 11) (q0 := 0) rfl rfl)) rfl rfl hl.1 rfl (lv_room (Nat.le_of_ble_eq_true rfl)) dX11_adder_2 ⟨Nat.le_of_ble_eq_true rfl, Nat.le_of_ble_eq_true rfl⟩) hS htab hlocks (fun H1 hk9 => ⟨kpF hk9 h_g, kpF hk9 h_arr, kpF hk9 h_o, kpF hk9 h_u, kpF hk9 h_p, kpF hk9 h_pa, kpF hk9 h_c, kpF hk9 h_ca, fun z hz => kpF hk9 (hns z hz)⟩) (fun E hE9 => XE_1 hE9.1 (if_neg hE9.2)) (Nat.le_of_ble_eq_true rfl) (Nat.le_of_ble_eq_true rfl) (fun _ hc0 H locs hk1 hS => ?_)
  have h_g : PP G ([(a 0, .inr (11, [.ref (a 1), .ref (a 2), .ref (a 4), .ref (a 6), .ref (a 21), .ref (a 28), .ref (a 31), .ref (a 36), .ref (a 41), .ref (a 42), .ref (a 45), .ref (a 48)]))]) H := kpF hk1 h_g
  have h_arr : PP G ([(a 1, .inl (gQ G, 4, .inr (.inr (.inr (.inr (fun z => some (a (49 + 11 * z))))))))]) H := kpF hk1 h_arr
  have h_o : PP G (makO a 6 l9 y9 k9) H := kpF hk1 h_o
  have h_u : PP G (rowW G a 7 6 f0) H := kpF hk1 h_u
  have h_p : PP G (rowW G a 9 6 f1) H := kpF hk1 h_p
  have h_pa : PP G (rowW G a 11 6 f2) H := kpF hk1 h_pa
  have h_c : PP G (rowW G a 13 6 f3) H := kpF hk1 h_c
  have h_ca : PP G (rowW G a 15 6 f4) H := kpF hk1 h_ca
  have hns : NSP G a Ns H := fun z hz => kpF hk1 (hns z hz)
  have hk4 := ix_lt hc0 (by omega)
  have h_f : PP G (famW G a Ns (ix p9)) H := fam_split hns
  have h_n : PP G (netW G a (49 + 11 * ix p9) (Ns (ix p9))) H := hns _ hk4
  have hN := hW _ hk4
  have hg9 := hN.g
  have ho9 := hN.o
  have hi9 := hN.2.1
  refine lv_astore (lv' := [(4, .ref (a (49 + 11 * ix p9))), (0, .ref (a 0)), (1, .int p9), (2, .int m9), (3, .int w9)]) hx hb dX11_adder_5 hl (by decide) rfl (fun ls hl => ?_)
  refine lv_iload_n hx hb dX11_adder_7 rfl (lv_at hl 3 rfl) ?_
  refine lv_iconst (v := nI 0) hx hb dX11_adder_8 (by decide) ?_
  refine lv_iconst (v := nI 2) hx hb dX11_adder_9 (by decide) ?_
  refine xcv (vx_runS (As := [.int m9, .int (nI 0), .int (nI 2)]) (rest := []) FX (c_X11_needRange l hfl G a ha t9 m9 (nI 0) (nI 2)) (va_cwS 3 hts gX11_adder_X11_needRange rfl rfl rfl (by decide +kernel) ⟨Nat.le_of_ble_eq_true rfl, Nat.le_of_ble_eq_true rfl⟩) (preSX hK hNW trivial (hLow.at hS (fun q9 _ q => q.elim (rng_M q9) (rng_M q9))) (hX.at hS (fun q9 _ q => q.elim (rng_M q9) (rng_M q9)))) rfl rfl hl.1 rfl (lv_room (Nat.le_of_ble_eq_true rfl)) dX11_adder_10 ⟨Nat.le_of_ble_eq_true rfl, Nat.le_of_ble_eq_true rfl⟩) hS htab hlocks (fun H1 hk9 => ⟨kpF hk9 h_g, kpF hk9 h_arr, kpF hk9 h_o, kpF hk9 h_u, kpF hk9 h_p, kpF hk9 h_pa, kpF hk9 h_c, kpF hk9 h_ca, fam_back (kpF hk9 h_f) (kpF hk9 h_n)⟩) (fun E hE9 => XE_2 hE9.1 ((if_pos hc0).trans (if_neg hE9.2))) (Nat.le_of_ble_eq_true rfl) (Nat.le_of_ble_eq_true rfl) (fun q1 H locs hk2 hS => ?_)
  have h_g : PP G ([(a 0, .inr (11, [.ref (a 1), .ref (a 2), .ref (a 4), .ref (a 6), .ref (a 21), .ref (a 28), .ref (a 31), .ref (a 36), .ref (a 41), .ref (a 42), .ref (a 45), .ref (a 48)]))]) H := kpF hk2 h_g
  have h_arr : PP G ([(a 1, .inl (gQ G, 4, .inr (.inr (.inr (.inr (fun z => some (a (49 + 11 * z))))))))]) H := kpF hk2 h_arr
  have h_o : PP G (makO a 6 l9 y9 k9) H := kpF hk2 h_o
  have h_u : PP G (rowW G a 7 6 f0) H := kpF hk2 h_u
  have h_p : PP G (rowW G a 9 6 f1) H := kpF hk2 h_p
  have h_pa : PP G (rowW G a 11 6 f2) H := kpF hk2 h_pa
  have h_c : PP G (rowW G a 13 6 f3) H := kpF hk2 h_c
  have h_ca : PP G (rowW G a 15 6 f4) H := kpF hk2 h_ca
  have h_f : PP G (famW G a Ns (ix p9)) H := kpF hk2 h_f
  have h_n : PP G (netW G a (49 + 11 * ix p9) (Ns (ix p9))) H := kpF hk2 h_n
  refine lv_iload_n hx hb dX11_adder_13 rfl (lv_at hl 4 rfl) ?_
  refine lv_iconst (v := nI 1) hx hb dX11_adder_14 (by decide) ?_
  refine lv_bipush (v := nI 6) hx hb dX11_adder_15 (by decide) ?_
  refine xcv (vx_runS (As := [.int w9, .int (nI 1), .int (nI 6)]) (rest := []) FX (c_X11_needRange l hfl G a ha t9 w9 (nI 1) (nI 6)) (va_cwS 3 hts gX11_adder_X11_needRange rfl rfl rfl (by decide +kernel) ⟨Nat.le_of_ble_eq_true rfl, Nat.le_of_ble_eq_true rfl⟩) (preSX hK hNW trivial (hLow.at hS (fun q9 _ q => q.elim (rng_M q9) (rng_M q9))) (hX.at hS (fun q9 _ q => q.elim (rng_M q9) (rng_M q9)))) rfl rfl hl.1 rfl (lv_room (Nat.le_of_ble_eq_true rfl)) dX11_adder_17 ⟨Nat.le_of_ble_eq_true rfl, Nat.le_of_ble_eq_true rfl⟩) hS htab hlocks (fun H1 hk9 => ⟨kpF hk9 h_g, kpF hk9 h_arr, kpF hk9 h_o, kpF hk9 h_u, kpF hk9 h_p, kpF hk9 h_pa, kpF hk9 h_c, kpF hk9 h_ca, fam_back (kpF hk9 h_f) (kpF hk9 h_n)⟩) (fun E hE9 => XE_2 hE9.1 ((if_pos hc0).trans ((if_pos q1).trans (if_neg hE9.2)))) (Nat.le_of_ble_eq_true rfl) (Nat.le_of_ble_eq_true rfl) (fun q2 H locs hk3 hS => ?_)
  have h_g : PP G ([(a 0, .inr (11, [.ref (a 1), .ref (a 2), .ref (a 4), .ref (a 6), .ref (a 21), .ref (a 28), .ref (a 31), .ref (a 36), .ref (a 41), .ref (a 42), .ref (a 45), .ref (a 48)]))]) H := kpF hk3 h_g
  have h_arr : PP G ([(a 1, .inl (gQ G, 4, .inr (.inr (.inr (.inr (fun z => some (a (49 + 11 * z))))))))]) H := kpF hk3 h_arr
  have h_o : PP G (makO a 6 l9 y9 k9) H := kpF hk3 h_o
  have h_u : PP G (rowW G a 7 6 f0) H := kpF hk3 h_u
  have h_p : PP G (rowW G a 9 6 f1) H := kpF hk3 h_p
  have h_pa : PP G (rowW G a 11 6 f2) H := kpF hk3 h_pa
  have h_c : PP G (rowW G a 13 6 f3) H := kpF hk3 h_c
  have h_ca : PP G (rowW G a 15 6 f4) H := kpF hk3 h_ca
  have h_f : PP G (famW G a Ns (ix p9)) H := kpF hk3 h_f
  have h_n : PP G (netW G a (49 + 11 * ix p9) (Ns (ix p9))) H := kpF hk3 h_n
  refine lv_aload hx hb dX11_adder_20 (lv_at hl 0 rfl) ?_
  refine xcv (vx_runS (As := [.ref (a (49 + 11 * ix p9))]) (rest := []) FX (c_X11_needNoGates l hfl G a ha t9 (ix p9) (Ns (ix p9)) hN) (va_cwS 1 hts gX11_adder_X11_needNoGates rfl rfl rfl (by decide +kernel) ⟨Nat.le_of_ble_eq_true rfl, Nat.le_of_ble_eq_true rfl⟩) (preSX hK hNW h_n (hLow.at hS (fun q9 _ q => q.elim (rng_M q9) (rng_M q9))) (hX.at hS (fun q9 _ q => q.elim (rng_M q9) (rng_M q9)))) rfl rfl hl.1 rfl (lv_room (Nat.le_of_ble_eq_true rfl)) dX11_adder_22 ⟨Nat.le_of_ble_eq_true rfl, Nat.le_of_ble_eq_true rfl⟩) hS htab hlocks (fun H1 hk9 => ⟨kpF hk9 h_g, kpF hk9 h_arr, kpF hk9 h_o, kpF hk9 h_u, kpF hk9 h_p, kpF hk9 h_pa, kpF hk9 h_c, kpF hk9 h_ca, fam_back (kpF hk9 h_f) (kpF hk9 h_n)⟩) (fun E hE9 => XE_3 hE9.1 ((if_pos hc0).trans ((if_pos q1).trans ((if_pos q2).trans (if_neg hE9.2))))) (Nat.le_of_ble_eq_true rfl) (Nat.le_of_ble_eq_true rfl) (fun q3 H locs hk4 hS => ?_)
  have h_g : PP G ([(a 0, .inr (11, [.ref (a 1), .ref (a 2), .ref (a 4), .ref (a 6), .ref (a 21), .ref (a 28), .ref (a 31), .ref (a 36), .ref (a 41), .ref (a 42), .ref (a 45), .ref (a 48)]))]) H := kpF hk4 h_g
  have h_arr : PP G ([(a 1, .inl (gQ G, 4, .inr (.inr (.inr (.inr (fun z => some (a (49 + 11 * z))))))))]) H := kpF hk4 h_arr
  have h_o : PP G (makO a 6 l9 y9 k9) H := kpF hk4 h_o
  have h_u : PP G (rowW G a 7 6 f0) H := kpF hk4 h_u
  have h_p : PP G (rowW G a 9 6 f1) H := kpF hk4 h_p
  have h_pa : PP G (rowW G a 11 6 f2) H := kpF hk4 h_pa
  have h_c : PP G (rowW G a 13 6 f3) H := kpF hk4 h_c
  have h_ca : PP G (rowW G a 15 6 f4) H := kpF hk4 h_ca
  have h_f : PP G (famW G a Ns (ix p9)) H := kpF hk4 h_f
  have h_n : PP G (netW G a (49 + 11 * ix p9) (Ns (ix p9))) H := kpF hk4 h_n
  obtain ⟨em, lm⟩ := rg_ix q1.1 q1.2 (by omega) (by omega)
  obtain ⟨ew, lw⟩ := rg_ix q2.1 q2.2 (by omega) (by omega)
  have ho0 := WF_o0 hN q3
  have hl : lv_has ls 5 [(4, .ref (a (49 + 11 * ix p9))), (0, .ref (a 0)), (1, .int p9), (2, .int (nI (ix m9))), (3, .int (nI (ix w9)))] := by rw [← em, ← ew]; exact hl
  refine lv_iload_n hx hb dX11_adder_25 rfl (lv_at hl 3 rfl) ?_
  refine lv_if_ne (tgt := 42) hx hb dX11_adder_26 (by decide) (fun c26 => ?_) (fun c26 => ?_)
  · skip
    have c26 := cv_ne (by omega) (by omega) (show ¬ nI (ix m9) = nI 0 from c26)
    refine lv_aload_n hx hb dX11_adder_42 rfl (lv_at hl 1 rfl) ?_
    refine va_get (D := G.1) (ci := 11) (v := .ref (a 6)) (C := RX11) (T := TX11) (N := 12) hx hb hts inX11_adder_11 hown hK h_g 0 rfl rfl 3 (by decide) (hts (.fieldLink RX11 30 "GateLedger" "maker" "LGateLedger$Maker;") (List.mem_of_getElem? (i := 1) (by decide +kernel))) (fun _ h9 => h9) rfl dX11_adder_43 ?_
    refine lv_aload hx hb dX11_adder_46 (lv_at hl 0 rfl) ?_
    refine lv_iload_n hx hb dX11_adder_48 rfl (lv_at hl 3 rfl) ?_
    refine lv_iconst (v := nI 1) hx hb dX11_adder_49 (by decide) ?_
    refine lv_icmp_ne (tgt := 57) hx hb dX11_adder_50 (by decide) (fun c50 => ?_) (fun c50 => ?_)
    · skip
      have c50 := cv_ne (by omega) (by omega) c50
      refine lv_iconst (v := nI 0) hx hb dX11_adder_57 (by decide) ?_
      refine lv_as (y := bI (ix m9 = 1)) (bI_f c50) ?_
      refine lv_iload_n hx hb dX11_adder_58 rfl (lv_at hl 4 rfl) ?_
      refine wr_v (va_runV (As := [.ref (a (49 + 11 * ix p9)), .int (bI (ix m9 = 1)), .int (nI (ix w9))]) (rest := []) FX (c_X2_makeJoining l G a ha 6 (49 + 11 * ix p9) (by omega) l9 y9 k9 f0 f1 f2 f3 f4 (Ns (ix p9)) (ix m9 = 1) (ix w9) (by omega) q3 ho0) (cwV 3 hts gX11_adder_X2_makeJoining rfl rfl rfl (by decide +kernel) ⟨Nat.le_of_ble_eq_true rfl, Nat.le_of_ble_eq_true rfl⟩) (preV hK hNW (⟨h_o, h_u, h_p, h_pa, h_c, h_ca, h_n⟩) (va_recv hK h_o (ci := 2) (q0 := 0) rfl rfl)) rfl rfl hl.1 rfl (lv_room (Nat.le_of_ble_eq_true rfl)) dX11_adder_59 ⟨Nat.le_of_ble_eq_true rfl, Nat.le_of_ble_eq_true rfl⟩) hS (orA_m (rng_sub (by omega)) (rng_sub (by omega))) (fun v7 H locs _ hP9 hk5 hS => ?_)
      have h_o : PP G (makO a 6 l9 v7.1 v7.2.1) H := hP9.1
      have h_u : PP G (rowW G a 7 6 v7.2.2.1) H := hP9.2.1
      have h_p : PP G (rowW G a 9 6 v7.2.2.2.1) H := hP9.2.2.1
      have h_pa : PP G (rowW G a 11 6 v7.2.2.2.2.1) H := hP9.2.2.2.1
      have h_c : PP G (rowW G a 13 6 v7.2.2.2.2.2.1) H := hP9.2.2.2.2.1
      have h_ca : PP G (rowW G a 15 6 v7.2.2.2.2.2.2) H := hP9.2.2.2.2.2.1
      have h_n : PP G (netW G a (49 + 11 * ix p9) (joiN (ix m9 = 1) (Ns (ix p9)) (ix w9))) H := hP9.2.2.2.2.2.2
      have h_g : PP G ([(a 0, .inr (11, [.ref (a 1), .ref (a 2), .ref (a 4), .ref (a 6), .ref (a 21), .ref (a 28), .ref (a 31), .ref (a 36), .ref (a 41), .ref (a 42), .ref (a 45), .ref (a 48)]))]) H := kp hk5 h_g (dj_cons (or_no (rng_no ha (by omega)) (rng_no ha (by omega))) (dj_nil))
      have h_arr : PP G ([(a 1, .inl (gQ G, 4, .inr (.inr (.inr (.inr (fun z => some (a (49 + 11 * z))))))))]) H := kp hk5 h_arr (dj_cons (or_no (rng_no ha (by omega)) (rng_no ha (by omega))) (dj_nil))
      have h_f : PP G (famW G a Ns (ix p9)) H := kp hk5 h_f (dj_or (dj_famo ha (by omega)) (dj_famk ha))
      refine lv_aload hx hb dX11_adder_62 (lv_at hl 0 rfl) ?_
      refine ro_i (va_runV (As := []) (rest := []) FX (c_X3_size l G a (49 + 11 * ix p9) (joiN (ix m9 = 1) (Ns (ix p9)) (ix w9))) (cwV 0 hts gX11_adder_X3_size rfl rfl rfl (by decide +kernel) ⟨Nat.le_of_ble_eq_true rfl, Nat.le_of_ble_eq_true rfl⟩) (preV hK hNW h_n (va_recv hK h_n (ci := 3) (q0 := 0) rfl rfl)) rfl rfl hl.1 rfl (lv_room (Nat.le_of_ble_eq_true rfl)) dX11_adder_64 ⟨Nat.le_of_ble_eq_true rfl, Nat.le_of_ble_eq_true rfl⟩) ?_
      have eN : (if ix m9 = 0 then ripN (Ns (ix p9)) (ix w9) else joiN (ix m9 = 1) (Ns (ix p9)) (ix w9)) = joiN (ix m9 = 1) (Ns (ix p9)) (ix w9) := if_neg c26
      refine retw (Nat.le_of_ble_eq_true rfl) (Nat.le_of_ble_eq_true rfl) ?_
      exact en_wi (v7.1, v7.2.1, v7.2.2.1, v7.2.2.2.1, v7.2.2.2.2.1, v7.2.2.2.2.2.1, v7.2.2.2.2.2.2) hx hb hr hlocks hS (⟨((if_pos hc0).trans ((if_pos q1).trans ((if_pos q2).trans (if_pos q3)))), by rw [eN]⟩) (⟨h_g, h_arr, h_o, h_u, h_p, h_pa, h_c, h_ca, by rw [eN]; exact fam_join h_f h_n⟩) dX11_adder_67
    · skip
      have c50 := cv_eq (by omega) (by omega) c50
      refine lv_iconst (v := nI 1) hx hb dX11_adder_53 (by decide) ?_
      refine lv_as (y := bI (ix m9 = 1)) (bI_t c50) ?_
      refine lv_goto (tgt := 58) hx hb dX11_adder_54 (by decide) ?_
      refine lv_iload_n hx hb dX11_adder_58 rfl (lv_at hl 4 rfl) ?_
      refine wr_v (va_runV (As := [.ref (a (49 + 11 * ix p9)), .int (bI (ix m9 = 1)), .int (nI (ix w9))]) (rest := []) FX (c_X2_makeJoining l G a ha 6 (49 + 11 * ix p9) (by omega) l9 y9 k9 f0 f1 f2 f3 f4 (Ns (ix p9)) (ix m9 = 1) (ix w9) (by omega) q3 ho0) (cwV 3 hts gX11_adder_X2_makeJoining rfl rfl rfl (by decide +kernel) ⟨Nat.le_of_ble_eq_true rfl, Nat.le_of_ble_eq_true rfl⟩) (preV hK hNW (⟨h_o, h_u, h_p, h_pa, h_c, h_ca, h_n⟩) (va_recv hK h_o (ci := 2) (q0 := 0) rfl rfl)) rfl rfl hl.1 rfl (lv_room (Nat.le_of_ble_eq_true rfl)) dX11_adder_59 ⟨Nat.le_of_ble_eq_true rfl, Nat.le_of_ble_eq_true rfl⟩) hS (orA_m (rng_sub (by omega)) (rng_sub (by omega))) (fun v7 H locs _ hP9 hk7 hS => ?_)
      have h_o : PP G (makO a 6 l9 v7.1 v7.2.1) H := hP9.1
      have h_u : PP G (rowW G a 7 6 v7.2.2.1) H := hP9.2.1
      have h_p : PP G (rowW G a 9 6 v7.2.2.2.1) H := hP9.2.2.1
      have h_pa : PP G (rowW G a 11 6 v7.2.2.2.2.1) H := hP9.2.2.2.1
      have h_c : PP G (rowW G a 13 6 v7.2.2.2.2.2.1) H := hP9.2.2.2.2.1
      have h_ca : PP G (rowW G a 15 6 v7.2.2.2.2.2.2) H := hP9.2.2.2.2.2.1
      have h_n : PP G (netW G a (49 + 11 * ix p9) (joiN (ix m9 = 1) (Ns (ix p9)) (ix w9))) H := hP9.2.2.2.2.2.2
      have h_g : PP G ([(a 0, .inr (11, [.ref (a 1), .ref (a 2), .ref (a 4), .ref (a 6), .ref (a 21), .ref (a 28), .ref (a 31), .ref (a 36), .ref (a 41), .ref (a 42), .ref (a 45), .ref (a 48)]))]) H := kp hk7 h_g (dj_cons (or_no (rng_no ha (by omega)) (rng_no ha (by omega))) (dj_nil))
      have h_arr : PP G ([(a 1, .inl (gQ G, 4, .inr (.inr (.inr (.inr (fun z => some (a (49 + 11 * z))))))))]) H := kp hk7 h_arr (dj_cons (or_no (rng_no ha (by omega)) (rng_no ha (by omega))) (dj_nil))
      have h_f : PP G (famW G a Ns (ix p9)) H := kp hk7 h_f (dj_or (dj_famo ha (by omega)) (dj_famk ha))
      refine lv_aload hx hb dX11_adder_62 (lv_at hl 0 rfl) ?_
      refine ro_i (va_runV (As := []) (rest := []) FX (c_X3_size l G a (49 + 11 * ix p9) (joiN (ix m9 = 1) (Ns (ix p9)) (ix w9))) (cwV 0 hts gX11_adder_X3_size rfl rfl rfl (by decide +kernel) ⟨Nat.le_of_ble_eq_true rfl, Nat.le_of_ble_eq_true rfl⟩) (preV hK hNW h_n (va_recv hK h_n (ci := 3) (q0 := 0) rfl rfl)) rfl rfl hl.1 rfl (lv_room (Nat.le_of_ble_eq_true rfl)) dX11_adder_64 ⟨Nat.le_of_ble_eq_true rfl, Nat.le_of_ble_eq_true rfl⟩) ?_
      have eN : (if ix m9 = 0 then ripN (Ns (ix p9)) (ix w9) else joiN (ix m9 = 1) (Ns (ix p9)) (ix w9)) = joiN (ix m9 = 1) (Ns (ix p9)) (ix w9) := if_neg c26
      refine retw (Nat.le_of_ble_eq_true rfl) (Nat.le_of_ble_eq_true rfl) ?_
      exact en_wi (v7.1, v7.2.1, v7.2.2.1, v7.2.2.2.1, v7.2.2.2.2.1, v7.2.2.2.2.2.1, v7.2.2.2.2.2.2) hx hb hr hlocks hS (⟨((if_pos hc0).trans ((if_pos q1).trans ((if_pos q2).trans (if_pos q3)))), by rw [eN]⟩) (⟨h_g, h_arr, h_o, h_u, h_p, h_pa, h_c, h_ca, by rw [eN]; exact fam_join h_f h_n⟩) dX11_adder_67
  · skip
    have c26 := cv_eq (by omega) (by omega) (show nI (ix m9) = nI 0 from c26)
    refine lv_aload_n hx hb dX11_adder_29 rfl (lv_at hl 1 rfl) ?_
    refine va_get (D := G.1) (ci := 11) (v := .ref (a 6)) (C := RX11) (T := TX11) (N := 12) hx hb hts inX11_adder_11 hown hK h_g 0 rfl rfl 3 (by decide) (hts (.fieldLink RX11 30 "GateLedger" "maker" "LGateLedger$Maker;") (List.mem_of_getElem? (i := 1) (by decide +kernel))) (fun _ h9 => h9) rfl dX11_adder_30 ?_
    refine lv_aload hx hb dX11_adder_33 (lv_at hl 0 rfl) ?_
    refine lv_iload_n hx hb dX11_adder_35 rfl (lv_at hl 4 rfl) ?_
    refine wr_v (va_runV (As := [.ref (a (49 + 11 * ix p9)), .int (nI (ix w9))]) (rest := []) FX (c_X2_makeRipple l G a ha 6 (49 + 11 * ix p9) (by omega) l9 y9 k9 (Ns (ix p9)) (ix w9) (by omega) q3 ho0) (cwV 2 hts gX11_adder_X2_makeRipple rfl rfl rfl (by decide +kernel) ⟨Nat.le_of_ble_eq_true rfl, Nat.le_of_ble_eq_true rfl⟩) (preV hK hNW (⟨h_o, h_n⟩) (va_recv hK h_o (ci := 2) (q0 := 0) rfl rfl)) rfl rfl hl.1 rfl (lv_room (Nat.le_of_ble_eq_true rfl)) dX11_adder_36 ⟨Nat.le_of_ble_eq_true rfl, Nat.le_of_ble_eq_true rfl⟩) hS (orA_m (rng_sub (by omega)) (rng_sub (by omega))) (fun v7 H locs _ hP9 hk9 hS => ?_)
    have h_o : PP G (makO a 6 l9 v7.1 v7.2) H := hP9.1
    have h_n : PP G (netW G a (49 + 11 * ix p9) (ripN (Ns (ix p9)) (ix w9))) H := hP9.2
    have h_g : PP G ([(a 0, .inr (11, [.ref (a 1), .ref (a 2), .ref (a 4), .ref (a 6), .ref (a 21), .ref (a 28), .ref (a 31), .ref (a 36), .ref (a 41), .ref (a 42), .ref (a 45), .ref (a 48)]))]) H := kp hk9 h_g (dj_cons (or_no (rng_no ha (by omega)) (rng_no ha (by omega))) (dj_nil))
    have h_arr : PP G ([(a 1, .inl (gQ G, 4, .inr (.inr (.inr (.inr (fun z => some (a (49 + 11 * z))))))))]) H := kp hk9 h_arr (dj_cons (or_no (rng_no ha (by omega)) (rng_no ha (by omega))) (dj_nil))
    have h_u : PP G (rowW G a 7 6 f0) H := kp hk9 h_u (dj_cons (or_no (rng_no ha (by omega)) (rng_no ha (by omega))) (dj_cons (or_no (rng_no ha (by omega)) (rng_no ha (by omega))) (dj_nil)))
    have h_p : PP G (rowW G a 9 6 f1) H := kp hk9 h_p (dj_cons (or_no (rng_no ha (by omega)) (rng_no ha (by omega))) (dj_cons (or_no (rng_no ha (by omega)) (rng_no ha (by omega))) (dj_nil)))
    have h_pa : PP G (rowW G a 11 6 f2) H := kp hk9 h_pa (dj_cons (or_no (rng_no ha (by omega)) (rng_no ha (by omega))) (dj_cons (or_no (rng_no ha (by omega)) (rng_no ha (by omega))) (dj_nil)))
    have h_c : PP G (rowW G a 13 6 f3) H := kp hk9 h_c (dj_cons (or_no (rng_no ha (by omega)) (rng_no ha (by omega))) (dj_cons (or_no (rng_no ha (by omega)) (rng_no ha (by omega))) (dj_nil)))
    have h_ca : PP G (rowW G a 15 6 f4) H := kp hk9 h_ca (dj_cons (or_no (rng_no ha (by omega)) (rng_no ha (by omega))) (dj_cons (or_no (rng_no ha (by omega)) (rng_no ha (by omega))) (dj_nil)))
    have h_f : PP G (famW G a Ns (ix p9)) H := kp hk9 h_f (dj_or (dj_famo ha (by omega)) (dj_famk ha))
    refine lv_goto (tgt := 62) hx hb dX11_adder_39 (by decide) ?_
    refine lv_aload hx hb dX11_adder_62 (lv_at hl 0 rfl) ?_
    refine ro_i (va_runV (As := []) (rest := []) FX (c_X3_size l G a (49 + 11 * ix p9) (ripN (Ns (ix p9)) (ix w9))) (cwV 0 hts gX11_adder_X3_size rfl rfl rfl (by decide +kernel) ⟨Nat.le_of_ble_eq_true rfl, Nat.le_of_ble_eq_true rfl⟩) (preV hK hNW h_n (va_recv hK h_n (ci := 3) (q0 := 0) rfl rfl)) rfl rfl hl.1 rfl (lv_room (Nat.le_of_ble_eq_true rfl)) dX11_adder_64 ⟨Nat.le_of_ble_eq_true rfl, Nat.le_of_ble_eq_true rfl⟩) ?_
    have eN : (if ix m9 = 0 then ripN (Ns (ix p9)) (ix w9) else joiN (ix m9 = 1) (Ns (ix p9)) (ix w9)) = ripN (Ns (ix p9)) (ix w9) := if_pos c26
    refine retw (Nat.le_of_ble_eq_true rfl) (Nat.le_of_ble_eq_true rfl) ?_
    exact en_wi (v7.1, v7.2, f0, f1, f2, f3, f4) hx hb hr hlocks hS (⟨((if_pos hc0).trans ((if_pos q1).trans ((if_pos q2).trans (if_pos q3)))), by rw [eN]⟩) (⟨h_g, h_arr, h_o, h_u, h_p, h_pa, h_c, h_ca, by rw [eN]; exact fam_join h_f h_n⟩) dX11_adder_67
set_option maxRecDepth 20000 in
theorem inX11_multiplier_11 : ∀ w ∈ u_ws RX11 TX11 12, w ∈ wsX11_multiplier := by decide +kernel
set_option maxHeartbeats 4000000 in
set_option maxRecDepth 100000 in
/-- multiplier -/
theorem c_X11_multiplier (l : Launch) (hfl : l.stackTraces = false) (G : GG) (a : Nat → Nat) (ha : Inj a) (t9 : Nat) (Ns : Nat → NT) (l9 y9 k9 : Int32) (f0 f1 : Nat → Int32) (p9 w9 : Int32) (hW : ∀ z, z < 4 → WF (Ns z))  : vx_Met l yX11_multiplier wsX11_multiplier ({ frames := 7, cells := 3, slots := 18, locals := 145 } : Room) (PcX G a t9 [.ref (a 0), .int p9, .int w9] (fun H => PP G ([(a 0, .inr (11, [.ref (a 1), .ref (a 2), .ref (a 4), .ref (a 6), .ref (a 21), .ref (a 28), .ref (a 31), .ref (a 36), .ref (a 41), .ref (a 42), .ref (a 45), .ref (a 48)]))]) H ∧ PP G ([(a 1, .inl (gQ G, 4, .inr (.inr (.inr (.inr (fun z => some (a (49 + 11 * z))))))))]) H ∧ PP G (makO a 6 l9 y9 k9) H ∧ PP G (rowW G a 19 5 f0) H ∧ PP G (rowW G a 17 16 f1) H ∧ NSP G a Ns H)) (QI (fun (r : Int32) (_ : Int32 × Int32 × Int32 × (Nat → Int32) × (Nat → Int32)) => cMu Ns p9 w9 = 0 ∧ r = nI (nG (mulN (Ns (ix p9)) (ix w9)))) (fun u H => PP G ([(a 0, .inr (11, [.ref (a 1), .ref (a 2), .ref (a 4), .ref (a 6), .ref (a 21), .ref (a 28), .ref (a 31), .ref (a 36), .ref (a 41), .ref (a 42), .ref (a 45), .ref (a 48)]))]) H ∧ PP G ([(a 1, .inl (gQ G, 4, .inr (.inr (.inr (.inr (fun z => some (a (49 + 11 * z))))))))]) H ∧ PP G (makO a 6 u.1 u.2.1 u.2.2.1) H ∧ PP G (rowW G a 19 5 u.2.2.2.1) H ∧ PP G (rowW G a 17 16 u.2.2.2.2) H ∧ NSP G a (upN Ns (ix p9) (mulN (Ns (ix p9)) (ix w9))) H) (orA (rng a 6 1) (orA (rng a 17 4) (rng a 49 44)))) (XQ (XE (cMu Ns p9 w9)) (fun H => PP G ([(a 0, .inr (11, [.ref (a 1), .ref (a 2), .ref (a 4), .ref (a 6), .ref (a 21), .ref (a 28), .ref (a 31), .ref (a 36), .ref (a 41), .ref (a 42), .ref (a 45), .ref (a 48)]))]) H ∧ PP G ([(a 1, .inl (gQ G, 4, .inr (.inr (.inr (.inr (fun z => some (a (49 + 11 * z))))))))]) H ∧ PP G (makO a 6 l9 y9 k9) H ∧ PP G (rowW G a 19 5 f0) H ∧ PP G (rowW G a 17 16 f1) H ∧ NSP G a Ns H) (orA (rng a 6 1) (orA (rng a 17 4) (rng a 49 44)))) 3 18 (orA (rng a 6 1) (orA (rng a 17 4) (rng a 49 44))) := by
  refine vx_ofW (cc := cX11_multiplier) (maxL := 4) (ret := (some .int)) (by decide) rfl ?_
  intro p e s m args below meth c s₁ B hml htab hv
  obtain ⟨⟨⟨rfl, hB, hK, hNW⟩, hLow⟩, hX⟩ := hv
  have hx := B.exec
  have hb := B.bytes
  have hr := B.returns
  have hts := atoms_spec (ws := wsX11_multiplier) B.pre
  have hown : s.vm.findClass RX11 = some m.cls := findClass_of_methodNamed B.named
  have hlocks := B.notSynchronized
  have FX : CallFix p m c cX11_multiplier 4 s ([.ref (a 0), .int p9, .int w9] : List Value).toArray wsX11_multiplier RX11 := ⟨hx, hb, hml, hown, hts⟩
  have hl := lv_entry ([.ref (a 0), .int p9, .int w9]) (n := 4) (Nat.le_of_ble_eq_true rfl)
  rw [lg_entry_eq]
  generalize (lg_sl ([.ref (a 0), .int p9, .int w9]) ++ List.replicate (4 - (lg_sl ([.ref (a 0), .int p9, .int w9])).length) Slot.unset).toArray = ls at hl ⊢
  have hl : lv_has ls 4 [(0, .ref (a 0)), (1, .int p9), (2, .int w9)] := hl
  obtain ⟨h_g, h_arr, h_o, h_v, h_pr, hns⟩ := hB
  have hS : va_S (orA (rng a 6 1) (orA (rng a 17 4) (rng a 49 44))) s.heap s.heap [] := va_S.rf
  refine lv_aload_n hx hb dX11_multiplier_0 rfl (lv_at hl 0 rfl) ?_
  refine lv_iload_n hx hb dX11_multiplier_1 rfl (lv_at hl 1 rfl) ?_
  refine xcr (vx_runV (As := [.int p9]) (rest := []) FX (c_X11_netAt l hfl G a ha t9 p9) (cwV 1 hts gX11_multiplier_X11_netAt rfl rfl rfl (by decide +kernel) ⟨Nat.le_of_ble_eq_true rfl, Nat.le_of_ble_eq_true rfl⟩) (preVX hK hNW (⟨h_g, h_arr⟩) (hLow.at hS (fun q9 _ q => q.elim (rng_M q9) (fun q => q.elim (rng_M q9) (rng_M q9)))) (hX.at hS (fun q9 _ q => q.elim (rng_M q9) (fun q => q.elim (rng_M q9) (rng_M q9)))) (va_recv hK h_g (ci := 11) (q0 := 0) rfl rfl)) rfl rfl hl.1 rfl (lv_room (Nat.le_of_ble_eq_true rfl)) dX11_multiplier_2 ⟨Nat.le_of_ble_eq_true rfl, Nat.le_of_ble_eq_true rfl⟩) hS htab hlocks (fun H1 hk9 => ⟨kpF hk9 h_g, kpF hk9 h_arr, kpF hk9 h_o, kpF hk9 h_v, kpF hk9 h_pr, fun z hz => kpF hk9 (hns z hz)⟩) (fun E hE9 => XE_1 hE9.1 (if_neg hE9.2)) (Nat.le_of_ble_eq_true rfl) (Nat.le_of_ble_eq_true rfl) (fun _ hc0 H locs hk1 hS => ?_)
  have h_g : PP G ([(a 0, .inr (11, [.ref (a 1), .ref (a 2), .ref (a 4), .ref (a 6), .ref (a 21), .ref (a 28), .ref (a 31), .ref (a 36), .ref (a 41), .ref (a 42), .ref (a 45), .ref (a 48)]))]) H := kpF hk1 h_g
  have h_arr : PP G ([(a 1, .inl (gQ G, 4, .inr (.inr (.inr (.inr (fun z => some (a (49 + 11 * z))))))))]) H := kpF hk1 h_arr
  have h_o : PP G (makO a 6 l9 y9 k9) H := kpF hk1 h_o
  have h_v : PP G (rowW G a 19 5 f0) H := kpF hk1 h_v
  have h_pr : PP G (rowW G a 17 16 f1) H := kpF hk1 h_pr
  have hns : NSP G a Ns H := fun z hz => kpF hk1 (hns z hz)
  have hk4 := ix_lt hc0 (by omega)
  have h_f : PP G (famW G a Ns (ix p9)) H := fam_split hns
  have h_n : PP G (netW G a (49 + 11 * ix p9) (Ns (ix p9))) H := hns _ hk4
  have hN := hW _ hk4
  have hg9 := hN.g
  have ho9 := hN.o
  have hi9 := hN.2.1
  refine lv_astore_n (lv' := [(3, .ref (a (49 + 11 * ix p9))), (0, .ref (a 0)), (1, .int p9), (2, .int w9)]) hx hb dX11_multiplier_5 rfl hl (by decide) rfl (fun ls hl => ?_)
  refine lv_iload_n hx hb dX11_multiplier_6 rfl (lv_at hl 3 rfl) ?_
  refine lv_iconst (v := nI 1) hx hb dX11_multiplier_7 (by decide) ?_
  refine lv_iconst (v := nI 4) hx hb dX11_multiplier_8 (by decide) ?_
  refine xcv (vx_runS (As := [.int w9, .int (nI 1), .int (nI 4)]) (rest := []) FX (c_X11_needRange l hfl G a ha t9 w9 (nI 1) (nI 4)) (va_cwS 3 hts gX11_multiplier_X11_needRange rfl rfl rfl (by decide +kernel) ⟨Nat.le_of_ble_eq_true rfl, Nat.le_of_ble_eq_true rfl⟩) (preSX hK hNW trivial (hLow.at hS (fun q9 _ q => q.elim (rng_M q9) (fun q => q.elim (rng_M q9) (rng_M q9)))) (hX.at hS (fun q9 _ q => q.elim (rng_M q9) (fun q => q.elim (rng_M q9) (rng_M q9))))) rfl rfl hl.1 rfl (lv_room (Nat.le_of_ble_eq_true rfl)) dX11_multiplier_9 ⟨Nat.le_of_ble_eq_true rfl, Nat.le_of_ble_eq_true rfl⟩) hS htab hlocks (fun H1 hk9 => ⟨kpF hk9 h_g, kpF hk9 h_arr, kpF hk9 h_o, kpF hk9 h_v, kpF hk9 h_pr, fam_back (kpF hk9 h_f) (kpF hk9 h_n)⟩) (fun E hE9 => XE_2 hE9.1 ((if_pos hc0).trans (if_neg hE9.2))) (Nat.le_of_ble_eq_true rfl) (Nat.le_of_ble_eq_true rfl) (fun q1 H locs hk2 hS => ?_)
  have h_g : PP G ([(a 0, .inr (11, [.ref (a 1), .ref (a 2), .ref (a 4), .ref (a 6), .ref (a 21), .ref (a 28), .ref (a 31), .ref (a 36), .ref (a 41), .ref (a 42), .ref (a 45), .ref (a 48)]))]) H := kpF hk2 h_g
  have h_arr : PP G ([(a 1, .inl (gQ G, 4, .inr (.inr (.inr (.inr (fun z => some (a (49 + 11 * z))))))))]) H := kpF hk2 h_arr
  have h_o : PP G (makO a 6 l9 y9 k9) H := kpF hk2 h_o
  have h_v : PP G (rowW G a 19 5 f0) H := kpF hk2 h_v
  have h_pr : PP G (rowW G a 17 16 f1) H := kpF hk2 h_pr
  have h_f : PP G (famW G a Ns (ix p9)) H := kpF hk2 h_f
  have h_n : PP G (netW G a (49 + 11 * ix p9) (Ns (ix p9))) H := kpF hk2 h_n
  refine lv_aload_n hx hb dX11_multiplier_12 rfl (lv_at hl 0 rfl) ?_
  refine xcv (vx_runS (As := [.ref (a (49 + 11 * ix p9))]) (rest := []) FX (c_X11_needNoGates l hfl G a ha t9 (ix p9) (Ns (ix p9)) hN) (va_cwS 1 hts gX11_multiplier_X11_needNoGates rfl rfl rfl (by decide +kernel) ⟨Nat.le_of_ble_eq_true rfl, Nat.le_of_ble_eq_true rfl⟩) (preSX hK hNW h_n (hLow.at hS (fun q9 _ q => q.elim (rng_M q9) (fun q => q.elim (rng_M q9) (rng_M q9)))) (hX.at hS (fun q9 _ q => q.elim (rng_M q9) (fun q => q.elim (rng_M q9) (rng_M q9))))) rfl rfl hl.1 rfl (lv_room (Nat.le_of_ble_eq_true rfl)) dX11_multiplier_13 ⟨Nat.le_of_ble_eq_true rfl, Nat.le_of_ble_eq_true rfl⟩) hS htab hlocks (fun H1 hk9 => ⟨kpF hk9 h_g, kpF hk9 h_arr, kpF hk9 h_o, kpF hk9 h_v, kpF hk9 h_pr, fam_back (kpF hk9 h_f) (kpF hk9 h_n)⟩) (fun E hE9 => XE_3 hE9.1 ((if_pos hc0).trans ((if_pos q1).trans (if_neg hE9.2)))) (Nat.le_of_ble_eq_true rfl) (Nat.le_of_ble_eq_true rfl) (fun q2 H locs hk3 hS => ?_)
  have h_g : PP G ([(a 0, .inr (11, [.ref (a 1), .ref (a 2), .ref (a 4), .ref (a 6), .ref (a 21), .ref (a 28), .ref (a 31), .ref (a 36), .ref (a 41), .ref (a 42), .ref (a 45), .ref (a 48)]))]) H := kpF hk3 h_g
  have h_arr : PP G ([(a 1, .inl (gQ G, 4, .inr (.inr (.inr (.inr (fun z => some (a (49 + 11 * z))))))))]) H := kpF hk3 h_arr
  have h_o : PP G (makO a 6 l9 y9 k9) H := kpF hk3 h_o
  have h_v : PP G (rowW G a 19 5 f0) H := kpF hk3 h_v
  have h_pr : PP G (rowW G a 17 16 f1) H := kpF hk3 h_pr
  have h_f : PP G (famW G a Ns (ix p9)) H := kpF hk3 h_f
  have h_n : PP G (netW G a (49 + 11 * ix p9) (Ns (ix p9))) H := kpF hk3 h_n
  obtain ⟨ew, lw⟩ := rg_ix q1.1 q1.2 (by omega) (by omega)
  have ho0 := WF_o0 hN q2
  have hl : lv_has ls 4 [(3, .ref (a (49 + 11 * ix p9))), (0, .ref (a 0)), (1, .int p9), (2, .int (nI (ix w9)))] := by rw [← ew]; exact hl
  refine lv_aload_n hx hb dX11_multiplier_16 rfl (lv_at hl 1 rfl) ?_
  refine va_get (D := G.1) (ci := 11) (v := .ref (a 6)) (C := RX11) (T := TX11) (N := 12) hx hb hts inX11_multiplier_11 hown hK h_g 0 rfl rfl 3 (by decide) (hts (.fieldLink RX11 30 "GateLedger" "maker" "LGateLedger$Maker;") (List.mem_of_getElem? (i := 1) (by decide +kernel))) (fun _ h9 => h9) rfl dX11_multiplier_17 ?_
  refine lv_aload_n hx hb dX11_multiplier_20 rfl (lv_at hl 0 rfl) ?_
  refine lv_iload_n hx hb dX11_multiplier_21 rfl (lv_at hl 3 rfl) ?_
  refine wr_v (va_runV (As := [.ref (a (49 + 11 * ix p9)), .int (nI (ix w9))]) (rest := []) FX (c_X2_makeProduct l G a ha 6 (49 + 11 * ix p9) (by omega) l9 y9 k9 f0 f1 (Ns (ix p9)) (ix w9) (by omega) q2 ho0) (cwV 2 hts gX11_multiplier_X2_makeProduct rfl rfl rfl (by decide +kernel) ⟨Nat.le_of_ble_eq_true rfl, Nat.le_of_ble_eq_true rfl⟩) (preV hK hNW (⟨h_o, h_v, h_pr, h_n⟩) (va_recv hK h_o (ci := 2) (q0 := 0) rfl rfl)) rfl rfl hl.1 rfl (lv_room (Nat.le_of_ble_eq_true rfl)) dX11_multiplier_22 ⟨Nat.le_of_ble_eq_true rfl, Nat.le_of_ble_eq_true rfl⟩) hS (orA_t (fun _ q => q) (fun _ q => q) (rng_sub (by omega))) (fun v7 H locs _ hP9 hk4 hS => ?_)
  have h_o : PP G (makO a 6 v7.1 v7.2.1 v7.2.2.1) H := hP9.1
  have h_v : PP G (rowW G a 19 5 v7.2.2.2.1) H := hP9.2.1
  have h_pr : PP G (rowW G a 17 16 v7.2.2.2.2) H := hP9.2.2.1
  have h_n : PP G (netW G a (49 + 11 * ix p9) (mulN (Ns (ix p9)) (ix w9))) H := hP9.2.2.2
  have h_g : PP G ([(a 0, .inr (11, [.ref (a 1), .ref (a 2), .ref (a 4), .ref (a 6), .ref (a 21), .ref (a 28), .ref (a 31), .ref (a 36), .ref (a 41), .ref (a 42), .ref (a 45), .ref (a 48)]))]) H := kp hk4 h_g (dj_cons (or_no (rng_no ha (by omega)) (or_no (rng_no ha (by omega)) (rng_no ha (by omega)))) (dj_nil))
  have h_arr : PP G ([(a 1, .inl (gQ G, 4, .inr (.inr (.inr (.inr (fun z => some (a (49 + 11 * z))))))))]) H := kp hk4 h_arr (dj_cons (or_no (rng_no ha (by omega)) (or_no (rng_no ha (by omega)) (rng_no ha (by omega)))) (dj_nil))
  have h_f : PP G (famW G a Ns (ix p9)) H := kp hk4 h_f (dj_or (dj_famo ha (by omega)) (dj_or (dj_famo ha (by omega)) (dj_famk ha)))
  refine lv_aload_n hx hb dX11_multiplier_25 rfl (lv_at hl 0 rfl) ?_
  refine ro_i (va_runV (As := []) (rest := []) FX (c_X3_size l G a (49 + 11 * ix p9) (mulN (Ns (ix p9)) (ix w9))) (cwV 0 hts gX11_multiplier_X3_size rfl rfl rfl (by decide +kernel) ⟨Nat.le_of_ble_eq_true rfl, Nat.le_of_ble_eq_true rfl⟩) (preV hK hNW h_n (va_recv hK h_n (ci := 3) (q0 := 0) rfl rfl)) rfl rfl hl.1 rfl (lv_room (Nat.le_of_ble_eq_true rfl)) dX11_multiplier_26 ⟨Nat.le_of_ble_eq_true rfl, Nat.le_of_ble_eq_true rfl⟩) ?_
  refine retw (Nat.le_of_ble_eq_true rfl) (Nat.le_of_ble_eq_true rfl) ?_
  exact en_wi v7 hx hb hr hlocks hS (⟨((if_pos hc0).trans ((if_pos q1).trans (if_pos q2))), rfl⟩) (⟨h_g, h_arr, h_o, h_v, h_pr, fam_join h_f h_n⟩) dX11_multiplier_29
