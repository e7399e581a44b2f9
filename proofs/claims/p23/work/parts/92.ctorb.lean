set_option maxRecDepth 20000 in
theorem inX11_init_0 : ∀ w ∈ u_ws RX0 TX0 5, w ∈ wsX11_init := by decide +kernel
set_option maxRecDepth 20000 in
theorem inX11_init_1 : ∀ w ∈ u_ws RX1 TX1 2, w ∈ wsX11_init := by decide +kernel
set_option maxRecDepth 20000 in
theorem inX11_init_2 : ∀ w ∈ u_ws RX2 TX2 10, w ∈ wsX11_init := by decide +kernel
set_option maxRecDepth 20000 in
theorem inX11_init_3 : ∀ w ∈ u_ws RX3 TX3 8, w ∈ wsX11_init := by decide +kernel
set_option maxRecDepth 20000 in
theorem inX11_init_4 : ∀ w ∈ u_ws RX4 TX4 1, w ∈ wsX11_init := by decide +kernel
set_option maxRecDepth 20000 in
theorem inX11_init_5 : ∀ w ∈ u_ws RX5 TX5 3, w ∈ wsX11_init := by decide +kernel
set_option maxRecDepth 20000 in
theorem inX11_init_6 : ∀ w ∈ u_ws RX6 TX6 1, w ∈ wsX11_init := by decide +kernel
set_option maxRecDepth 20000 in
theorem inX11_init_7 : ∀ w ∈ u_ws RX7 TX7 2, w ∈ wsX11_init := by decide +kernel
set_option maxRecDepth 20000 in
theorem inX11_init_8 : ∀ w ∈ u_ws RX8 TX8 2, w ∈ wsX11_init := by decide +kernel
set_option maxRecDepth 20000 in
theorem inX11_init_10 : ∀ w ∈ u_ws RX10 TX10 3, w ∈ wsX11_init := by decide +kernel
set_option maxRecDepth 20000 in
theorem inX11_init_11 : ∀ w ∈ u_ws RX11 TX11 12, w ∈ wsX11_init := by decide +kernel
set_option maxHeartbeats 4000000 in
set_option maxRecDepth 100000 in
theorem c_X11_init (l : Launch) (G : GG) (a : Nat → Nat) (b0 : Nat) (hab : ∀ k, a k = b0 + k)   : Met l yX11_init wsX11_init ({ frames := 3, cells := 92, slots := 6860, locals := 57 } : Room) (PcI G [.ref (a 0)] (fun H => H.size = b0 + (1) ∧ PP G ([(a 0, .inr (11, [.null, .null, .null, .null, .null, .null, .null, .null, .null, .null, .null, .null]))]) H)) (QV (fun _ : Unit => True) (fun _ H => PP G (gobW a) H ∧ PP G (garW G a) H ∧ PP G (rowW G a 2 4 (fun _ => nI 1)) H ∧ PP G (rowW G a 4 4 (fun _ => nI 1)) H ∧ PP G (makI G a 6) H ∧ PP G (wirW G a 21 (fun _ => nI 0) (fun _ => nI 0) (fun _ => nI 0)) H ∧ PP G (timW G a 28 (nI 0) (fun _ => nI 0)) H ∧ PP G (lanW G a 31 (fun _ => 0) (fun _ => 0)) H ∧ PP G (lanW G a 36 (fun _ => 0) (fun _ => 0)) H ∧ PP G (talW a 41 0 0 0) H ∧ PP G (wavW G a 42 (nI 0) (fun _ => 0)) H ∧ PP G (ticW G a 45 (fun _ => nI 0)) H ∧ PP G (audW a 48 (nI 0) (nI 0) (nI 0) (nI 0) (nI 0)) H ∧ NSP G a (fun _ => N0) H) (rng a 0 93)) 92 6860 (rng a 0 93) := by
  refine Met.ofW (cc := cX11_init) (maxL := 2) (ret := none) (by decide) rfl ?_
  intro p e s m args below meth c s₁ B hml hv
  obtain ⟨⟨rfl, hB, hK, hNW⟩, hNI, hAO⟩ := hv
  have hx := B.exec
  have hb := B.bytes
  have hr := B.returns
  have hts := atoms_spec (ws := wsX11_init) B.pre
  have hown : s.vm.findClass RX11 = some m.cls := findClass_of_methodNamed B.named
  have hlocks := B.notSynchronized
  have hin9 : meth.name = "<init>" := (name_of_methodNamed B.named B.method).1
  have ha : Inj a := fun x y h => by rw [hab, hab] at h; omega
  have FX : CallFix p m c cX11_init 2 s ([.ref (a 0)] : List Value).toArray wsX11_init RX11 := ⟨hx, hb, hml, hown, hts⟩
  have hl := lv_entry ([.ref (a 0)]) (n := 2) (Nat.le_of_ble_eq_true rfl)
  rw [lg_entry_eq]
  generalize (lg_sl ([.ref (a 0)]) ++ List.replicate (2 - (lg_sl ([.ref (a 0)])).length) Slot.unset).toArray = ls at hl ⊢
  have hl : lv_has ls 2 [(0, .ref (a 0))] := hl
  obtain ⟨hZ, h_o⟩ := hB
  have hS : va_S (rng a 0 93) s.heap s.heap [] := va_S.rf
  refine lv_aload_n hx hb dX11_init_0 rfl (lv_at hl 0 rfl) ?_
  refine lv_obj hx hb hown (hts (.methodLink RX11 1 objectInit) (List.mem_of_getElem? (i := 1) (by decide +kernel))) (hts (.instanceMethod objectInit) (List.mem_of_getElem? (i := 2) (by decide +kernel))) (hts (.code objectInit ⟨#[0xb1]⟩ 1 none) (List.mem_of_getElem? (i := 3) (by decide +kernel))) (by rw [hml]; exact hl.1) dX11_init_1 (Nat.le_of_ble_eq_true rfl) (Nat.le_of_ble_eq_true rfl) ?_
  refine lv_aload_n hx hb dX11_init_4 rfl (lv_at hl 0 rfl) ?_
  refine lv_iconst (v := nI 4) hx hb dX11_init_5 (by decide) ?_
  refine pp_newq (a := a) (b0 := b0) (G := G) hx hb hown (hts (.classLink RX11 9 RX3) (List.mem_of_getElem? (i := 4) (by decide +kernel))) hAO (cA0 := gQ G) (va_RA_nm (hK.2 2 _ rfl).2) (N' := 4) (nI_pos (by omega)) (nI_clamp (by omega)) (Nat.le_of_ble_eq_true rfl) (Nat.le_of_ble_eq_true rfl) (Nat.le_of_ble_eq_true rfl) dX11_init_6 hab hZ (j1 := 2) (by omega) hS (fun H hP9 hk1 hZ hS => ?_)
  have h_q1 : PP G ([(a 1, .inl (gQ G, 4, .inr (.inr (.inr (.inr (fun _ => none))))))]) H := hP9
  have h_o : PP G ([(a 0, .inr (11, [.null, .null, .null, .null, .null, .null, .null, .null, .null, .null, .null, .null]))]) H := kpF hk1 h_o
  refine pp_putF (ci := 11) (v := .ref (a 1)) (ty := .array (.object "GateLedger$Net")) (C := RX11) (T := TX11) (N := 12) hx hb hts inX11_init_11 tyX11 tyX11_ok nmX11 hown hK h_o hS (rng_in (by omega)) rfl 0 (by decide) (hts (.fieldLink RX11 11 "GateLedger" "nets" "[LGateLedger$Net;") (List.mem_of_getElem? (i := 5) (by decide +kernel))) (fun _ h9 => h9) rfl hin9 rfl (by decide +kernel) rfl rfl (Nat.le_of_ble_eq_true rfl) dX11_init_9 (fun H locs hP9 hk2 hz9 hS => ?_)
  have h_o : PP G ([(a 0, .inr (11, [.ref (a 1), .null, .null, .null, .null, .null, .null, .null, .null, .null, .null, .null]))]) H := hP9
  have h_q1 : PP G ([(a 1, .inl (gQ G, 4, .inr (.inr (.inr (.inr (fun _ => none))))))]) H := kp hk2 h_q1 (dj_cons (ne_a ha (by omega)) (dj_nil))
  have hZ := hz9.trans hZ
  refine lv_aload_n hx hb dX11_init_12 rfl (lv_at hl 0 rfl) ?_
  refine pp_new (a := a) (b0 := b0) (ci := 4) (fs := [.null]) (C := RX4) (T := TX4) (N := 1) hx hb hts inX11_init_4 tyX4 tyX4_ok hown (hts (.classLink RX11 15 RX4) (List.mem_of_getElem? (i := 6) (by decide +kernel))) (hts (.instantiable RX4 1) (List.mem_of_getElem? (i := 7) (by decide +kernel))) (hts (.initialized RX4) (List.mem_of_getElem? (i := 8) (by decide +kernel))) hK rfl (fun j hj => by rcases (show j = 0 by omega) with rfl <;> rfl) hab hZ (j1 := 3) (by omega) hS (Nat.le_of_ble_eq_true rfl) (Nat.le_of_ble_eq_true rfl) dX11_init_13 (fun H hP9 hk3 hZ hS => ?_)
  have h_q2 : PP G ([(a 2, .inr (4, [.null]))]) H := hP9
  have h_o : PP G ([(a 0, .inr (11, [.ref (a 1), .null, .null, .null, .null, .null, .null, .null, .null, .null, .null, .null]))]) H := kpF hk3 h_o
  have h_q1 : PP G ([(a 1, .inl (gQ G, 4, .inr (.inr (.inr (.inr (fun _ => none))))))]) H := kpF hk3 h_q1
  refine lv_dup hx hb dX11_init_16 rfl ?_
  refine lv_iconst (v := nI 4) hx hb dX11_init_17 (by decide) ?_
  refine wr_v (va_runI (As := [.int (nI 4)]) (rest := [.ref (a 2), .ref (a 0)]) FX (c_X4_init l G a b0 hab 2 4 (by decide)) (cwI 1 hts gX11_init_X4_init rfl rfl rfl (hts (.initialized RX4) (List.mem_of_getElem? (i := 8) (by decide +kernel))) (hts (.methodLink RX11 17 yX4_init) (List.mem_of_getElem? (i := 46) (by decide +kernel))) (hts (.instanceMethod yX4_init) (List.mem_of_getElem? (i := 47) (by decide +kernel))) rfl (by decide +kernel) ⟨Nat.le_of_ble_eq_true rfl, Nat.le_of_ble_eq_true rfl⟩) (preS hK hNW ⟨hZ, h_q2⟩) rfl rfl hl.1 rfl (lv_room (Nat.le_of_ble_eq_true rfl)) dX11_init_18 ⟨Nat.le_of_ble_eq_true rfl, Nat.le_of_ble_eq_true rfl⟩) hS (rng_sub (by omega)) (fun _ H locs _ hP9 hk4 hS => ?_)
  have hZ := hP9.1
  have h_q2 : PP G (rowW G a 2 4 (fun _ => nI 0)) H := hP9.2
  have h_o : PP G ([(a 0, .inr (11, [.ref (a 1), .null, .null, .null, .null, .null, .null, .null, .null, .null, .null, .null]))]) H := kp hk4 h_o (dj_cons (rng_no ha (by omega)) (dj_nil))
  have h_q1 : PP G ([(a 1, .inl (gQ G, 4, .inr (.inr (.inr (.inr (fun _ => none))))))]) H := kp hk4 h_q1 (dj_cons (rng_no ha (by omega)) (dj_nil))
  refine pp_putF (ci := 11) (v := .ref (a 2)) (ty := .object "GateLedger$Row") (C := RX11) (T := TX11) (N := 12) hx hb hts inX11_init_11 tyX11 tyX11_ok nmX11 hown hK h_o hS (rng_in (by omega)) rfl 1 (by decide) (hts (.fieldLink RX11 20 "GateLedger" "delays" "LGateLedger$Row;") (List.mem_of_getElem? (i := 9) (by decide +kernel))) (fun _ h9 => h9) rfl hin9 rfl (by decide +kernel) rfl rfl (Nat.le_of_ble_eq_true rfl) dX11_init_21 (fun H locs hP9 hk5 hz9 hS => ?_)
  have h_o : PP G ([(a 0, .inr (11, [.ref (a 1), .ref (a 2), .null, .null, .null, .null, .null, .null, .null, .null, .null, .null]))]) H := hP9
  have h_q1 : PP G ([(a 1, .inl (gQ G, 4, .inr (.inr (.inr (.inr (fun _ => none))))))]) H := kp hk5 h_q1 (dj_cons (ne_a ha (by omega)) (dj_nil))
  have h_q2 : PP G (rowW G a 2 4 (fun _ => nI 0)) H := kp hk5 h_q2 (dj_cons (ne_a ha (by omega)) (dj_cons (ne_a ha (by omega)) (dj_nil)))
  have hZ := hz9.trans hZ
  refine lv_aload_n hx hb dX11_init_24 rfl (lv_at hl 0 rfl) ?_
  refine pp_new (a := a) (b0 := b0) (ci := 4) (fs := [.null]) (C := RX4) (T := TX4) (N := 1) hx hb hts inX11_init_4 tyX4 tyX4_ok hown (hts (.classLink RX11 15 RX4) (List.mem_of_getElem? (i := 6) (by decide +kernel))) (hts (.instantiable RX4 1) (List.mem_of_getElem? (i := 7) (by decide +kernel))) (hts (.initialized RX4) (List.mem_of_getElem? (i := 8) (by decide +kernel))) hK rfl (fun j hj => by rcases (show j = 0 by omega) with rfl <;> rfl) hab hZ (j1 := 5) (by omega) hS (Nat.le_of_ble_eq_true rfl) (Nat.le_of_ble_eq_true rfl) dX11_init_25 (fun H hP9 hk6 hZ hS => ?_)
  have h_q4 : PP G ([(a 4, .inr (4, [.null]))]) H := hP9
  have h_o : PP G ([(a 0, .inr (11, [.ref (a 1), .ref (a 2), .null, .null, .null, .null, .null, .null, .null, .null, .null, .null]))]) H := kpF hk6 h_o
  have h_q1 : PP G ([(a 1, .inl (gQ G, 4, .inr (.inr (.inr (.inr (fun _ => none))))))]) H := kpF hk6 h_q1
  have h_q2 : PP G (rowW G a 2 4 (fun _ => nI 0)) H := kpF hk6 h_q2
  refine lv_dup hx hb dX11_init_28 rfl ?_
  refine lv_iconst (v := nI 4) hx hb dX11_init_29 (by decide) ?_
  refine wr_v (va_runI (As := [.int (nI 4)]) (rest := [.ref (a 4), .ref (a 0)]) FX (c_X4_init l G a b0 hab 4 4 (by decide)) (cwI 1 hts gX11_init_X4_init rfl rfl rfl (hts (.initialized RX4) (List.mem_of_getElem? (i := 8) (by decide +kernel))) (hts (.methodLink RX11 17 yX4_init) (List.mem_of_getElem? (i := 46) (by decide +kernel))) (hts (.instanceMethod yX4_init) (List.mem_of_getElem? (i := 47) (by decide +kernel))) rfl (by decide +kernel) ⟨Nat.le_of_ble_eq_true rfl, Nat.le_of_ble_eq_true rfl⟩) (preS hK hNW ⟨hZ, h_q4⟩) rfl rfl hl.1 rfl (lv_room (Nat.le_of_ble_eq_true rfl)) dX11_init_30 ⟨Nat.le_of_ble_eq_true rfl, Nat.le_of_ble_eq_true rfl⟩) hS (rng_sub (by omega)) (fun _ H locs _ hP9 hk7 hS => ?_)
  have hZ := hP9.1
  have h_q4 : PP G (rowW G a 4 4 (fun _ => nI 0)) H := hP9.2
  have h_o : PP G ([(a 0, .inr (11, [.ref (a 1), .ref (a 2), .null, .null, .null, .null, .null, .null, .null, .null, .null, .null]))]) H := kp hk7 h_o (dj_cons (rng_no ha (by omega)) (dj_nil))
  have h_q1 : PP G ([(a 1, .inl (gQ G, 4, .inr (.inr (.inr (.inr (fun _ => none))))))]) H := kp hk7 h_q1 (dj_cons (rng_no ha (by omega)) (dj_nil))
  have h_q2 : PP G (rowW G a 2 4 (fun _ => nI 0)) H := kp hk7 h_q2 (dj_cons (rng_no ha (by omega)) (dj_cons (rng_no ha (by omega)) (dj_nil)))
  refine pp_putF (ci := 11) (v := .ref (a 4)) (ty := .object "GateLedger$Row") (C := RX11) (T := TX11) (N := 12) hx hb hts inX11_init_11 tyX11 tyX11_ok nmX11 hown hK h_o hS (rng_in (by omega)) rfl 2 (by decide) (hts (.fieldLink RX11 24 "GateLedger" "areas" "LGateLedger$Row;") (List.mem_of_getElem? (i := 10) (by decide +kernel))) (fun _ h9 => h9) rfl hin9 rfl (by decide +kernel) rfl rfl (Nat.le_of_ble_eq_true rfl) dX11_init_33 (fun H locs hP9 hk8 hz9 hS => ?_)
  have h_o : PP G ([(a 0, .inr (11, [.ref (a 1), .ref (a 2), .ref (a 4), .null, .null, .null, .null, .null, .null, .null, .null, .null]))]) H := hP9
  have h_q1 : PP G ([(a 1, .inl (gQ G, 4, .inr (.inr (.inr (.inr (fun _ => none))))))]) H := kp hk8 h_q1 (dj_cons (ne_a ha (by omega)) (dj_nil))
  have h_q2 : PP G (rowW G a 2 4 (fun _ => nI 0)) H := kp hk8 h_q2 (dj_cons (ne_a ha (by omega)) (dj_cons (ne_a ha (by omega)) (dj_nil)))
  have h_q4 : PP G (rowW G a 4 4 (fun _ => nI 0)) H := kp hk8 h_q4 (dj_cons (ne_a ha (by omega)) (dj_cons (ne_a ha (by omega)) (dj_nil)))
  have hZ := hz9.trans hZ
  refine lv_aload_n hx hb dX11_init_36 rfl (lv_at hl 0 rfl) ?_
  refine pp_new (a := a) (b0 := b0) (ci := 2) (fs := [.null, .null, .null, .null, .null, .null, .null, .int (nI 0), .int (nI 0), .int (nI 0)]) (C := RX2) (T := TX2) (N := 10) hx hb hts inX11_init_2 tyX2 tyX2_ok hown (hts (.classLink RX11 27 RX2) (List.mem_of_getElem? (i := 11) (by decide +kernel))) (hts (.instantiable RX2 10) (List.mem_of_getElem? (i := 12) (by decide +kernel))) (hts (.initialized RX2) (List.mem_of_getElem? (i := 13) (by decide +kernel))) hK rfl (fun j hj => by rcases (show j = 0 ∨ j = 1 ∨ j = 2 ∨ j = 3 ∨ j = 4 ∨ j = 5 ∨ j = 6 ∨ j = 7 ∨ j = 8 ∨ j = 9 by omega) with rfl | rfl | rfl | rfl | rfl | rfl | rfl | rfl | rfl | rfl <;> rfl) hab hZ (j1 := 7) (by omega) hS (Nat.le_of_ble_eq_true rfl) (Nat.le_of_ble_eq_true rfl) dX11_init_37 (fun H hP9 hk9 hZ hS => ?_)
  have h_q6 : PP G ([(a 6, .inr (2, [.null, .null, .null, .null, .null, .null, .null, .int (nI 0), .int (nI 0), .int (nI 0)]))]) H := hP9
  have h_o : PP G ([(a 0, .inr (11, [.ref (a 1), .ref (a 2), .ref (a 4), .null, .null, .null, .null, .null, .null, .null, .null, .null]))]) H := kpF hk9 h_o
  have h_q1 : PP G ([(a 1, .inl (gQ G, 4, .inr (.inr (.inr (.inr (fun _ => none))))))]) H := kpF hk9 h_q1
  have h_q2 : PP G (rowW G a 2 4 (fun _ => nI 0)) H := kpF hk9 h_q2
  have h_q4 : PP G (rowW G a 4 4 (fun _ => nI 0)) H := kpF hk9 h_q4
  refine lv_dup hx hb dX11_init_40 rfl ?_
  refine wr_v (va_runIN (As := []) (rest := [.ref (a 6), .ref (a 0)]) FX (c_X2_init l G a b0 hab 6) ⟨va_cnB 0 hts gX11_init_X2_init_n29 rfl rfl rfl (hNI.1) (hts (.initialized RX2) (List.mem_of_getElem? (i := 13) (by decide +kernel))) (by decide +kernel) ⟨Nat.le_of_ble_eq_true rfl, Nat.le_of_ble_eq_true rfl⟩, rfl, (hts (.instanceMethod yX2_init) (List.mem_of_getElem? (i := 52) (by decide +kernel)))⟩ (preS hK hNW ⟨hZ, h_q6⟩) rfl rfl hl.1 rfl (lv_room (Nat.le_of_ble_eq_true rfl)) dX11_init_41 ⟨Nat.le_of_ble_eq_true rfl, Nat.le_of_ble_eq_true rfl⟩) hS (rng_sub (by omega)) (fun _ H locs _ hP9 hk10 hS => ?_)
  have hZ := hP9.1
  have h_q6 : PP G (makI G a 6) H := hP9.2
  have h_o : PP G ([(a 0, .inr (11, [.ref (a 1), .ref (a 2), .ref (a 4), .null, .null, .null, .null, .null, .null, .null, .null, .null]))]) H := kp hk10 h_o (dj_cons (rng_no ha (by omega)) (dj_nil))
  have h_q1 : PP G ([(a 1, .inl (gQ G, 4, .inr (.inr (.inr (.inr (fun _ => none))))))]) H := kp hk10 h_q1 (dj_cons (rng_no ha (by omega)) (dj_nil))
  have h_q2 : PP G (rowW G a 2 4 (fun _ => nI 0)) H := kp hk10 h_q2 (dj_cons (rng_no ha (by omega)) (dj_cons (rng_no ha (by omega)) (dj_nil)))
  have h_q4 : PP G (rowW G a 4 4 (fun _ => nI 0)) H := kp hk10 h_q4 (dj_cons (rng_no ha (by omega)) (dj_cons (rng_no ha (by omega)) (dj_nil)))
  refine pp_putF (ci := 11) (v := .ref (a 6)) (ty := .object "GateLedger$Maker") (C := RX11) (T := TX11) (N := 12) hx hb hts inX11_init_11 tyX11 tyX11_ok nmX11 hown hK h_o hS (rng_in (by omega)) rfl 3 (by decide) (hts (.fieldLink RX11 30 "GateLedger" "maker" "LGateLedger$Maker;") (List.mem_of_getElem? (i := 14) (by decide +kernel))) (fun _ h9 => h9) rfl hin9 rfl (by decide +kernel) rfl rfl (Nat.le_of_ble_eq_true rfl) dX11_init_44 (fun H locs hP9 hk11 hz9 hS => ?_)
  have h_o : PP G ([(a 0, .inr (11, [.ref (a 1), .ref (a 2), .ref (a 4), .ref (a 6), .null, .null, .null, .null, .null, .null, .null, .null]))]) H := hP9
  have h_q1 : PP G ([(a 1, .inl (gQ G, 4, .inr (.inr (.inr (.inr (fun _ => none))))))]) H := kp hk11 h_q1 (dj_cons (ne_a ha (by omega)) (dj_nil))
  have h_q2 : PP G (rowW G a 2 4 (fun _ => nI 0)) H := kp hk11 h_q2 (dj_cons (ne_a ha (by omega)) (dj_cons (ne_a ha (by omega)) (dj_nil)))
  have h_q4 : PP G (rowW G a 4 4 (fun _ => nI 0)) H := kp hk11 h_q4 (dj_cons (ne_a ha (by omega)) (dj_cons (ne_a ha (by omega)) (dj_nil)))
  have h_q6 : PP G (makI G a 6) H := kp hk11 h_q6 (dj_one ha (makI_in (G := G) (a := a) (i := 6)) (by omega))
  have hZ := hz9.trans hZ
  refine lv_aload_n hx hb dX11_init_47 rfl (lv_at hl 0 rfl) ?_
  refine pp_new (a := a) (b0 := b0) (ci := 10) (fs := [.null, .null, .null]) (C := RX10) (T := TX10) (N := 3) hx hb hts inX11_init_10 tyX10 tyX10_ok hown (hts (.classLink RX11 34 RX10) (List.mem_of_getElem? (i := 15) (by decide +kernel))) (hts (.instantiable RX10 3) (List.mem_of_getElem? (i := 16) (by decide +kernel))) (hts (.initialized RX10) (List.mem_of_getElem? (i := 17) (by decide +kernel))) hK rfl (fun j hj => by rcases (show j = 0 ∨ j = 1 ∨ j = 2 by omega) with rfl | rfl | rfl <;> rfl) hab hZ (j1 := 22) (by omega) hS (Nat.le_of_ble_eq_true rfl) (Nat.le_of_ble_eq_true rfl) dX11_init_48 (fun H hP9 hk12 hZ hS => ?_)
  have h_q21 : PP G ([(a 21, .inr (10, [.null, .null, .null]))]) H := hP9
  have h_o : PP G ([(a 0, .inr (11, [.ref (a 1), .ref (a 2), .ref (a 4), .ref (a 6), .null, .null, .null, .null, .null, .null, .null, .null]))]) H := kpF hk12 h_o
  have h_q1 : PP G ([(a 1, .inl (gQ G, 4, .inr (.inr (.inr (.inr (fun _ => none))))))]) H := kpF hk12 h_q1
  have h_q2 : PP G (rowW G a 2 4 (fun _ => nI 0)) H := kpF hk12 h_q2
  have h_q4 : PP G (rowW G a 4 4 (fun _ => nI 0)) H := kpF hk12 h_q4
  have h_q6 : PP G (makI G a 6) H := kpF hk12 h_q6
  refine lv_dup hx hb dX11_init_51 rfl ?_
  refine wr_v (va_runIN (As := []) (rest := [.ref (a 21), .ref (a 0)]) FX (c_X10_init l G a b0 hab 21) ⟨va_cnB 0 hts gX11_init_X10_init_n36 rfl rfl rfl (hNI.2.1) (hts (.initialized RX10) (List.mem_of_getElem? (i := 17) (by decide +kernel))) (by decide +kernel) ⟨Nat.le_of_ble_eq_true rfl, Nat.le_of_ble_eq_true rfl⟩, rfl, (hts (.instanceMethod yX10_init) (List.mem_of_getElem? (i := 64) (by decide +kernel)))⟩ (preS hK hNW ⟨hZ, h_q21⟩) rfl rfl hl.1 rfl (lv_room (Nat.le_of_ble_eq_true rfl)) dX11_init_52 ⟨Nat.le_of_ble_eq_true rfl, Nat.le_of_ble_eq_true rfl⟩) hS (rng_sub (by omega)) (fun _ H locs _ hP9 hk13 hS => ?_)
  have hZ := hP9.1
  have h_q21 : PP G (wirW G a 21 (fun _ => nI 0) (fun _ => nI 0) (fun _ => nI 0)) H := hP9.2
  have h_o : PP G ([(a 0, .inr (11, [.ref (a 1), .ref (a 2), .ref (a 4), .ref (a 6), .null, .null, .null, .null, .null, .null, .null, .null]))]) H := kp hk13 h_o (dj_cons (rng_no ha (by omega)) (dj_nil))
  have h_q1 : PP G ([(a 1, .inl (gQ G, 4, .inr (.inr (.inr (.inr (fun _ => none))))))]) H := kp hk13 h_q1 (dj_cons (rng_no ha (by omega)) (dj_nil))
  have h_q2 : PP G (rowW G a 2 4 (fun _ => nI 0)) H := kp hk13 h_q2 (dj_cons (rng_no ha (by omega)) (dj_cons (rng_no ha (by omega)) (dj_nil)))
  have h_q4 : PP G (rowW G a 4 4 (fun _ => nI 0)) H := kp hk13 h_q4 (dj_cons (rng_no ha (by omega)) (dj_cons (rng_no ha (by omega)) (dj_nil)))
  have h_q6 : PP G (makI G a 6) H := kp hk13 h_q6 (dj_rng ha (makI_in (G := G) (a := a) (i := 6)) (by omega))
  refine pp_putF (ci := 11) (v := .ref (a 21)) (ty := .object "GateLedger$Wiring") (C := RX11) (T := TX11) (N := 12) hx hb hts inX11_init_11 tyX11 tyX11_ok nmX11 hown hK h_o hS (rng_in (by omega)) rfl 4 (by decide) (hts (.fieldLink RX11 37 "GateLedger" "wiring" "LGateLedger$Wiring;") (List.mem_of_getElem? (i := 18) (by decide +kernel))) (fun _ h9 => h9) rfl hin9 rfl (by decide +kernel) rfl rfl (Nat.le_of_ble_eq_true rfl) dX11_init_55 (fun H locs hP9 hk14 hz9 hS => ?_)
  have h_o : PP G ([(a 0, .inr (11, [.ref (a 1), .ref (a 2), .ref (a 4), .ref (a 6), .ref (a 21), .null, .null, .null, .null, .null, .null, .null]))]) H := hP9
  have h_q1 : PP G ([(a 1, .inl (gQ G, 4, .inr (.inr (.inr (.inr (fun _ => none))))))]) H := kp hk14 h_q1 (dj_cons (ne_a ha (by omega)) (dj_nil))
  have h_q2 : PP G (rowW G a 2 4 (fun _ => nI 0)) H := kp hk14 h_q2 (dj_cons (ne_a ha (by omega)) (dj_cons (ne_a ha (by omega)) (dj_nil)))
  have h_q4 : PP G (rowW G a 4 4 (fun _ => nI 0)) H := kp hk14 h_q4 (dj_cons (ne_a ha (by omega)) (dj_cons (ne_a ha (by omega)) (dj_nil)))
  have h_q6 : PP G (makI G a 6) H := kp hk14 h_q6 (dj_one ha (makI_in (G := G) (a := a) (i := 6)) (by omega))
  have h_q21 : PP G (wirW G a 21 (fun _ => nI 0) (fun _ => nI 0) (fun _ => nI 0)) H := kp hk14 h_q21 (dj_one ha (wirW_in (G := G) (a := a) (i := 21) (mk := fun _ => nI 0) (bs := fun _ => nI 0) (ld := fun _ => nI 0)) (by omega))
  have hZ := hz9.trans hZ
  refine lv_aload_n hx hb dX11_init_58 rfl (lv_at hl 0 rfl) ?_
  refine pp_new (a := a) (b0 := b0) (ci := 7) (fs := [.null, .int (nI 0)]) (C := RX7) (T := TX7) (N := 2) hx hb hts inX11_init_7 tyX7 tyX7_ok hown (hts (.classLink RX11 41 RX7) (List.mem_of_getElem? (i := 19) (by decide +kernel))) (hts (.instantiable RX7 2) (List.mem_of_getElem? (i := 20) (by decide +kernel))) (hts (.initialized RX7) (List.mem_of_getElem? (i := 21) (by decide +kernel))) hK rfl (fun j hj => by rcases (show j = 0 ∨ j = 1 by omega) with rfl | rfl <;> rfl) hab hZ (j1 := 29) (by omega) hS (Nat.le_of_ble_eq_true rfl) (Nat.le_of_ble_eq_true rfl) dX11_init_59 (fun H hP9 hk15 hZ hS => ?_)
  have h_q28 : PP G ([(a 28, .inr (7, [.null, .int (nI 0)]))]) H := hP9
  have h_o : PP G ([(a 0, .inr (11, [.ref (a 1), .ref (a 2), .ref (a 4), .ref (a 6), .ref (a 21), .null, .null, .null, .null, .null, .null, .null]))]) H := kpF hk15 h_o
  have h_q1 : PP G ([(a 1, .inl (gQ G, 4, .inr (.inr (.inr (.inr (fun _ => none))))))]) H := kpF hk15 h_q1
  have h_q2 : PP G (rowW G a 2 4 (fun _ => nI 0)) H := kpF hk15 h_q2
  have h_q4 : PP G (rowW G a 4 4 (fun _ => nI 0)) H := kpF hk15 h_q4
  have h_q6 : PP G (makI G a 6) H := kpF hk15 h_q6
  have h_q21 : PP G (wirW G a 21 (fun _ => nI 0) (fun _ => nI 0) (fun _ => nI 0)) H := kpF hk15 h_q21
  refine lv_dup hx hb dX11_init_62 rfl ?_
  refine wr_v (va_runIN (As := []) (rest := [.ref (a 28), .ref (a 0)]) FX (c_X7_init l G a b0 hab 28) ⟨va_cnB 0 hts gX11_init_X7_init_n43 rfl rfl rfl (hNI.2.2.1) (hts (.initialized RX7) (List.mem_of_getElem? (i := 21) (by decide +kernel))) (by decide +kernel) ⟨Nat.le_of_ble_eq_true rfl, Nat.le_of_ble_eq_true rfl⟩, rfl, (hts (.instanceMethod yX7_init) (List.mem_of_getElem? (i := 72) (by decide +kernel)))⟩ (preS hK hNW ⟨hZ, h_q28⟩) rfl rfl hl.1 rfl (lv_room (Nat.le_of_ble_eq_true rfl)) dX11_init_63 ⟨Nat.le_of_ble_eq_true rfl, Nat.le_of_ble_eq_true rfl⟩) hS (rng_sub (by omega)) (fun _ H locs _ hP9 hk16 hS => ?_)
  have hZ := hP9.1
  have h_q28 : PP G (timW G a 28 (nI 0) (fun _ => nI 0)) H := hP9.2
  have h_o : PP G ([(a 0, .inr (11, [.ref (a 1), .ref (a 2), .ref (a 4), .ref (a 6), .ref (a 21), .null, .null, .null, .null, .null, .null, .null]))]) H := kp hk16 h_o (dj_cons (rng_no ha (by omega)) (dj_nil))
  have h_q1 : PP G ([(a 1, .inl (gQ G, 4, .inr (.inr (.inr (.inr (fun _ => none))))))]) H := kp hk16 h_q1 (dj_cons (rng_no ha (by omega)) (dj_nil))
  have h_q2 : PP G (rowW G a 2 4 (fun _ => nI 0)) H := kp hk16 h_q2 (dj_cons (rng_no ha (by omega)) (dj_cons (rng_no ha (by omega)) (dj_nil)))
  have h_q4 : PP G (rowW G a 4 4 (fun _ => nI 0)) H := kp hk16 h_q4 (dj_cons (rng_no ha (by omega)) (dj_cons (rng_no ha (by omega)) (dj_nil)))
  have h_q6 : PP G (makI G a 6) H := kp hk16 h_q6 (dj_rng ha (makI_in (G := G) (a := a) (i := 6)) (by omega))
  have h_q21 : PP G (wirW G a 21 (fun _ => nI 0) (fun _ => nI 0) (fun _ => nI 0)) H := kp hk16 h_q21 (dj_rng ha (wirW_in (G := G) (a := a) (i := 21) (mk := fun _ => nI 0) (bs := fun _ => nI 0) (ld := fun _ => nI 0)) (by omega))
  refine pp_putF (ci := 11) (v := .ref (a 28)) (ty := .object "GateLedger$Timing") (C := RX11) (T := TX11) (N := 12) hx hb hts inX11_init_11 tyX11 tyX11_ok nmX11 hown hK h_o hS (rng_in (by omega)) rfl 5 (by decide) (hts (.fieldLink RX11 44 "GateLedger" "timing" "LGateLedger$Timing;") (List.mem_of_getElem? (i := 22) (by decide +kernel))) (fun _ h9 => h9) rfl hin9 rfl (by decide +kernel) rfl rfl (Nat.le_of_ble_eq_true rfl) dX11_init_66 (fun H locs hP9 hk17 hz9 hS => ?_)
  have h_o : PP G ([(a 0, .inr (11, [.ref (a 1), .ref (a 2), .ref (a 4), .ref (a 6), .ref (a 21), .ref (a 28), .null, .null, .null, .null, .null, .null]))]) H := hP9
  have h_q1 : PP G ([(a 1, .inl (gQ G, 4, .inr (.inr (.inr (.inr (fun _ => none))))))]) H := kp hk17 h_q1 (dj_cons (ne_a ha (by omega)) (dj_nil))
  have h_q2 : PP G (rowW G a 2 4 (fun _ => nI 0)) H := kp hk17 h_q2 (dj_cons (ne_a ha (by omega)) (dj_cons (ne_a ha (by omega)) (dj_nil)))
  have h_q4 : PP G (rowW G a 4 4 (fun _ => nI 0)) H := kp hk17 h_q4 (dj_cons (ne_a ha (by omega)) (dj_cons (ne_a ha (by omega)) (dj_nil)))
  have h_q6 : PP G (makI G a 6) H := kp hk17 h_q6 (dj_one ha (makI_in (G := G) (a := a) (i := 6)) (by omega))
  have h_q21 : PP G (wirW G a 21 (fun _ => nI 0) (fun _ => nI 0) (fun _ => nI 0)) H := kp hk17 h_q21 (dj_one ha (wirW_in (G := G) (a := a) (i := 21) (mk := fun _ => nI 0) (bs := fun _ => nI 0) (ld := fun _ => nI 0)) (by omega))
  have h_q28 : PP G (timW G a 28 (nI 0) (fun _ => nI 0)) H := kp hk17 h_q28 (dj_one ha (timW_in (G := G) (a := a) (i := 28) (x := nI 0) (f := fun _ => nI 0)) (by omega))
  have hZ := hz9.trans hZ
  refine lv_aload_n hx hb dX11_init_69 rfl (lv_at hl 0 rfl) ?_
  refine pp_new (a := a) (b0 := b0) (ci := 1) (fs := [.null, .null]) (C := RX1) (T := TX1) (N := 2) hx hb hts inX11_init_1 tyX1 tyX1_ok hown (hts (.classLink RX11 48 RX1) (List.mem_of_getElem? (i := 23) (by decide +kernel))) (hts (.instantiable RX1 2) (List.mem_of_getElem? (i := 24) (by decide +kernel))) (hts (.initialized RX1) (List.mem_of_getElem? (i := 25) (by decide +kernel))) hK rfl (fun j hj => by rcases (show j = 0 ∨ j = 1 by omega) with rfl | rfl <;> rfl) hab hZ (j1 := 32) (by omega) hS (Nat.le_of_ble_eq_true rfl) (Nat.le_of_ble_eq_true rfl) dX11_init_70 (fun H hP9 hk18 hZ hS => ?_)
  have h_q31 : PP G ([(a 31, .inr (1, [.null, .null]))]) H := hP9
  have h_o : PP G ([(a 0, .inr (11, [.ref (a 1), .ref (a 2), .ref (a 4), .ref (a 6), .ref (a 21), .ref (a 28), .null, .null, .null, .null, .null, .null]))]) H := kpF hk18 h_o
  have h_q1 : PP G ([(a 1, .inl (gQ G, 4, .inr (.inr (.inr (.inr (fun _ => none))))))]) H := kpF hk18 h_q1
  have h_q2 : PP G (rowW G a 2 4 (fun _ => nI 0)) H := kpF hk18 h_q2
  have h_q4 : PP G (rowW G a 4 4 (fun _ => nI 0)) H := kpF hk18 h_q4
  have h_q6 : PP G (makI G a 6) H := kpF hk18 h_q6
  have h_q21 : PP G (wirW G a 21 (fun _ => nI 0) (fun _ => nI 0) (fun _ => nI 0)) H := kpF hk18 h_q21
  have h_q28 : PP G (timW G a 28 (nI 0) (fun _ => nI 0)) H := kpF hk18 h_q28
  refine lv_dup hx hb dX11_init_73 rfl ?_
  refine wr_v (va_runIN (As := []) (rest := [.ref (a 31), .ref (a 0)]) FX (c_X1_init l G a b0 hab 31) ⟨va_cnB 0 hts gX11_init_X1_init_n50 rfl rfl rfl (hNI.2.2.2.1) (hts (.initialized RX1) (List.mem_of_getElem? (i := 25) (by decide +kernel))) (by decide +kernel) ⟨Nat.le_of_ble_eq_true rfl, Nat.le_of_ble_eq_true rfl⟩, rfl, (hts (.instanceMethod yX1_init) (List.mem_of_getElem? (i := 78) (by decide +kernel)))⟩ (preS hK hNW ⟨hZ, h_q31⟩) rfl rfl hl.1 rfl (lv_room (Nat.le_of_ble_eq_true rfl)) dX11_init_74 ⟨Nat.le_of_ble_eq_true rfl, Nat.le_of_ble_eq_true rfl⟩) hS (rng_sub (by omega)) (fun _ H locs _ hP9 hk19 hS => ?_)
  have hZ := hP9.1
  have h_q31 : PP G (lanW G a 31 (fun _ => 0) (fun _ => 0)) H := hP9.2
  have h_o : PP G ([(a 0, .inr (11, [.ref (a 1), .ref (a 2), .ref (a 4), .ref (a 6), .ref (a 21), .ref (a 28), .null, .null, .null, .null, .null, .null]))]) H := kp hk19 h_o (dj_cons (rng_no ha (by omega)) (dj_nil))
  have h_q1 : PP G ([(a 1, .inl (gQ G, 4, .inr (.inr (.inr (.inr (fun _ => none))))))]) H := kp hk19 h_q1 (dj_cons (rng_no ha (by omega)) (dj_nil))
  have h_q2 : PP G (rowW G a 2 4 (fun _ => nI 0)) H := kp hk19 h_q2 (dj_cons (rng_no ha (by omega)) (dj_cons (rng_no ha (by omega)) (dj_nil)))
  have h_q4 : PP G (rowW G a 4 4 (fun _ => nI 0)) H := kp hk19 h_q4 (dj_cons (rng_no ha (by omega)) (dj_cons (rng_no ha (by omega)) (dj_nil)))
  have h_q6 : PP G (makI G a 6) H := kp hk19 h_q6 (dj_rng ha (makI_in (G := G) (a := a) (i := 6)) (by omega))
  have h_q21 : PP G (wirW G a 21 (fun _ => nI 0) (fun _ => nI 0) (fun _ => nI 0)) H := kp hk19 h_q21 (dj_rng ha (wirW_in (G := G) (a := a) (i := 21) (mk := fun _ => nI 0) (bs := fun _ => nI 0) (ld := fun _ => nI 0)) (by omega))
  have h_q28 : PP G (timW G a 28 (nI 0) (fun _ => nI 0)) H := kp hk19 h_q28 (dj_rng ha (timW_in (G := G) (a := a) (i := 28) (x := nI 0) (f := fun _ => nI 0)) (by omega))
  refine pp_putF (ci := 11) (v := .ref (a 31)) (ty := .object "GateLedger$Lanes") (C := RX11) (T := TX11) (N := 12) hx hb hts inX11_init_11 tyX11 tyX11_ok nmX11 hown hK h_o hS (rng_in (by omega)) rfl 6 (by decide) (hts (.fieldLink RX11 51 "GateLedger" "lanes" "LGateLedger$Lanes;") (List.mem_of_getElem? (i := 26) (by decide +kernel))) (fun _ h9 => h9) rfl hin9 rfl (by decide +kernel) rfl rfl (Nat.le_of_ble_eq_true rfl) dX11_init_77 (fun H locs hP9 hk20 hz9 hS => ?_)
  have h_o : PP G ([(a 0, .inr (11, [.ref (a 1), .ref (a 2), .ref (a 4), .ref (a 6), .ref (a 21), .ref (a 28), .ref (a 31), .null, .null, .null, .null, .null]))]) H := hP9
  have h_q1 : PP G ([(a 1, .inl (gQ G, 4, .inr (.inr (.inr (.inr (fun _ => none))))))]) H := kp hk20 h_q1 (dj_cons (ne_a ha (by omega)) (dj_nil))
  have h_q2 : PP G (rowW G a 2 4 (fun _ => nI 0)) H := kp hk20 h_q2 (dj_cons (ne_a ha (by omega)) (dj_cons (ne_a ha (by omega)) (dj_nil)))
  have h_q4 : PP G (rowW G a 4 4 (fun _ => nI 0)) H := kp hk20 h_q4 (dj_cons (ne_a ha (by omega)) (dj_cons (ne_a ha (by omega)) (dj_nil)))
  have h_q6 : PP G (makI G a 6) H := kp hk20 h_q6 (dj_one ha (makI_in (G := G) (a := a) (i := 6)) (by omega))
  have h_q21 : PP G (wirW G a 21 (fun _ => nI 0) (fun _ => nI 0) (fun _ => nI 0)) H := kp hk20 h_q21 (dj_one ha (wirW_in (G := G) (a := a) (i := 21) (mk := fun _ => nI 0) (bs := fun _ => nI 0) (ld := fun _ => nI 0)) (by omega))
  have h_q28 : PP G (timW G a 28 (nI 0) (fun _ => nI 0)) H := kp hk20 h_q28 (dj_one ha (timW_in (G := G) (a := a) (i := 28) (x := nI 0) (f := fun _ => nI 0)) (by omega))
  have h_q31 : PP G (lanW G a 31 (fun _ => 0) (fun _ => 0)) H := kp hk20 h_q31 (dj_one ha (lanW_in (G := G) (a := a) (i := 31) (w := fun _ => 0) (o := fun _ => 0)) (by omega))
  have hZ := hz9.trans hZ
  refine lv_aload_n hx hb dX11_init_80 rfl (lv_at hl 0 rfl) ?_
  refine pp_new (a := a) (b0 := b0) (ci := 1) (fs := [.null, .null]) (C := RX1) (T := TX1) (N := 2) hx hb hts inX11_init_1 tyX1 tyX1_ok hown (hts (.classLink RX11 48 RX1) (List.mem_of_getElem? (i := 23) (by decide +kernel))) (hts (.instantiable RX1 2) (List.mem_of_getElem? (i := 24) (by decide +kernel))) (hts (.initialized RX1) (List.mem_of_getElem? (i := 25) (by decide +kernel))) hK rfl (fun j hj => by rcases (show j = 0 ∨ j = 1 by omega) with rfl | rfl <;> rfl) hab hZ (j1 := 37) (by omega) hS (Nat.le_of_ble_eq_true rfl) (Nat.le_of_ble_eq_true rfl) dX11_init_81 (fun H hP9 hk21 hZ hS => ?_)
  have h_q36 : PP G ([(a 36, .inr (1, [.null, .null]))]) H := hP9
  have h_o : PP G ([(a 0, .inr (11, [.ref (a 1), .ref (a 2), .ref (a 4), .ref (a 6), .ref (a 21), .ref (a 28), .ref (a 31), .null, .null, .null, .null, .null]))]) H := kpF hk21 h_o
  have h_q1 : PP G ([(a 1, .inl (gQ G, 4, .inr (.inr (.inr (.inr (fun _ => none))))))]) H := kpF hk21 h_q1
  have h_q2 : PP G (rowW G a 2 4 (fun _ => nI 0)) H := kpF hk21 h_q2
  have h_q4 : PP G (rowW G a 4 4 (fun _ => nI 0)) H := kpF hk21 h_q4
  have h_q6 : PP G (makI G a 6) H := kpF hk21 h_q6
  have h_q21 : PP G (wirW G a 21 (fun _ => nI 0) (fun _ => nI 0) (fun _ => nI 0)) H := kpF hk21 h_q21
  have h_q28 : PP G (timW G a 28 (nI 0) (fun _ => nI 0)) H := kpF hk21 h_q28
  have h_q31 : PP G (lanW G a 31 (fun _ => 0) (fun _ => 0)) H := kpF hk21 h_q31
  refine lv_dup hx hb dX11_init_84 rfl ?_
  refine wr_v (va_runIN (As := []) (rest := [.ref (a 36), .ref (a 0)]) FX (c_X1_init l G a b0 hab 36) ⟨va_cnB 0 hts gX11_init_X1_init_n50 rfl rfl rfl (hNI.2.2.2.1) (hts (.initialized RX1) (List.mem_of_getElem? (i := 25) (by decide +kernel))) (by decide +kernel) ⟨Nat.le_of_ble_eq_true rfl, Nat.le_of_ble_eq_true rfl⟩, rfl, (hts (.instanceMethod yX1_init) (List.mem_of_getElem? (i := 78) (by decide +kernel)))⟩ (preS hK hNW ⟨hZ, h_q36⟩) rfl rfl hl.1 rfl (lv_room (Nat.le_of_ble_eq_true rfl)) dX11_init_85 ⟨Nat.le_of_ble_eq_true rfl, Nat.le_of_ble_eq_true rfl⟩) hS (rng_sub (by omega)) (fun _ H locs _ hP9 hk22 hS => ?_)
  have hZ := hP9.1
  have h_q36 : PP G (lanW G a 36 (fun _ => 0) (fun _ => 0)) H := hP9.2
  have h_o : PP G ([(a 0, .inr (11, [.ref (a 1), .ref (a 2), .ref (a 4), .ref (a 6), .ref (a 21), .ref (a 28), .ref (a 31), .null, .null, .null, .null, .null]))]) H := kp hk22 h_o (dj_cons (rng_no ha (by omega)) (dj_nil))
  have h_q1 : PP G ([(a 1, .inl (gQ G, 4, .inr (.inr (.inr (.inr (fun _ => none))))))]) H := kp hk22 h_q1 (dj_cons (rng_no ha (by omega)) (dj_nil))
  have h_q2 : PP G (rowW G a 2 4 (fun _ => nI 0)) H := kp hk22 h_q2 (dj_cons (rng_no ha (by omega)) (dj_cons (rng_no ha (by omega)) (dj_nil)))
  have h_q4 : PP G (rowW G a 4 4 (fun _ => nI 0)) H := kp hk22 h_q4 (dj_cons (rng_no ha (by omega)) (dj_cons (rng_no ha (by omega)) (dj_nil)))
  have h_q6 : PP G (makI G a 6) H := kp hk22 h_q6 (dj_rng ha (makI_in (G := G) (a := a) (i := 6)) (by omega))
  have h_q21 : PP G (wirW G a 21 (fun _ => nI 0) (fun _ => nI 0) (fun _ => nI 0)) H := kp hk22 h_q21 (dj_rng ha (wirW_in (G := G) (a := a) (i := 21) (mk := fun _ => nI 0) (bs := fun _ => nI 0) (ld := fun _ => nI 0)) (by omega))
  have h_q28 : PP G (timW G a 28 (nI 0) (fun _ => nI 0)) H := kp hk22 h_q28 (dj_rng ha (timW_in (G := G) (a := a) (i := 28) (x := nI 0) (f := fun _ => nI 0)) (by omega))
  have h_q31 : PP G (lanW G a 31 (fun _ => 0) (fun _ => 0)) H := kp hk22 h_q31 (dj_rng ha (lanW_in (G := G) (a := a) (i := 31) (w := fun _ => 0) (o := fun _ => 0)) (by omega))
  refine pp_putF (ci := 11) (v := .ref (a 36)) (ty := .object "GateLedger$Lanes") (C := RX11) (T := TX11) (N := 12) hx hb hts inX11_init_11 tyX11 tyX11_ok nmX11 hown hK h_o hS (rng_in (by omega)) rfl 7 (by decide) (hts (.fieldLink RX11 55 "GateLedger" "otherLanes" "LGateLedger$Lanes;") (List.mem_of_getElem? (i := 27) (by decide +kernel))) (fun _ h9 => h9) rfl hin9 rfl (by decide +kernel) rfl rfl (Nat.le_of_ble_eq_true rfl) dX11_init_88 (fun H locs hP9 hk23 hz9 hS => ?_)
  have h_o : PP G ([(a 0, .inr (11, [.ref (a 1), .ref (a 2), .ref (a 4), .ref (a 6), .ref (a 21), .ref (a 28), .ref (a 31), .ref (a 36), .null, .null, .null, .null]))]) H := hP9
  have h_q1 : PP G ([(a 1, .inl (gQ G, 4, .inr (.inr (.inr (.inr (fun _ => none))))))]) H := kp hk23 h_q1 (dj_cons (ne_a ha (by omega)) (dj_nil))
  have h_q2 : PP G (rowW G a 2 4 (fun _ => nI 0)) H := kp hk23 h_q2 (dj_cons (ne_a ha (by omega)) (dj_cons (ne_a ha (by omega)) (dj_nil)))
  have h_q4 : PP G (rowW G a 4 4 (fun _ => nI 0)) H := kp hk23 h_q4 (dj_cons (ne_a ha (by omega)) (dj_cons (ne_a ha (by omega)) (dj_nil)))
  have h_q6 : PP G (makI G a 6) H := kp hk23 h_q6 (dj_one ha (makI_in (G := G) (a := a) (i := 6)) (by omega))
  have h_q21 : PP G (wirW G a 21 (fun _ => nI 0) (fun _ => nI 0) (fun _ => nI 0)) H := kp hk23 h_q21 (dj_one ha (wirW_in (G := G) (a := a) (i := 21) (mk := fun _ => nI 0) (bs := fun _ => nI 0) (ld := fun _ => nI 0)) (by omega))
  have h_q28 : PP G (timW G a 28 (nI 0) (fun _ => nI 0)) H := kp hk23 h_q28 (dj_one ha (timW_in (G := G) (a := a) (i := 28) (x := nI 0) (f := fun _ => nI 0)) (by omega))
  have h_q31 : PP G (lanW G a 31 (fun _ => 0) (fun _ => 0)) H := kp hk23 h_q31 (dj_one ha (lanW_in (G := G) (a := a) (i := 31) (w := fun _ => 0) (o := fun _ => 0)) (by omega))
  have h_q36 : PP G (lanW G a 36 (fun _ => 0) (fun _ => 0)) H := kp hk23 h_q36 (dj_one ha (lanW_in (G := G) (a := a) (i := 36) (w := fun _ => 0) (o := fun _ => 0)) (by omega))
  have hZ := hz9.trans hZ
  refine lv_aload_n hx hb dX11_init_91 rfl (lv_at hl 0 rfl) ?_
  refine pp_new (a := a) (b0 := b0) (ci := 5) (fs := [.int (nI 0), .int (nI 0), .int (nI 0)]) (C := RX5) (T := TX5) (N := 3) hx hb hts inX11_init_5 tyX5 tyX5_ok hown (hts (.classLink RX11 58 RX5) (List.mem_of_getElem? (i := 28) (by decide +kernel))) (hts (.instantiable RX5 3) (List.mem_of_getElem? (i := 29) (by decide +kernel))) (hts (.initialized RX5) (List.mem_of_getElem? (i := 30) (by decide +kernel))) hK rfl (fun j hj => by rcases (show j = 0 ∨ j = 1 ∨ j = 2 by omega) with rfl | rfl | rfl <;> rfl) hab hZ (j1 := 42) (by omega) hS (Nat.le_of_ble_eq_true rfl) (Nat.le_of_ble_eq_true rfl) dX11_init_92 (fun H hP9 hk24 hZ hS => ?_)
  have h_q41 : PP G ([(a 41, .inr (5, [.int (nI 0), .int (nI 0), .int (nI 0)]))]) H := hP9
  have h_o : PP G ([(a 0, .inr (11, [.ref (a 1), .ref (a 2), .ref (a 4), .ref (a 6), .ref (a 21), .ref (a 28), .ref (a 31), .ref (a 36), .null, .null, .null, .null]))]) H := kpF hk24 h_o
  have h_q1 : PP G ([(a 1, .inl (gQ G, 4, .inr (.inr (.inr (.inr (fun _ => none))))))]) H := kpF hk24 h_q1
  have h_q2 : PP G (rowW G a 2 4 (fun _ => nI 0)) H := kpF hk24 h_q2
  have h_q4 : PP G (rowW G a 4 4 (fun _ => nI 0)) H := kpF hk24 h_q4
  have h_q6 : PP G (makI G a 6) H := kpF hk24 h_q6
  have h_q21 : PP G (wirW G a 21 (fun _ => nI 0) (fun _ => nI 0) (fun _ => nI 0)) H := kpF hk24 h_q21
  have h_q28 : PP G (timW G a 28 (nI 0) (fun _ => nI 0)) H := kpF hk24 h_q28
  have h_q31 : PP G (lanW G a 31 (fun _ => 0) (fun _ => 0)) H := kpF hk24 h_q31
  have h_q36 : PP G (lanW G a 36 (fun _ => 0) (fun _ => 0)) H := kpF hk24 h_q36
  refine lv_dup hx hb dX11_init_95 rfl ?_
  refine wr_v (va_runIN (As := []) (rest := [.ref (a 41), .ref (a 0)]) FX (c_X5_init l G a b0 hab 41) ⟨va_cnB 0 hts gX11_init_X5_init_n60 rfl rfl rfl (hNI.2.2.2.2.1) (hts (.initialized RX5) (List.mem_of_getElem? (i := 30) (by decide +kernel))) (by decide +kernel) ⟨Nat.le_of_ble_eq_true rfl, Nat.le_of_ble_eq_true rfl⟩, rfl, (hts (.instanceMethod yX5_init) (List.mem_of_getElem? (i := 92) (by decide +kernel)))⟩ (preS hK hNW ⟨hZ, h_q41⟩) rfl rfl hl.1 rfl (lv_room (Nat.le_of_ble_eq_true rfl)) dX11_init_96 ⟨Nat.le_of_ble_eq_true rfl, Nat.le_of_ble_eq_true rfl⟩) hS (rng_sub (by omega)) (fun _ H locs _ hP9 hk25 hS => ?_)
  have hZ := hP9.1
  have h_q41 : PP G (talW a 41 0 0 0) H := hP9.2
  have h_o : PP G ([(a 0, .inr (11, [.ref (a 1), .ref (a 2), .ref (a 4), .ref (a 6), .ref (a 21), .ref (a 28), .ref (a 31), .ref (a 36), .null, .null, .null, .null]))]) H := kp hk25 h_o (dj_cons (rng_no ha (by omega)) (dj_nil))
  have h_q1 : PP G ([(a 1, .inl (gQ G, 4, .inr (.inr (.inr (.inr (fun _ => none))))))]) H := kp hk25 h_q1 (dj_cons (rng_no ha (by omega)) (dj_nil))
  have h_q2 : PP G (rowW G a 2 4 (fun _ => nI 0)) H := kp hk25 h_q2 (dj_cons (rng_no ha (by omega)) (dj_cons (rng_no ha (by omega)) (dj_nil)))
  have h_q4 : PP G (rowW G a 4 4 (fun _ => nI 0)) H := kp hk25 h_q4 (dj_cons (rng_no ha (by omega)) (dj_cons (rng_no ha (by omega)) (dj_nil)))
  have h_q6 : PP G (makI G a 6) H := kp hk25 h_q6 (dj_rng ha (makI_in (G := G) (a := a) (i := 6)) (by omega))
  have h_q21 : PP G (wirW G a 21 (fun _ => nI 0) (fun _ => nI 0) (fun _ => nI 0)) H := kp hk25 h_q21 (dj_rng ha (wirW_in (G := G) (a := a) (i := 21) (mk := fun _ => nI 0) (bs := fun _ => nI 0) (ld := fun _ => nI 0)) (by omega))
  have h_q28 : PP G (timW G a 28 (nI 0) (fun _ => nI 0)) H := kp hk25 h_q28 (dj_rng ha (timW_in (G := G) (a := a) (i := 28) (x := nI 0) (f := fun _ => nI 0)) (by omega))
  have h_q31 : PP G (lanW G a 31 (fun _ => 0) (fun _ => 0)) H := kp hk25 h_q31 (dj_rng ha (lanW_in (G := G) (a := a) (i := 31) (w := fun _ => 0) (o := fun _ => 0)) (by omega))
  have h_q36 : PP G (lanW G a 36 (fun _ => 0) (fun _ => 0)) H := kp hk25 h_q36 (dj_rng ha (lanW_in (G := G) (a := a) (i := 36) (w := fun _ => 0) (o := fun _ => 0)) (by omega))
  refine pp_putF (ci := 11) (v := .ref (a 41)) (ty := .object "GateLedger$Tally") (C := RX11) (T := TX11) (N := 12) hx hb hts inX11_init_11 tyX11 tyX11_ok nmX11 hown hK h_o hS (rng_in (by omega)) rfl 8 (by decide) (hts (.fieldLink RX11 61 "GateLedger" "tally" "LGateLedger$Tally;") (List.mem_of_getElem? (i := 31) (by decide +kernel))) (fun _ h9 => h9) rfl hin9 rfl (by decide +kernel) rfl rfl (Nat.le_of_ble_eq_true rfl) dX11_init_99 (fun H locs hP9 hk26 hz9 hS => ?_)
  have h_o : PP G ([(a 0, .inr (11, [.ref (a 1), .ref (a 2), .ref (a 4), .ref (a 6), .ref (a 21), .ref (a 28), .ref (a 31), .ref (a 36), .ref (a 41), .null, .null, .null]))]) H := hP9
  have h_q1 : PP G ([(a 1, .inl (gQ G, 4, .inr (.inr (.inr (.inr (fun _ => none))))))]) H := kp hk26 h_q1 (dj_cons (ne_a ha (by omega)) (dj_nil))
  have h_q2 : PP G (rowW G a 2 4 (fun _ => nI 0)) H := kp hk26 h_q2 (dj_cons (ne_a ha (by omega)) (dj_cons (ne_a ha (by omega)) (dj_nil)))
  have h_q4 : PP G (rowW G a 4 4 (fun _ => nI 0)) H := kp hk26 h_q4 (dj_cons (ne_a ha (by omega)) (dj_cons (ne_a ha (by omega)) (dj_nil)))
  have h_q6 : PP G (makI G a 6) H := kp hk26 h_q6 (dj_one ha (makI_in (G := G) (a := a) (i := 6)) (by omega))
  have h_q21 : PP G (wirW G a 21 (fun _ => nI 0) (fun _ => nI 0) (fun _ => nI 0)) H := kp hk26 h_q21 (dj_one ha (wirW_in (G := G) (a := a) (i := 21) (mk := fun _ => nI 0) (bs := fun _ => nI 0) (ld := fun _ => nI 0)) (by omega))
  have h_q28 : PP G (timW G a 28 (nI 0) (fun _ => nI 0)) H := kp hk26 h_q28 (dj_one ha (timW_in (G := G) (a := a) (i := 28) (x := nI 0) (f := fun _ => nI 0)) (by omega))
  have h_q31 : PP G (lanW G a 31 (fun _ => 0) (fun _ => 0)) H := kp hk26 h_q31 (dj_one ha (lanW_in (G := G) (a := a) (i := 31) (w := fun _ => 0) (o := fun _ => 0)) (by omega))
  have h_q36 : PP G (lanW G a 36 (fun _ => 0) (fun _ => 0)) H := kp hk26 h_q36 (dj_one ha (lanW_in (G := G) (a := a) (i := 36) (w := fun _ => 0) (o := fun _ => 0)) (by omega))
  have h_q41 : PP G (talW a 41 0 0 0) H := kp hk26 h_q41 (dj_one ha (talW_in (a := a) (i := 41) (x := 0) (y := 0) (z := 0)) (by omega))
  have hZ := hz9.trans hZ
  refine lv_aload_n hx hb dX11_init_102 rfl (lv_at hl 0 rfl) ?_
  refine pp_new (a := a) (b0 := b0) (ci := 8) (fs := [.null, .int (nI 0)]) (C := RX8) (T := TX8) (N := 2) hx hb hts inX11_init_8 tyX8 tyX8_ok hown (hts (.classLink RX11 65 RX8) (List.mem_of_getElem? (i := 32) (by decide +kernel))) (hts (.instantiable RX8 2) (List.mem_of_getElem? (i := 33) (by decide +kernel))) (hts (.initialized RX8) (List.mem_of_getElem? (i := 34) (by decide +kernel))) hK rfl (fun j hj => by rcases (show j = 0 ∨ j = 1 by omega) with rfl | rfl <;> rfl) hab hZ (j1 := 43) (by omega) hS (Nat.le_of_ble_eq_true rfl) (Nat.le_of_ble_eq_true rfl) dX11_init_103 (fun H hP9 hk27 hZ hS => ?_)
  have h_q42 : PP G ([(a 42, .inr (8, [.null, .int (nI 0)]))]) H := hP9
  have h_o : PP G ([(a 0, .inr (11, [.ref (a 1), .ref (a 2), .ref (a 4), .ref (a 6), .ref (a 21), .ref (a 28), .ref (a 31), .ref (a 36), .ref (a 41), .null, .null, .null]))]) H := kpF hk27 h_o
  have h_q1 : PP G ([(a 1, .inl (gQ G, 4, .inr (.inr (.inr (.inr (fun _ => none))))))]) H := kpF hk27 h_q1
  have h_q2 : PP G (rowW G a 2 4 (fun _ => nI 0)) H := kpF hk27 h_q2
  have h_q4 : PP G (rowW G a 4 4 (fun _ => nI 0)) H := kpF hk27 h_q4
  have h_q6 : PP G (makI G a 6) H := kpF hk27 h_q6
  have h_q21 : PP G (wirW G a 21 (fun _ => nI 0) (fun _ => nI 0) (fun _ => nI 0)) H := kpF hk27 h_q21
  have h_q28 : PP G (timW G a 28 (nI 0) (fun _ => nI 0)) H := kpF hk27 h_q28
  have h_q31 : PP G (lanW G a 31 (fun _ => 0) (fun _ => 0)) H := kpF hk27 h_q31
  have h_q36 : PP G (lanW G a 36 (fun _ => 0) (fun _ => 0)) H := kpF hk27 h_q36
  have h_q41 : PP G (talW a 41 0 0 0) H := kpF hk27 h_q41
  refine lv_dup hx hb dX11_init_106 rfl ?_
  refine wr_v (va_runIN (As := []) (rest := [.ref (a 42), .ref (a 0)]) FX (c_X8_init l G a b0 hab 42) ⟨va_cnB 0 hts gX11_init_X8_init_n67 rfl rfl rfl (hNI.2.2.2.2.2.1) (hts (.initialized RX8) (List.mem_of_getElem? (i := 34) (by decide +kernel))) (by decide +kernel) ⟨Nat.le_of_ble_eq_true rfl, Nat.le_of_ble_eq_true rfl⟩, rfl, (hts (.instanceMethod yX8_init) (List.mem_of_getElem? (i := 95) (by decide +kernel)))⟩ (preS hK hNW ⟨hZ, h_q42⟩) rfl rfl hl.1 rfl (lv_room (Nat.le_of_ble_eq_true rfl)) dX11_init_107 ⟨Nat.le_of_ble_eq_true rfl, Nat.le_of_ble_eq_true rfl⟩) hS (rng_sub (by omega)) (fun _ H locs _ hP9 hk28 hS => ?_)
  have hZ := hP9.1
  have h_q42 : PP G (wavW G a 42 (nI 0) (fun _ => 0)) H := hP9.2
  have h_o : PP G ([(a 0, .inr (11, [.ref (a 1), .ref (a 2), .ref (a 4), .ref (a 6), .ref (a 21), .ref (a 28), .ref (a 31), .ref (a 36), .ref (a 41), .null, .null, .null]))]) H := kp hk28 h_o (dj_cons (rng_no ha (by omega)) (dj_nil))
  have h_q1 : PP G ([(a 1, .inl (gQ G, 4, .inr (.inr (.inr (.inr (fun _ => none))))))]) H := kp hk28 h_q1 (dj_cons (rng_no ha (by omega)) (dj_nil))
  have h_q2 : PP G (rowW G a 2 4 (fun _ => nI 0)) H := kp hk28 h_q2 (dj_cons (rng_no ha (by omega)) (dj_cons (rng_no ha (by omega)) (dj_nil)))
  have h_q4 : PP G (rowW G a 4 4 (fun _ => nI 0)) H := kp hk28 h_q4 (dj_cons (rng_no ha (by omega)) (dj_cons (rng_no ha (by omega)) (dj_nil)))
  have h_q6 : PP G (makI G a 6) H := kp hk28 h_q6 (dj_rng ha (makI_in (G := G) (a := a) (i := 6)) (by omega))
  have h_q21 : PP G (wirW G a 21 (fun _ => nI 0) (fun _ => nI 0) (fun _ => nI 0)) H := kp hk28 h_q21 (dj_rng ha (wirW_in (G := G) (a := a) (i := 21) (mk := fun _ => nI 0) (bs := fun _ => nI 0) (ld := fun _ => nI 0)) (by omega))
  have h_q28 : PP G (timW G a 28 (nI 0) (fun _ => nI 0)) H := kp hk28 h_q28 (dj_rng ha (timW_in (G := G) (a := a) (i := 28) (x := nI 0) (f := fun _ => nI 0)) (by omega))
  have h_q31 : PP G (lanW G a 31 (fun _ => 0) (fun _ => 0)) H := kp hk28 h_q31 (dj_rng ha (lanW_in (G := G) (a := a) (i := 31) (w := fun _ => 0) (o := fun _ => 0)) (by omega))
  have h_q36 : PP G (lanW G a 36 (fun _ => 0) (fun _ => 0)) H := kp hk28 h_q36 (dj_rng ha (lanW_in (G := G) (a := a) (i := 36) (w := fun _ => 0) (o := fun _ => 0)) (by omega))
  have h_q41 : PP G (talW a 41 0 0 0) H := kp hk28 h_q41 (dj_rng ha (talW_in (a := a) (i := 41) (x := 0) (y := 0) (z := 0)) (by omega))
  refine pp_putF (ci := 11) (v := .ref (a 42)) (ty := .object "GateLedger$Waves") (C := RX11) (T := TX11) (N := 12) hx hb hts inX11_init_11 tyX11 tyX11_ok nmX11 hown hK h_o hS (rng_in (by omega)) rfl 9 (by decide) (hts (.fieldLink RX11 68 "GateLedger" "waves" "LGateLedger$Waves;") (List.mem_of_getElem? (i := 35) (by decide +kernel))) (fun _ h9 => h9) rfl hin9 rfl (by decide +kernel) rfl rfl (Nat.le_of_ble_eq_true rfl) dX11_init_110 (fun H locs hP9 hk29 hz9 hS => ?_)
  have h_o : PP G ([(a 0, .inr (11, [.ref (a 1), .ref (a 2), .ref (a 4), .ref (a 6), .ref (a 21), .ref (a 28), .ref (a 31), .ref (a 36), .ref (a 41), .ref (a 42), .null, .null]))]) H := hP9
  have h_q1 : PP G ([(a 1, .inl (gQ G, 4, .inr (.inr (.inr (.inr (fun _ => none))))))]) H := kp hk29 h_q1 (dj_cons (ne_a ha (by omega)) (dj_nil))
  have h_q2 : PP G (rowW G a 2 4 (fun _ => nI 0)) H := kp hk29 h_q2 (dj_cons (ne_a ha (by omega)) (dj_cons (ne_a ha (by omega)) (dj_nil)))
  have h_q4 : PP G (rowW G a 4 4 (fun _ => nI 0)) H := kp hk29 h_q4 (dj_cons (ne_a ha (by omega)) (dj_cons (ne_a ha (by omega)) (dj_nil)))
  have h_q6 : PP G (makI G a 6) H := kp hk29 h_q6 (dj_one ha (makI_in (G := G) (a := a) (i := 6)) (by omega))
  have h_q21 : PP G (wirW G a 21 (fun _ => nI 0) (fun _ => nI 0) (fun _ => nI 0)) H := kp hk29 h_q21 (dj_one ha (wirW_in (G := G) (a := a) (i := 21) (mk := fun _ => nI 0) (bs := fun _ => nI 0) (ld := fun _ => nI 0)) (by omega))
  have h_q28 : PP G (timW G a 28 (nI 0) (fun _ => nI 0)) H := kp hk29 h_q28 (dj_one ha (timW_in (G := G) (a := a) (i := 28) (x := nI 0) (f := fun _ => nI 0)) (by omega))
  have h_q31 : PP G (lanW G a 31 (fun _ => 0) (fun _ => 0)) H := kp hk29 h_q31 (dj_one ha (lanW_in (G := G) (a := a) (i := 31) (w := fun _ => 0) (o := fun _ => 0)) (by omega))
  have h_q36 : PP G (lanW G a 36 (fun _ => 0) (fun _ => 0)) H := kp hk29 h_q36 (dj_one ha (lanW_in (G := G) (a := a) (i := 36) (w := fun _ => 0) (o := fun _ => 0)) (by omega))
  have h_q41 : PP G (talW a 41 0 0 0) H := kp hk29 h_q41 (dj_one ha (talW_in (a := a) (i := 41) (x := 0) (y := 0) (z := 0)) (by omega))
  have h_q42 : PP G (wavW G a 42 (nI 0) (fun _ => 0)) H := kp hk29 h_q42 (dj_one ha (wavW_in (G := G) (a := a) (i := 42) (u := nI 0) (w := fun _ => 0)) (by omega))
  have hZ := hz9.trans hZ
  refine lv_aload_n hx hb dX11_init_113 rfl (lv_at hl 0 rfl) ?_
  refine pp_new (a := a) (b0 := b0) (ci := 6) (fs := [.null]) (C := RX6) (T := TX6) (N := 1) hx hb hts inX11_init_6 tyX6 tyX6_ok hown (hts (.classLink RX11 72 RX6) (List.mem_of_getElem? (i := 36) (by decide +kernel))) (hts (.instantiable RX6 1) (List.mem_of_getElem? (i := 37) (by decide +kernel))) (hts (.initialized RX6) (List.mem_of_getElem? (i := 38) (by decide +kernel))) hK rfl (fun j hj => by rcases (show j = 0 by omega) with rfl <;> rfl) hab hZ (j1 := 46) (by omega) hS (Nat.le_of_ble_eq_true rfl) (Nat.le_of_ble_eq_true rfl) dX11_init_114 (fun H hP9 hk30 hZ hS => ?_)
  have h_q45 : PP G ([(a 45, .inr (6, [.null]))]) H := hP9
  have h_o : PP G ([(a 0, .inr (11, [.ref (a 1), .ref (a 2), .ref (a 4), .ref (a 6), .ref (a 21), .ref (a 28), .ref (a 31), .ref (a 36), .ref (a 41), .ref (a 42), .null, .null]))]) H := kpF hk30 h_o
  have h_q1 : PP G ([(a 1, .inl (gQ G, 4, .inr (.inr (.inr (.inr (fun _ => none))))))]) H := kpF hk30 h_q1
  have h_q2 : PP G (rowW G a 2 4 (fun _ => nI 0)) H := kpF hk30 h_q2
  have h_q4 : PP G (rowW G a 4 4 (fun _ => nI 0)) H := kpF hk30 h_q4
  have h_q6 : PP G (makI G a 6) H := kpF hk30 h_q6
  have h_q21 : PP G (wirW G a 21 (fun _ => nI 0) (fun _ => nI 0) (fun _ => nI 0)) H := kpF hk30 h_q21
  have h_q28 : PP G (timW G a 28 (nI 0) (fun _ => nI 0)) H := kpF hk30 h_q28
  have h_q31 : PP G (lanW G a 31 (fun _ => 0) (fun _ => 0)) H := kpF hk30 h_q31
  have h_q36 : PP G (lanW G a 36 (fun _ => 0) (fun _ => 0)) H := kpF hk30 h_q36
  have h_q41 : PP G (talW a 41 0 0 0) H := kpF hk30 h_q41
  have h_q42 : PP G (wavW G a 42 (nI 0) (fun _ => 0)) H := kpF hk30 h_q42
  refine lv_dup hx hb dX11_init_117 rfl ?_
  refine wr_v (va_runIN (As := []) (rest := [.ref (a 45), .ref (a 0)]) FX (c_X6_init l G a b0 hab 45) ⟨va_cnB 0 hts gX11_init_X6_init_n74 rfl rfl rfl (hNI.2.2.2.2.2.2.1) (hts (.initialized RX6) (List.mem_of_getElem? (i := 38) (by decide +kernel))) (by decide +kernel) ⟨Nat.le_of_ble_eq_true rfl, Nat.le_of_ble_eq_true rfl⟩, rfl, (hts (.instanceMethod yX6_init) (List.mem_of_getElem? (i := 101) (by decide +kernel)))⟩ (preS hK hNW ⟨hZ, h_q45⟩) rfl rfl hl.1 rfl (lv_room (Nat.le_of_ble_eq_true rfl)) dX11_init_118 ⟨Nat.le_of_ble_eq_true rfl, Nat.le_of_ble_eq_true rfl⟩) hS (rng_sub (by omega)) (fun _ H locs _ hP9 hk31 hS => ?_)
  have hZ := hP9.1
  have h_q45 : PP G (ticW G a 45 (fun _ => nI 0)) H := hP9.2
  have h_o : PP G ([(a 0, .inr (11, [.ref (a 1), .ref (a 2), .ref (a 4), .ref (a 6), .ref (a 21), .ref (a 28), .ref (a 31), .ref (a 36), .ref (a 41), .ref (a 42), .null, .null]))]) H := kp hk31 h_o (dj_cons (rng_no ha (by omega)) (dj_nil))
  have h_q1 : PP G ([(a 1, .inl (gQ G, 4, .inr (.inr (.inr (.inr (fun _ => none))))))]) H := kp hk31 h_q1 (dj_cons (rng_no ha (by omega)) (dj_nil))
  have h_q2 : PP G (rowW G a 2 4 (fun _ => nI 0)) H := kp hk31 h_q2 (dj_cons (rng_no ha (by omega)) (dj_cons (rng_no ha (by omega)) (dj_nil)))
  have h_q4 : PP G (rowW G a 4 4 (fun _ => nI 0)) H := kp hk31 h_q4 (dj_cons (rng_no ha (by omega)) (dj_cons (rng_no ha (by omega)) (dj_nil)))
  have h_q6 : PP G (makI G a 6) H := kp hk31 h_q6 (dj_rng ha (makI_in (G := G) (a := a) (i := 6)) (by omega))
  have h_q21 : PP G (wirW G a 21 (fun _ => nI 0) (fun _ => nI 0) (fun _ => nI 0)) H := kp hk31 h_q21 (dj_rng ha (wirW_in (G := G) (a := a) (i := 21) (mk := fun _ => nI 0) (bs := fun _ => nI 0) (ld := fun _ => nI 0)) (by omega))
  have h_q28 : PP G (timW G a 28 (nI 0) (fun _ => nI 0)) H := kp hk31 h_q28 (dj_rng ha (timW_in (G := G) (a := a) (i := 28) (x := nI 0) (f := fun _ => nI 0)) (by omega))
  have h_q31 : PP G (lanW G a 31 (fun _ => 0) (fun _ => 0)) H := kp hk31 h_q31 (dj_rng ha (lanW_in (G := G) (a := a) (i := 31) (w := fun _ => 0) (o := fun _ => 0)) (by omega))
  have h_q36 : PP G (lanW G a 36 (fun _ => 0) (fun _ => 0)) H := kp hk31 h_q36 (dj_rng ha (lanW_in (G := G) (a := a) (i := 36) (w := fun _ => 0) (o := fun _ => 0)) (by omega))
  have h_q41 : PP G (talW a 41 0 0 0) H := kp hk31 h_q41 (dj_rng ha (talW_in (a := a) (i := 41) (x := 0) (y := 0) (z := 0)) (by omega))
  have h_q42 : PP G (wavW G a 42 (nI 0) (fun _ => 0)) H := kp hk31 h_q42 (dj_rng ha (wavW_in (G := G) (a := a) (i := 42) (u := nI 0) (w := fun _ => 0)) (by omega))
  refine pp_putF (ci := 11) (v := .ref (a 45)) (ty := .object "GateLedger$Ticks") (C := RX11) (T := TX11) (N := 12) hx hb hts inX11_init_11 tyX11 tyX11_ok nmX11 hown hK h_o hS (rng_in (by omega)) rfl 10 (by decide) (hts (.fieldLink RX11 75 "GateLedger" "ticks" "LGateLedger$Ticks;") (List.mem_of_getElem? (i := 39) (by decide +kernel))) (fun _ h9 => h9) rfl hin9 rfl (by decide +kernel) rfl rfl (Nat.le_of_ble_eq_true rfl) dX11_init_121 (fun H locs hP9 hk32 hz9 hS => ?_)
  have h_o : PP G ([(a 0, .inr (11, [.ref (a 1), .ref (a 2), .ref (a 4), .ref (a 6), .ref (a 21), .ref (a 28), .ref (a 31), .ref (a 36), .ref (a 41), .ref (a 42), .ref (a 45), .null]))]) H := hP9
  have h_q1 : PP G ([(a 1, .inl (gQ G, 4, .inr (.inr (.inr (.inr (fun _ => none))))))]) H := kp hk32 h_q1 (dj_cons (ne_a ha (by omega)) (dj_nil))
  have h_q2 : PP G (rowW G a 2 4 (fun _ => nI 0)) H := kp hk32 h_q2 (dj_cons (ne_a ha (by omega)) (dj_cons (ne_a ha (by omega)) (dj_nil)))
  have h_q4 : PP G (rowW G a 4 4 (fun _ => nI 0)) H := kp hk32 h_q4 (dj_cons (ne_a ha (by omega)) (dj_cons (ne_a ha (by omega)) (dj_nil)))
  have h_q6 : PP G (makI G a 6) H := kp hk32 h_q6 (dj_one ha (makI_in (G := G) (a := a) (i := 6)) (by omega))
  have h_q21 : PP G (wirW G a 21 (fun _ => nI 0) (fun _ => nI 0) (fun _ => nI 0)) H := kp hk32 h_q21 (dj_one ha (wirW_in (G := G) (a := a) (i := 21) (mk := fun _ => nI 0) (bs := fun _ => nI 0) (ld := fun _ => nI 0)) (by omega))
  have h_q28 : PP G (timW G a 28 (nI 0) (fun _ => nI 0)) H := kp hk32 h_q28 (dj_one ha (timW_in (G := G) (a := a) (i := 28) (x := nI 0) (f := fun _ => nI 0)) (by omega))
  have h_q31 : PP G (lanW G a 31 (fun _ => 0) (fun _ => 0)) H := kp hk32 h_q31 (dj_one ha (lanW_in (G := G) (a := a) (i := 31) (w := fun _ => 0) (o := fun _ => 0)) (by omega))
  have h_q36 : PP G (lanW G a 36 (fun _ => 0) (fun _ => 0)) H := kp hk32 h_q36 (dj_one ha (lanW_in (G := G) (a := a) (i := 36) (w := fun _ => 0) (o := fun _ => 0)) (by omega))
  have h_q41 : PP G (talW a 41 0 0 0) H := kp hk32 h_q41 (dj_one ha (talW_in (a := a) (i := 41) (x := 0) (y := 0) (z := 0)) (by omega))
  have h_q42 : PP G (wavW G a 42 (nI 0) (fun _ => 0)) H := kp hk32 h_q42 (dj_one ha (wavW_in (G := G) (a := a) (i := 42) (u := nI 0) (w := fun _ => 0)) (by omega))
  have h_q45 : PP G (ticW G a 45 (fun _ => nI 0)) H := kp hk32 h_q45 (dj_one ha (ticW_in (G := G) (a := a) (i := 45) (f := fun _ => nI 0)) (by omega))
  have hZ := hz9.trans hZ
  refine lv_aload_n hx hb dX11_init_124 rfl (lv_at hl 0 rfl) ?_
  refine pp_new (a := a) (b0 := b0) (ci := 0) (fs := [.int (nI 0), .int (nI 0), .int (nI 0), .int (nI 0), .int (nI 0)]) (C := RX0) (T := TX0) (N := 5) hx hb hts inX11_init_0 tyX0 tyX0_ok hown (hts (.classLink RX11 79 RX0) (List.mem_of_getElem? (i := 40) (by decide +kernel))) (hts (.instantiable RX0 5) (List.mem_of_getElem? (i := 41) (by decide +kernel))) (hts (.initialized RX0) (List.mem_of_getElem? (i := 42) (by decide +kernel))) hK rfl (fun j hj => by rcases (show j = 0 ∨ j = 1 ∨ j = 2 ∨ j = 3 ∨ j = 4 by omega) with rfl | rfl | rfl | rfl | rfl <;> rfl) hab hZ (j1 := 49) (by omega) hS (Nat.le_of_ble_eq_true rfl) (Nat.le_of_ble_eq_true rfl) dX11_init_125 (fun H hP9 hk33 hZ hS => ?_)
  have h_q48 : PP G ([(a 48, .inr (0, [.int (nI 0), .int (nI 0), .int (nI 0), .int (nI 0), .int (nI 0)]))]) H := hP9
  have h_o : PP G ([(a 0, .inr (11, [.ref (a 1), .ref (a 2), .ref (a 4), .ref (a 6), .ref (a 21), .ref (a 28), .ref (a 31), .ref (a 36), .ref (a 41), .ref (a 42), .ref (a 45), .null]))]) H := kpF hk33 h_o
  have h_q1 : PP G ([(a 1, .inl (gQ G, 4, .inr (.inr (.inr (.inr (fun _ => none))))))]) H := kpF hk33 h_q1
  have h_q2 : PP G (rowW G a 2 4 (fun _ => nI 0)) H := kpF hk33 h_q2
  have h_q4 : PP G (rowW G a 4 4 (fun _ => nI 0)) H := kpF hk33 h_q4
  have h_q6 : PP G (makI G a 6) H := kpF hk33 h_q6
  have h_q21 : PP G (wirW G a 21 (fun _ => nI 0) (fun _ => nI 0) (fun _ => nI 0)) H := kpF hk33 h_q21
  have h_q28 : PP G (timW G a 28 (nI 0) (fun _ => nI 0)) H := kpF hk33 h_q28
  have h_q31 : PP G (lanW G a 31 (fun _ => 0) (fun _ => 0)) H := kpF hk33 h_q31
  have h_q36 : PP G (lanW G a 36 (fun _ => 0) (fun _ => 0)) H := kpF hk33 h_q36
  have h_q41 : PP G (talW a 41 0 0 0) H := kpF hk33 h_q41
  have h_q42 : PP G (wavW G a 42 (nI 0) (fun _ => 0)) H := kpF hk33 h_q42
  have h_q45 : PP G (ticW G a 45 (fun _ => nI 0)) H := kpF hk33 h_q45
  refine lv_dup hx hb dX11_init_128 rfl ?_
  refine wr_v (va_runIN (As := []) (rest := [.ref (a 48), .ref (a 0)]) FX (c_X0_init l G a b0 hab 48) ⟨va_cnB 0 hts gX11_init_X0_init_n81 rfl rfl rfl (hNI.2.2.2.2.2.2.2.1) (hts (.initialized RX0) (List.mem_of_getElem? (i := 42) (by decide +kernel))) (by decide +kernel) ⟨Nat.le_of_ble_eq_true rfl, Nat.le_of_ble_eq_true rfl⟩, rfl, (hts (.instanceMethod yX0_init) (List.mem_of_getElem? (i := 107) (by decide +kernel)))⟩ (preS hK hNW ⟨hZ, h_q48⟩) rfl rfl hl.1 rfl (lv_room (Nat.le_of_ble_eq_true rfl)) dX11_init_129 ⟨Nat.le_of_ble_eq_true rfl, Nat.le_of_ble_eq_true rfl⟩) hS (rng_sub (by omega)) (fun _ H locs _ hP9 hk34 hS => ?_)
  have hZ := hP9.1
  have h_q48 : PP G (audW a 48 (nI 0) (nI 0) (nI 0) (nI 0) (nI 0)) H := hP9.2
  have h_o : PP G ([(a 0, .inr (11, [.ref (a 1), .ref (a 2), .ref (a 4), .ref (a 6), .ref (a 21), .ref (a 28), .ref (a 31), .ref (a 36), .ref (a 41), .ref (a 42), .ref (a 45), .null]))]) H := kp hk34 h_o (dj_cons (rng_no ha (by omega)) (dj_nil))
  have h_q1 : PP G ([(a 1, .inl (gQ G, 4, .inr (.inr (.inr (.inr (fun _ => none))))))]) H := kp hk34 h_q1 (dj_cons (rng_no ha (by omega)) (dj_nil))
  have h_q2 : PP G (rowW G a 2 4 (fun _ => nI 0)) H := kp hk34 h_q2 (dj_cons (rng_no ha (by omega)) (dj_cons (rng_no ha (by omega)) (dj_nil)))
  have h_q4 : PP G (rowW G a 4 4 (fun _ => nI 0)) H := kp hk34 h_q4 (dj_cons (rng_no ha (by omega)) (dj_cons (rng_no ha (by omega)) (dj_nil)))
  have h_q6 : PP G (makI G a 6) H := kp hk34 h_q6 (dj_rng ha (makI_in (G := G) (a := a) (i := 6)) (by omega))
  have h_q21 : PP G (wirW G a 21 (fun _ => nI 0) (fun _ => nI 0) (fun _ => nI 0)) H := kp hk34 h_q21 (dj_rng ha (wirW_in (G := G) (a := a) (i := 21) (mk := fun _ => nI 0) (bs := fun _ => nI 0) (ld := fun _ => nI 0)) (by omega))
  have h_q28 : PP G (timW G a 28 (nI 0) (fun _ => nI 0)) H := kp hk34 h_q28 (dj_rng ha (timW_in (G := G) (a := a) (i := 28) (x := nI 0) (f := fun _ => nI 0)) (by omega))
  have h_q31 : PP G (lanW G a 31 (fun _ => 0) (fun _ => 0)) H := kp hk34 h_q31 (dj_rng ha (lanW_in (G := G) (a := a) (i := 31) (w := fun _ => 0) (o := fun _ => 0)) (by omega))
  have h_q36 : PP G (lanW G a 36 (fun _ => 0) (fun _ => 0)) H := kp hk34 h_q36 (dj_rng ha (lanW_in (G := G) (a := a) (i := 36) (w := fun _ => 0) (o := fun _ => 0)) (by omega))
  have h_q41 : PP G (talW a 41 0 0 0) H := kp hk34 h_q41 (dj_rng ha (talW_in (a := a) (i := 41) (x := 0) (y := 0) (z := 0)) (by omega))
  have h_q42 : PP G (wavW G a 42 (nI 0) (fun _ => 0)) H := kp hk34 h_q42 (dj_rng ha (wavW_in (G := G) (a := a) (i := 42) (u := nI 0) (w := fun _ => 0)) (by omega))
  have h_q45 : PP G (ticW G a 45 (fun _ => nI 0)) H := kp hk34 h_q45 (dj_rng ha (ticW_in (G := G) (a := a) (i := 45) (f := fun _ => nI 0)) (by omega))
  refine pp_putF (ci := 11) (v := .ref (a 48)) (ty := .object "GateLedger$Audit") (C := RX11) (T := TX11) (N := 12) hx hb hts inX11_init_11 tyX11 tyX11_ok nmX11 hown hK h_o hS (rng_in (by omega)) rfl 11 (by decide) (hts (.fieldLink RX11 82 "GateLedger" "audit" "LGateLedger$Audit;") (List.mem_of_getElem? (i := 43) (by decide +kernel))) (fun _ h9 => h9) rfl hin9 rfl (by decide +kernel) rfl rfl (Nat.le_of_ble_eq_true rfl) dX11_init_132 (fun H locs hP9 hk35 hz9 hS => ?_)
  have h_o : PP G ([(a 0, .inr (11, [.ref (a 1), .ref (a 2), .ref (a 4), .ref (a 6), .ref (a 21), .ref (a 28), .ref (a 31), .ref (a 36), .ref (a 41), .ref (a 42), .ref (a 45), .ref (a 48)]))]) H := hP9
  have h_q1 : PP G ([(a 1, .inl (gQ G, 4, .inr (.inr (.inr (.inr (fun _ => none))))))]) H := kp hk35 h_q1 (dj_cons (ne_a ha (by omega)) (dj_nil))
  have h_q2 : PP G (rowW G a 2 4 (fun _ => nI 0)) H := kp hk35 h_q2 (dj_cons (ne_a ha (by omega)) (dj_cons (ne_a ha (by omega)) (dj_nil)))
  have h_q4 : PP G (rowW G a 4 4 (fun _ => nI 0)) H := kp hk35 h_q4 (dj_cons (ne_a ha (by omega)) (dj_cons (ne_a ha (by omega)) (dj_nil)))
  have h_q6 : PP G (makI G a 6) H := kp hk35 h_q6 (dj_one ha (makI_in (G := G) (a := a) (i := 6)) (by omega))
  have h_q21 : PP G (wirW G a 21 (fun _ => nI 0) (fun _ => nI 0) (fun _ => nI 0)) H := kp hk35 h_q21 (dj_one ha (wirW_in (G := G) (a := a) (i := 21) (mk := fun _ => nI 0) (bs := fun _ => nI 0) (ld := fun _ => nI 0)) (by omega))
  have h_q28 : PP G (timW G a 28 (nI 0) (fun _ => nI 0)) H := kp hk35 h_q28 (dj_one ha (timW_in (G := G) (a := a) (i := 28) (x := nI 0) (f := fun _ => nI 0)) (by omega))
  have h_q31 : PP G (lanW G a 31 (fun _ => 0) (fun _ => 0)) H := kp hk35 h_q31 (dj_one ha (lanW_in (G := G) (a := a) (i := 31) (w := fun _ => 0) (o := fun _ => 0)) (by omega))
  have h_q36 : PP G (lanW G a 36 (fun _ => 0) (fun _ => 0)) H := kp hk35 h_q36 (dj_one ha (lanW_in (G := G) (a := a) (i := 36) (w := fun _ => 0) (o := fun _ => 0)) (by omega))
  have h_q41 : PP G (talW a 41 0 0 0) H := kp hk35 h_q41 (dj_one ha (talW_in (a := a) (i := 41) (x := 0) (y := 0) (z := 0)) (by omega))
  have h_q42 : PP G (wavW G a 42 (nI 0) (fun _ => 0)) H := kp hk35 h_q42 (dj_one ha (wavW_in (G := G) (a := a) (i := 42) (u := nI 0) (w := fun _ => 0)) (by omega))
  have h_q45 : PP G (ticW G a 45 (fun _ => nI 0)) H := kp hk35 h_q45 (dj_one ha (ticW_in (G := G) (a := a) (i := 45) (f := fun _ => nI 0)) (by omega))
  have h_q48 : PP G (audW a 48 (nI 0) (nI 0) (nI 0) (nI 0) (nI 0)) H := kp hk35 h_q48 (dj_one ha (audW_in (a := a) (i := 48) (x := nI 0) (y := nI 0) (z := nI 0) (v := nI 0) (u := nI 0)) (by omega))
  have hZ := hz9.trans hZ
  refine lv_iconst (v := nI 0) hx hb dX11_init_135 (by decide) ?_
  refine lv_istore_n (lv' := [(1, .int (nI 0)), (0, .ref (a 0))]) hx hb dX11_init_136 rfl hl (by decide) rfl (fun ls hl => ?_)
  refine lv_iload_n hx hb dX11_init_137 rfl (lv_at hl 0 rfl) ?_
  refine lv_aload_n hx hb dX11_init_138 rfl (lv_at hl 1 rfl) ?_
  refine va_get (D := G.1) (ci := 11) (v := .ref (a 1)) (C := RX11) (T := TX11) (N := 12) hx hb hts inX11_init_11 hown hK h_o 0 rfl rfl 0 (by decide) (hts (.fieldLink RX11 11 "GateLedger" "nets" "[LGateLedger$Net;") (List.mem_of_getElem? (i := 5) (by decide +kernel))) (fun _ h9 => h9) rfl dX11_init_139 ?_
  refine va_alen hx hb hK h_q1 0 2 rfl rfl (v := nI 4) rfl dX11_init_142 ?_
  refine lv_icmp_ge (tgt := 165) hx hb dX11_init_143 (by decide) (fun c143 => ?_) (fun c143 => ?_)
  · exact absurd c143 (by decide)
  · skip
    refine lv_aload_n hx hb dX11_init_146 rfl (lv_at hl 1 rfl) ?_
    refine va_get (D := G.1) (ci := 11) (v := .ref (a 1)) (C := RX11) (T := TX11) (N := 12) hx hb hts inX11_init_11 hown hK h_o 0 rfl rfl 0 (by decide) (hts (.fieldLink RX11 11 "GateLedger" "nets" "[LGateLedger$Net;") (List.mem_of_getElem? (i := 5) (by decide +kernel))) (fun _ h9 => h9) rfl dX11_init_147 ?_
    refine lv_iload_n hx hb dX11_init_150 rfl (lv_at hl 0 rfl) ?_
    refine pp_new (a := a) (b0 := b0) (ci := 3) (fs := [.null, .null, .null, .null, .null, .int (nI 0), .int (nI 0), .int (nI 0)]) (C := RX3) (T := TX3) (N := 8) hx hb hts inX11_init_3 tyX3 tyX3_ok hown (hts (.classLink RX11 9 RX3) (List.mem_of_getElem? (i := 4) (by decide +kernel))) (hts (.instantiable RX3 8) (List.mem_of_getElem? (i := 44) (by decide +kernel))) (hts (.initialized RX3) (List.mem_of_getElem? (i := 45) (by decide +kernel))) hK rfl (fun j hj => by rcases (show j = 0 ∨ j = 1 ∨ j = 2 ∨ j = 3 ∨ j = 4 ∨ j = 5 ∨ j = 6 ∨ j = 7 by omega) with rfl | rfl | rfl | rfl | rfl | rfl | rfl | rfl <;> rfl) hab hZ (j1 := 50) (by omega) hS (Nat.le_of_ble_eq_true rfl) (Nat.le_of_ble_eq_true rfl) dX11_init_151 (fun H hP9 hk36 hZ hS => ?_)
    have h_q49 : PP G ([(a 49, .inr (3, [.null, .null, .null, .null, .null, .int (nI 0), .int (nI 0), .int (nI 0)]))]) H := hP9
    have h_o : PP G ([(a 0, .inr (11, [.ref (a 1), .ref (a 2), .ref (a 4), .ref (a 6), .ref (a 21), .ref (a 28), .ref (a 31), .ref (a 36), .ref (a 41), .ref (a 42), .ref (a 45), .ref (a 48)]))]) H := kpF hk36 h_o
    have h_q1 : PP G ([(a 1, .inl (gQ G, 4, .inr (.inr (.inr (.inr (fun _ => none))))))]) H := kpF hk36 h_q1
    have h_q2 : PP G (rowW G a 2 4 (fun _ => nI 0)) H := kpF hk36 h_q2
    have h_q4 : PP G (rowW G a 4 4 (fun _ => nI 0)) H := kpF hk36 h_q4
    have h_q6 : PP G (makI G a 6) H := kpF hk36 h_q6
    have h_q21 : PP G (wirW G a 21 (fun _ => nI 0) (fun _ => nI 0) (fun _ => nI 0)) H := kpF hk36 h_q21
    have h_q28 : PP G (timW G a 28 (nI 0) (fun _ => nI 0)) H := kpF hk36 h_q28
    have h_q31 : PP G (lanW G a 31 (fun _ => 0) (fun _ => 0)) H := kpF hk36 h_q31
    have h_q36 : PP G (lanW G a 36 (fun _ => 0) (fun _ => 0)) H := kpF hk36 h_q36
    have h_q41 : PP G (talW a 41 0 0 0) H := kpF hk36 h_q41
    have h_q42 : PP G (wavW G a 42 (nI 0) (fun _ => 0)) H := kpF hk36 h_q42
    have h_q45 : PP G (ticW G a 45 (fun _ => nI 0)) H := kpF hk36 h_q45
    have h_q48 : PP G (audW a 48 (nI 0) (nI 0) (nI 0) (nI 0) (nI 0)) H := kpF hk36 h_q48
    refine lv_dup hx hb dX11_init_154 rfl ?_
    refine wr_v (va_runIN (As := []) (rest := [.ref (a 49), .int (nI 0), .ref (a 1)]) FX (c_X3_init l G a b0 hab 49) ⟨va_cnB 0 hts gX11_init_X3_init_n86 rfl rfl rfl (hNI.2.2.2.2.2.2.2.2) (hts (.initialized RX3) (List.mem_of_getElem? (i := 45) (by decide +kernel))) (by decide +kernel) ⟨Nat.le_of_ble_eq_true rfl, Nat.le_of_ble_eq_true rfl⟩, rfl, (hts (.instanceMethod yX3_init) (List.mem_of_getElem? (i := 110) (by decide +kernel)))⟩ (preS hK hNW ⟨hZ, h_q49⟩) rfl rfl hl.1 rfl (lv_room (Nat.le_of_ble_eq_true rfl)) dX11_init_155 ⟨Nat.le_of_ble_eq_true rfl, Nat.le_of_ble_eq_true rfl⟩) hS (rng_sub (by omega)) (fun _ H locs _ hP9 hk37 hS => ?_)
    have hZ := hP9.1
    have h_q49 : PP G (netW G a 49 N0) H := hP9.2
    have h_o : PP G ([(a 0, .inr (11, [.ref (a 1), .ref (a 2), .ref (a 4), .ref (a 6), .ref (a 21), .ref (a 28), .ref (a 31), .ref (a 36), .ref (a 41), .ref (a 42), .ref (a 45), .ref (a 48)]))]) H := kp hk37 h_o (dj_cons (rng_no ha (by omega)) (dj_nil))
    have h_q1 : PP G ([(a 1, .inl (gQ G, 4, .inr (.inr (.inr (.inr (fun _ => none))))))]) H := kp hk37 h_q1 (dj_cons (rng_no ha (by omega)) (dj_nil))
    have h_q2 : PP G (rowW G a 2 4 (fun _ => nI 0)) H := kp hk37 h_q2 (dj_cons (rng_no ha (by omega)) (dj_cons (rng_no ha (by omega)) (dj_nil)))
    have h_q4 : PP G (rowW G a 4 4 (fun _ => nI 0)) H := kp hk37 h_q4 (dj_cons (rng_no ha (by omega)) (dj_cons (rng_no ha (by omega)) (dj_nil)))
    have h_q6 : PP G (makI G a 6) H := kp hk37 h_q6 (dj_rng ha (makI_in (G := G) (a := a) (i := 6)) (by omega))
    have h_q21 : PP G (wirW G a 21 (fun _ => nI 0) (fun _ => nI 0) (fun _ => nI 0)) H := kp hk37 h_q21 (dj_rng ha (wirW_in (G := G) (a := a) (i := 21) (mk := fun _ => nI 0) (bs := fun _ => nI 0) (ld := fun _ => nI 0)) (by omega))
    have h_q28 : PP G (timW G a 28 (nI 0) (fun _ => nI 0)) H := kp hk37 h_q28 (dj_rng ha (timW_in (G := G) (a := a) (i := 28) (x := nI 0) (f := fun _ => nI 0)) (by omega))
    have h_q31 : PP G (lanW G a 31 (fun _ => 0) (fun _ => 0)) H := kp hk37 h_q31 (dj_rng ha (lanW_in (G := G) (a := a) (i := 31) (w := fun _ => 0) (o := fun _ => 0)) (by omega))
    have h_q36 : PP G (lanW G a 36 (fun _ => 0) (fun _ => 0)) H := kp hk37 h_q36 (dj_rng ha (lanW_in (G := G) (a := a) (i := 36) (w := fun _ => 0) (o := fun _ => 0)) (by omega))
    have h_q41 : PP G (talW a 41 0 0 0) H := kp hk37 h_q41 (dj_rng ha (talW_in (a := a) (i := 41) (x := 0) (y := 0) (z := 0)) (by omega))
    have h_q42 : PP G (wavW G a 42 (nI 0) (fun _ => 0)) H := kp hk37 h_q42 (dj_rng ha (wavW_in (G := G) (a := a) (i := 42) (u := nI 0) (w := fun _ => 0)) (by omega))
    have h_q45 : PP G (ticW G a 45 (fun _ => nI 0)) H := kp hk37 h_q45 (dj_rng ha (ticW_in (G := G) (a := a) (i := 45) (f := fun _ => nI 0)) (by omega))
    have h_q48 : PP G (audW a 48 (nI 0) (nI 0) (nI 0) (nI 0) (nI 0)) H := kp hk37 h_q48 (dj_rng ha (audW_in (a := a) (i := 48) (x := nI 0) (y := nI 0) (z := nI 0) (v := nI 0) (u := nI 0)) (by omega))
    refine pp_astq hx hb hK h_q1 (P_app1 h_q49) (ne_a ha (by omega)) hS (rng_in (by omega)) (rng_in (by omega)) (vp_in_nI (by omega) (by omega)) dX11_init_158 (fun H locs hP9 hk38 hz9 hS => ?_)
    rw [nI_clamp (by omega)] at hP9
    have h_q1 : PP G ([(a 1, .inl (gQ G, 4, .inr (.inr (.inr (.inr (va_up (fun _ => none) 0 (some (a 49))))))))]) H := hP9
    have h_o : PP G ([(a 0, .inr (11, [.ref (a 1), .ref (a 2), .ref (a 4), .ref (a 6), .ref (a 21), .ref (a 28), .ref (a 31), .ref (a 36), .ref (a 41), .ref (a 42), .ref (a 45), .ref (a 48)]))]) H := kp hk38 h_o (dj_cons (ne_a ha (by omega)) (dj_nil))
    have h_q2 : PP G (rowW G a 2 4 (fun _ => nI 0)) H := kp hk38 h_q2 (dj_cons (ne_a ha (by omega)) (dj_cons (ne_a ha (by omega)) (dj_nil)))
    have h_q4 : PP G (rowW G a 4 4 (fun _ => nI 0)) H := kp hk38 h_q4 (dj_cons (ne_a ha (by omega)) (dj_cons (ne_a ha (by omega)) (dj_nil)))
    have h_q6 : PP G (makI G a 6) H := kp hk38 h_q6 (dj_one ha (makI_in (G := G) (a := a) (i := 6)) (by omega))
    have h_q21 : PP G (wirW G a 21 (fun _ => nI 0) (fun _ => nI 0) (fun _ => nI 0)) H := kp hk38 h_q21 (dj_one ha (wirW_in (G := G) (a := a) (i := 21) (mk := fun _ => nI 0) (bs := fun _ => nI 0) (ld := fun _ => nI 0)) (by omega))
    have h_q28 : PP G (timW G a 28 (nI 0) (fun _ => nI 0)) H := kp hk38 h_q28 (dj_one ha (timW_in (G := G) (a := a) (i := 28) (x := nI 0) (f := fun _ => nI 0)) (by omega))
    have h_q31 : PP G (lanW G a 31 (fun _ => 0) (fun _ => 0)) H := kp hk38 h_q31 (dj_one ha (lanW_in (G := G) (a := a) (i := 31) (w := fun _ => 0) (o := fun _ => 0)) (by omega))
    have h_q36 : PP G (lanW G a 36 (fun _ => 0) (fun _ => 0)) H := kp hk38 h_q36 (dj_one ha (lanW_in (G := G) (a := a) (i := 36) (w := fun _ => 0) (o := fun _ => 0)) (by omega))
    have h_q41 : PP G (talW a 41 0 0 0) H := kp hk38 h_q41 (dj_one ha (talW_in (a := a) (i := 41) (x := 0) (y := 0) (z := 0)) (by omega))
    have h_q42 : PP G (wavW G a 42 (nI 0) (fun _ => 0)) H := kp hk38 h_q42 (dj_one ha (wavW_in (G := G) (a := a) (i := 42) (u := nI 0) (w := fun _ => 0)) (by omega))
    have h_q45 : PP G (ticW G a 45 (fun _ => nI 0)) H := kp hk38 h_q45 (dj_one ha (ticW_in (G := G) (a := a) (i := 45) (f := fun _ => nI 0)) (by omega))
    have h_q48 : PP G (audW a 48 (nI 0) (nI 0) (nI 0) (nI 0) (nI 0)) H := kp hk38 h_q48 (dj_one ha (audW_in (a := a) (i := 48) (x := nI 0) (y := nI 0) (z := nI 0) (v := nI 0) (u := nI 0)) (by omega))
    have h_q49 : PP G (netW G a 49 N0) H := kp hk38 h_q49 (dj_one ha (netW_in (G := G) (a := a) (j := 49) (N := N0)) (by omega))
    have hZ := hz9.trans hZ
    refine lv_iinc (v := nI 1) (lv' := [(1, .int (nI 1)), (0, .ref (a 0))]) hx hb dX11_init_159 hl (k := 0) rfl (by first | exact nI_add _ 1 | decide) (by decide) rfl (fun ls hl => ?_)
    refine lv_goto (tgt := 137) hx hb dX11_init_162 (by decide) ?_
    refine lv_iload_n hx hb dX11_init_137 rfl (lv_at hl 0 rfl) ?_
    refine lv_aload_n hx hb dX11_init_138 rfl (lv_at hl 1 rfl) ?_
    refine va_get (D := G.1) (ci := 11) (v := .ref (a 1)) (C := RX11) (T := TX11) (N := 12) hx hb hts inX11_init_11 hown hK h_o 0 rfl rfl 0 (by decide) (hts (.fieldLink RX11 11 "GateLedger" "nets" "[LGateLedger$Net;") (List.mem_of_getElem? (i := 5) (by decide +kernel))) (fun _ h9 => h9) rfl dX11_init_139 ?_
    refine va_alen hx hb hK h_q1 0 2 rfl rfl (v := nI 4) rfl dX11_init_142 ?_
    refine lv_icmp_ge (tgt := 165) hx hb dX11_init_143 (by decide) (fun c143 => ?_) (fun c143 => ?_)
    · exact absurd c143 (by decide)
    · skip
      refine lv_aload_n hx hb dX11_init_146 rfl (lv_at hl 1 rfl) ?_
      refine va_get (D := G.1) (ci := 11) (v := .ref (a 1)) (C := RX11) (T := TX11) (N := 12) hx hb hts inX11_init_11 hown hK h_o 0 rfl rfl 0 (by decide) (hts (.fieldLink RX11 11 "GateLedger" "nets" "[LGateLedger$Net;") (List.mem_of_getElem? (i := 5) (by decide +kernel))) (fun _ h9 => h9) rfl dX11_init_147 ?_
      refine lv_iload_n hx hb dX11_init_150 rfl (lv_at hl 0 rfl) ?_
      refine pp_new (a := a) (b0 := b0) (ci := 3) (fs := [.null, .null, .null, .null, .null, .int (nI 0), .int (nI 0), .int (nI 0)]) (C := RX3) (T := TX3) (N := 8) hx hb hts inX11_init_3 tyX3 tyX3_ok hown (hts (.classLink RX11 9 RX3) (List.mem_of_getElem? (i := 4) (by decide +kernel))) (hts (.instantiable RX3 8) (List.mem_of_getElem? (i := 44) (by decide +kernel))) (hts (.initialized RX3) (List.mem_of_getElem? (i := 45) (by decide +kernel))) hK rfl (fun j hj => by rcases (show j = 0 ∨ j = 1 ∨ j = 2 ∨ j = 3 ∨ j = 4 ∨ j = 5 ∨ j = 6 ∨ j = 7 by omega) with rfl | rfl | rfl | rfl | rfl | rfl | rfl | rfl <;> rfl) hab hZ (j1 := 61) (by omega) hS (Nat.le_of_ble_eq_true rfl) (Nat.le_of_ble_eq_true rfl) dX11_init_151 (fun H hP9 hk39 hZ hS => ?_)
      have h_q60 : PP G ([(a 60, .inr (3, [.null, .null, .null, .null, .null, .int (nI 0), .int (nI 0), .int (nI 0)]))]) H := hP9
      have h_o : PP G ([(a 0, .inr (11, [.ref (a 1), .ref (a 2), .ref (a 4), .ref (a 6), .ref (a 21), .ref (a 28), .ref (a 31), .ref (a 36), .ref (a 41), .ref (a 42), .ref (a 45), .ref (a 48)]))]) H := kpF hk39 h_o
      have h_q1 : PP G ([(a 1, .inl (gQ G, 4, .inr (.inr (.inr (.inr (va_up (fun _ => none) 0 (some (a 49))))))))]) H := kpF hk39 h_q1
      have h_q2 : PP G (rowW G a 2 4 (fun _ => nI 0)) H := kpF hk39 h_q2
      have h_q4 : PP G (rowW G a 4 4 (fun _ => nI 0)) H := kpF hk39 h_q4
      have h_q6 : PP G (makI G a 6) H := kpF hk39 h_q6
      have h_q21 : PP G (wirW G a 21 (fun _ => nI 0) (fun _ => nI 0) (fun _ => nI 0)) H := kpF hk39 h_q21
      have h_q28 : PP G (timW G a 28 (nI 0) (fun _ => nI 0)) H := kpF hk39 h_q28
      have h_q31 : PP G (lanW G a 31 (fun _ => 0) (fun _ => 0)) H := kpF hk39 h_q31
      have h_q36 : PP G (lanW G a 36 (fun _ => 0) (fun _ => 0)) H := kpF hk39 h_q36
      have h_q41 : PP G (talW a 41 0 0 0) H := kpF hk39 h_q41
      have h_q42 : PP G (wavW G a 42 (nI 0) (fun _ => 0)) H := kpF hk39 h_q42
      have h_q45 : PP G (ticW G a 45 (fun _ => nI 0)) H := kpF hk39 h_q45
      have h_q48 : PP G (audW a 48 (nI 0) (nI 0) (nI 0) (nI 0) (nI 0)) H := kpF hk39 h_q48
      have h_q49 : PP G (netW G a 49 N0) H := kpF hk39 h_q49
      refine lv_dup hx hb dX11_init_154 rfl ?_
      refine wr_v (va_runIN (As := []) (rest := [.ref (a 60), .int (nI 1), .ref (a 1)]) FX (c_X3_init l G a b0 hab 60) ⟨va_cnB 0 hts gX11_init_X3_init_n86 rfl rfl rfl (hNI.2.2.2.2.2.2.2.2) (hts (.initialized RX3) (List.mem_of_getElem? (i := 45) (by decide +kernel))) (by decide +kernel) ⟨Nat.le_of_ble_eq_true rfl, Nat.le_of_ble_eq_true rfl⟩, rfl, (hts (.instanceMethod yX3_init) (List.mem_of_getElem? (i := 110) (by decide +kernel)))⟩ (preS hK hNW ⟨hZ, h_q60⟩) rfl rfl hl.1 rfl (lv_room (Nat.le_of_ble_eq_true rfl)) dX11_init_155 ⟨Nat.le_of_ble_eq_true rfl, Nat.le_of_ble_eq_true rfl⟩) hS (rng_sub (by omega)) (fun _ H locs _ hP9 hk40 hS => ?_)
      have hZ := hP9.1
      have h_q60 : PP G (netW G a 60 N0) H := hP9.2
      have h_o : PP G ([(a 0, .inr (11, [.ref (a 1), .ref (a 2), .ref (a 4), .ref (a 6), .ref (a 21), .ref (a 28), .ref (a 31), .ref (a 36), .ref (a 41), .ref (a 42), .ref (a 45), .ref (a 48)]))]) H := kp hk40 h_o (dj_cons (rng_no ha (by omega)) (dj_nil))
      have h_q1 : PP G ([(a 1, .inl (gQ G, 4, .inr (.inr (.inr (.inr (va_up (fun _ => none) 0 (some (a 49))))))))]) H := kp hk40 h_q1 (dj_cons (rng_no ha (by omega)) (dj_nil))
      have h_q2 : PP G (rowW G a 2 4 (fun _ => nI 0)) H := kp hk40 h_q2 (dj_cons (rng_no ha (by omega)) (dj_cons (rng_no ha (by omega)) (dj_nil)))
      have h_q4 : PP G (rowW G a 4 4 (fun _ => nI 0)) H := kp hk40 h_q4 (dj_cons (rng_no ha (by omega)) (dj_cons (rng_no ha (by omega)) (dj_nil)))
      have h_q6 : PP G (makI G a 6) H := kp hk40 h_q6 (dj_rng ha (makI_in (G := G) (a := a) (i := 6)) (by omega))
      have h_q21 : PP G (wirW G a 21 (fun _ => nI 0) (fun _ => nI 0) (fun _ => nI 0)) H := kp hk40 h_q21 (dj_rng ha (wirW_in (G := G) (a := a) (i := 21) (mk := fun _ => nI 0) (bs := fun _ => nI 0) (ld := fun _ => nI 0)) (by omega))
      have h_q28 : PP G (timW G a 28 (nI 0) (fun _ => nI 0)) H := kp hk40 h_q28 (dj_rng ha (timW_in (G := G) (a := a) (i := 28) (x := nI 0) (f := fun _ => nI 0)) (by omega))
      have h_q31 : PP G (lanW G a 31 (fun _ => 0) (fun _ => 0)) H := kp hk40 h_q31 (dj_rng ha (lanW_in (G := G) (a := a) (i := 31) (w := fun _ => 0) (o := fun _ => 0)) (by omega))
      have h_q36 : PP G (lanW G a 36 (fun _ => 0) (fun _ => 0)) H := kp hk40 h_q36 (dj_rng ha (lanW_in (G := G) (a := a) (i := 36) (w := fun _ => 0) (o := fun _ => 0)) (by omega))
      have h_q41 : PP G (talW a 41 0 0 0) H := kp hk40 h_q41 (dj_rng ha (talW_in (a := a) (i := 41) (x := 0) (y := 0) (z := 0)) (by omega))
      have h_q42 : PP G (wavW G a 42 (nI 0) (fun _ => 0)) H := kp hk40 h_q42 (dj_rng ha (wavW_in (G := G) (a := a) (i := 42) (u := nI 0) (w := fun _ => 0)) (by omega))
      have h_q45 : PP G (ticW G a 45 (fun _ => nI 0)) H := kp hk40 h_q45 (dj_rng ha (ticW_in (G := G) (a := a) (i := 45) (f := fun _ => nI 0)) (by omega))
      have h_q48 : PP G (audW a 48 (nI 0) (nI 0) (nI 0) (nI 0) (nI 0)) H := kp hk40 h_q48 (dj_rng ha (audW_in (a := a) (i := 48) (x := nI 0) (y := nI 0) (z := nI 0) (v := nI 0) (u := nI 0)) (by omega))
      have h_q49 : PP G (netW G a 49 N0) H := kp hk40 h_q49 (dj_rng ha (netW_in (G := G) (a := a) (j := 49) (N := N0)) (by omega))
      refine pp_astq hx hb hK h_q1 (P_app1 h_q60) (ne_a ha (by omega)) hS (rng_in (by omega)) (rng_in (by omega)) (vp_in_nI (by omega) (by omega)) dX11_init_158 (fun H locs hP9 hk41 hz9 hS => ?_)
      rw [nI_clamp (by omega)] at hP9
      have h_q1 : PP G ([(a 1, .inl (gQ G, 4, .inr (.inr (.inr (.inr (va_up (va_up (fun _ => none) 0 (some (a 49))) 1 (some (a 60))))))))]) H := hP9
      have h_o : PP G ([(a 0, .inr (11, [.ref (a 1), .ref (a 2), .ref (a 4), .ref (a 6), .ref (a 21), .ref (a 28), .ref (a 31), .ref (a 36), .ref (a 41), .ref (a 42), .ref (a 45), .ref (a 48)]))]) H := kp hk41 h_o (dj_cons (ne_a ha (by omega)) (dj_nil))
      have h_q2 : PP G (rowW G a 2 4 (fun _ => nI 0)) H := kp hk41 h_q2 (dj_cons (ne_a ha (by omega)) (dj_cons (ne_a ha (by omega)) (dj_nil)))
      have h_q4 : PP G (rowW G a 4 4 (fun _ => nI 0)) H := kp hk41 h_q4 (dj_cons (ne_a ha (by omega)) (dj_cons (ne_a ha (by omega)) (dj_nil)))
      have h_q6 : PP G (makI G a 6) H := kp hk41 h_q6 (dj_one ha (makI_in (G := G) (a := a) (i := 6)) (by omega))
      have h_q21 : PP G (wirW G a 21 (fun _ => nI 0) (fun _ => nI 0) (fun _ => nI 0)) H := kp hk41 h_q21 (dj_one ha (wirW_in (G := G) (a := a) (i := 21) (mk := fun _ => nI 0) (bs := fun _ => nI 0) (ld := fun _ => nI 0)) (by omega))
      have h_q28 : PP G (timW G a 28 (nI 0) (fun _ => nI 0)) H := kp hk41 h_q28 (dj_one ha (timW_in (G := G) (a := a) (i := 28) (x := nI 0) (f := fun _ => nI 0)) (by omega))
      have h_q31 : PP G (lanW G a 31 (fun _ => 0) (fun _ => 0)) H := kp hk41 h_q31 (dj_one ha (lanW_in (G := G) (a := a) (i := 31) (w := fun _ => 0) (o := fun _ => 0)) (by omega))
      have h_q36 : PP G (lanW G a 36 (fun _ => 0) (fun _ => 0)) H := kp hk41 h_q36 (dj_one ha (lanW_in (G := G) (a := a) (i := 36) (w := fun _ => 0) (o := fun _ => 0)) (by omega))
      have h_q41 : PP G (talW a 41 0 0 0) H := kp hk41 h_q41 (dj_one ha (talW_in (a := a) (i := 41) (x := 0) (y := 0) (z := 0)) (by omega))
      have h_q42 : PP G (wavW G a 42 (nI 0) (fun _ => 0)) H := kp hk41 h_q42 (dj_one ha (wavW_in (G := G) (a := a) (i := 42) (u := nI 0) (w := fun _ => 0)) (by omega))
      have h_q45 : PP G (ticW G a 45 (fun _ => nI 0)) H := kp hk41 h_q45 (dj_one ha (ticW_in (G := G) (a := a) (i := 45) (f := fun _ => nI 0)) (by omega))
      have h_q48 : PP G (audW a 48 (nI 0) (nI 0) (nI 0) (nI 0) (nI 0)) H := kp hk41 h_q48 (dj_one ha (audW_in (a := a) (i := 48) (x := nI 0) (y := nI 0) (z := nI 0) (v := nI 0) (u := nI 0)) (by omega))
      have h_q49 : PP G (netW G a 49 N0) H := kp hk41 h_q49 (dj_one ha (netW_in (G := G) (a := a) (j := 49) (N := N0)) (by omega))
      have h_q60 : PP G (netW G a 60 N0) H := kp hk41 h_q60 (dj_one ha (netW_in (G := G) (a := a) (j := 60) (N := N0)) (by omega))
      have hZ := hz9.trans hZ
      refine lv_iinc (v := nI 2) (lv' := [(1, .int (nI 2)), (0, .ref (a 0))]) hx hb dX11_init_159 hl (k := 0) rfl (by first | exact nI_add _ 1 | decide) (by decide) rfl (fun ls hl => ?_)
      refine lv_goto (tgt := 137) hx hb dX11_init_162 (by decide) ?_
      refine lv_iload_n hx hb dX11_init_137 rfl (lv_at hl 0 rfl) ?_
      refine lv_aload_n hx hb dX11_init_138 rfl (lv_at hl 1 rfl) ?_
      refine va_get (D := G.1) (ci := 11) (v := .ref (a 1)) (C := RX11) (T := TX11) (N := 12) hx hb hts inX11_init_11 hown hK h_o 0 rfl rfl 0 (by decide) (hts (.fieldLink RX11 11 "GateLedger" "nets" "[LGateLedger$Net;") (List.mem_of_getElem? (i := 5) (by decide +kernel))) (fun _ h9 => h9) rfl dX11_init_139 ?_
      refine va_alen hx hb hK h_q1 0 2 rfl rfl (v := nI 4) rfl dX11_init_142 ?_
      refine lv_icmp_ge (tgt := 165) hx hb dX11_init_143 (by decide) (fun c143 => ?_) (fun c143 => ?_)
      · exact absurd c143 (by decide)
      · skip
        refine lv_aload_n hx hb dX11_init_146 rfl (lv_at hl 1 rfl) ?_
        refine va_get (D := G.1) (ci := 11) (v := .ref (a 1)) (C := RX11) (T := TX11) (N := 12) hx hb hts inX11_init_11 hown hK h_o 0 rfl rfl 0 (by decide) (hts (.fieldLink RX11 11 "GateLedger" "nets" "[LGateLedger$Net;") (List.mem_of_getElem? (i := 5) (by decide +kernel))) (fun _ h9 => h9) rfl dX11_init_147 ?_
        refine lv_iload_n hx hb dX11_init_150 rfl (lv_at hl 0 rfl) ?_
        refine pp_new (a := a) (b0 := b0) (ci := 3) (fs := [.null, .null, .null, .null, .null, .int (nI 0), .int (nI 0), .int (nI 0)]) (C := RX3) (T := TX3) (N := 8) hx hb hts inX11_init_3 tyX3 tyX3_ok hown (hts (.classLink RX11 9 RX3) (List.mem_of_getElem? (i := 4) (by decide +kernel))) (hts (.instantiable RX3 8) (List.mem_of_getElem? (i := 44) (by decide +kernel))) (hts (.initialized RX3) (List.mem_of_getElem? (i := 45) (by decide +kernel))) hK rfl (fun j hj => by rcases (show j = 0 ∨ j = 1 ∨ j = 2 ∨ j = 3 ∨ j = 4 ∨ j = 5 ∨ j = 6 ∨ j = 7 by omega) with rfl | rfl | rfl | rfl | rfl | rfl | rfl | rfl <;> rfl) hab hZ (j1 := 72) (by omega) hS (Nat.le_of_ble_eq_true rfl) (Nat.le_of_ble_eq_true rfl) dX11_init_151 (fun H hP9 hk42 hZ hS => ?_)
        have h_q71 : PP G ([(a 71, .inr (3, [.null, .null, .null, .null, .null, .int (nI 0), .int (nI 0), .int (nI 0)]))]) H := hP9
        have h_o : PP G ([(a 0, .inr (11, [.ref (a 1), .ref (a 2), .ref (a 4), .ref (a 6), .ref (a 21), .ref (a 28), .ref (a 31), .ref (a 36), .ref (a 41), .ref (a 42), .ref (a 45), .ref (a 48)]))]) H := kpF hk42 h_o
        have h_q1 : PP G ([(a 1, .inl (gQ G, 4, .inr (.inr (.inr (.inr (va_up (va_up (fun _ => none) 0 (some (a 49))) 1 (some (a 60))))))))]) H := kpF hk42 h_q1
        have h_q2 : PP G (rowW G a 2 4 (fun _ => nI 0)) H := kpF hk42 h_q2
        have h_q4 : PP G (rowW G a 4 4 (fun _ => nI 0)) H := kpF hk42 h_q4
        have h_q6 : PP G (makI G a 6) H := kpF hk42 h_q6
        have h_q21 : PP G (wirW G a 21 (fun _ => nI 0) (fun _ => nI 0) (fun _ => nI 0)) H := kpF hk42 h_q21
        have h_q28 : PP G (timW G a 28 (nI 0) (fun _ => nI 0)) H := kpF hk42 h_q28
        have h_q31 : PP G (lanW G a 31 (fun _ => 0) (fun _ => 0)) H := kpF hk42 h_q31
        have h_q36 : PP G (lanW G a 36 (fun _ => 0) (fun _ => 0)) H := kpF hk42 h_q36
        have h_q41 : PP G (talW a 41 0 0 0) H := kpF hk42 h_q41
        have h_q42 : PP G (wavW G a 42 (nI 0) (fun _ => 0)) H := kpF hk42 h_q42
        have h_q45 : PP G (ticW G a 45 (fun _ => nI 0)) H := kpF hk42 h_q45
        have h_q48 : PP G (audW a 48 (nI 0) (nI 0) (nI 0) (nI 0) (nI 0)) H := kpF hk42 h_q48
        have h_q49 : PP G (netW G a 49 N0) H := kpF hk42 h_q49
        have h_q60 : PP G (netW G a 60 N0) H := kpF hk42 h_q60
        refine lv_dup hx hb dX11_init_154 rfl ?_
        refine wr_v (va_runIN (As := []) (rest := [.ref (a 71), .int (nI 2), .ref (a 1)]) FX (c_X3_init l G a b0 hab 71) ⟨va_cnB 0 hts gX11_init_X3_init_n86 rfl rfl rfl (hNI.2.2.2.2.2.2.2.2) (hts (.initialized RX3) (List.mem_of_getElem? (i := 45) (by decide +kernel))) (by decide +kernel) ⟨Nat.le_of_ble_eq_true rfl, Nat.le_of_ble_eq_true rfl⟩, rfl, (hts (.instanceMethod yX3_init) (List.mem_of_getElem? (i := 110) (by decide +kernel)))⟩ (preS hK hNW ⟨hZ, h_q71⟩) rfl rfl hl.1 rfl (lv_room (Nat.le_of_ble_eq_true rfl)) dX11_init_155 ⟨Nat.le_of_ble_eq_true rfl, Nat.le_of_ble_eq_true rfl⟩) hS (rng_sub (by omega)) (fun _ H locs _ hP9 hk43 hS => ?_)
        have hZ := hP9.1
        have h_q71 : PP G (netW G a 71 N0) H := hP9.2
        have h_o : PP G ([(a 0, .inr (11, [.ref (a 1), .ref (a 2), .ref (a 4), .ref (a 6), .ref (a 21), .ref (a 28), .ref (a 31), .ref (a 36), .ref (a 41), .ref (a 42), .ref (a 45), .ref (a 48)]))]) H := kp hk43 h_o (dj_cons (rng_no ha (by omega)) (dj_nil))
        have h_q1 : PP G ([(a 1, .inl (gQ G, 4, .inr (.inr (.inr (.inr (va_up (va_up (fun _ => none) 0 (some (a 49))) 1 (some (a 60))))))))]) H := kp hk43 h_q1 (dj_cons (rng_no ha (by omega)) (dj_nil))
        have h_q2 : PP G (rowW G a 2 4 (fun _ => nI 0)) H := kp hk43 h_q2 (dj_cons (rng_no ha (by omega)) (dj_cons (rng_no ha (by omega)) (dj_nil)))
        have h_q4 : PP G (rowW G a 4 4 (fun _ => nI 0)) H := kp hk43 h_q4 (dj_cons (rng_no ha (by omega)) (dj_cons (rng_no ha (by omega)) (dj_nil)))
        have h_q6 : PP G (makI G a 6) H := kp hk43 h_q6 (dj_rng ha (makI_in (G := G) (a := a) (i := 6)) (by omega))
        have h_q21 : PP G (wirW G a 21 (fun _ => nI 0) (fun _ => nI 0) (fun _ => nI 0)) H := kp hk43 h_q21 (dj_rng ha (wirW_in (G := G) (a := a) (i := 21) (mk := fun _ => nI 0) (bs := fun _ => nI 0) (ld := fun _ => nI 0)) (by omega))
        have h_q28 : PP G (timW G a 28 (nI 0) (fun _ => nI 0)) H := kp hk43 h_q28 (dj_rng ha (timW_in (G := G) (a := a) (i := 28) (x := nI 0) (f := fun _ => nI 0)) (by omega))
        have h_q31 : PP G (lanW G a 31 (fun _ => 0) (fun _ => 0)) H := kp hk43 h_q31 (dj_rng ha (lanW_in (G := G) (a := a) (i := 31) (w := fun _ => 0) (o := fun _ => 0)) (by omega))
        have h_q36 : PP G (lanW G a 36 (fun _ => 0) (fun _ => 0)) H := kp hk43 h_q36 (dj_rng ha (lanW_in (G := G) (a := a) (i := 36) (w := fun _ => 0) (o := fun _ => 0)) (by omega))
        have h_q41 : PP G (talW a 41 0 0 0) H := kp hk43 h_q41 (dj_rng ha (talW_in (a := a) (i := 41) (x := 0) (y := 0) (z := 0)) (by omega))
        have h_q42 : PP G (wavW G a 42 (nI 0) (fun _ => 0)) H := kp hk43 h_q42 (dj_rng ha (wavW_in (G := G) (a := a) (i := 42) (u := nI 0) (w := fun _ => 0)) (by omega))
        have h_q45 : PP G (ticW G a 45 (fun _ => nI 0)) H := kp hk43 h_q45 (dj_rng ha (ticW_in (G := G) (a := a) (i := 45) (f := fun _ => nI 0)) (by omega))
        have h_q48 : PP G (audW a 48 (nI 0) (nI 0) (nI 0) (nI 0) (nI 0)) H := kp hk43 h_q48 (dj_rng ha (audW_in (a := a) (i := 48) (x := nI 0) (y := nI 0) (z := nI 0) (v := nI 0) (u := nI 0)) (by omega))
        have h_q49 : PP G (netW G a 49 N0) H := kp hk43 h_q49 (dj_rng ha (netW_in (G := G) (a := a) (j := 49) (N := N0)) (by omega))
        have h_q60 : PP G (netW G a 60 N0) H := kp hk43 h_q60 (dj_rng ha (netW_in (G := G) (a := a) (j := 60) (N := N0)) (by omega))
        refine pp_astq hx hb hK h_q1 (P_app1 h_q71) (ne_a ha (by omega)) hS (rng_in (by omega)) (rng_in (by omega)) (vp_in_nI (by omega) (by omega)) dX11_init_158 (fun H locs hP9 hk44 hz9 hS => ?_)
        rw [nI_clamp (by omega)] at hP9
        have h_q1 : PP G ([(a 1, .inl (gQ G, 4, .inr (.inr (.inr (.inr (va_up (va_up (va_up (fun _ => none) 0 (some (a 49))) 1 (some (a 60))) 2 (some (a 71))))))))]) H := hP9
        have h_o : PP G ([(a 0, .inr (11, [.ref (a 1), .ref (a 2), .ref (a 4), .ref (a 6), .ref (a 21), .ref (a 28), .ref (a 31), .ref (a 36), .ref (a 41), .ref (a 42), .ref (a 45), .ref (a 48)]))]) H := kp hk44 h_o (dj_cons (ne_a ha (by omega)) (dj_nil))
        have h_q2 : PP G (rowW G a 2 4 (fun _ => nI 0)) H := kp hk44 h_q2 (dj_cons (ne_a ha (by omega)) (dj_cons (ne_a ha (by omega)) (dj_nil)))
        have h_q4 : PP G (rowW G a 4 4 (fun _ => nI 0)) H := kp hk44 h_q4 (dj_cons (ne_a ha (by omega)) (dj_cons (ne_a ha (by omega)) (dj_nil)))
        have h_q6 : PP G (makI G a 6) H := kp hk44 h_q6 (dj_one ha (makI_in (G := G) (a := a) (i := 6)) (by omega))
        have h_q21 : PP G (wirW G a 21 (fun _ => nI 0) (fun _ => nI 0) (fun _ => nI 0)) H := kp hk44 h_q21 (dj_one ha (wirW_in (G := G) (a := a) (i := 21) (mk := fun _ => nI 0) (bs := fun _ => nI 0) (ld := fun _ => nI 0)) (by omega))
        have h_q28 : PP G (timW G a 28 (nI 0) (fun _ => nI 0)) H := kp hk44 h_q28 (dj_one ha (timW_in (G := G) (a := a) (i := 28) (x := nI 0) (f := fun _ => nI 0)) (by omega))
        have h_q31 : PP G (lanW G a 31 (fun _ => 0) (fun _ => 0)) H := kp hk44 h_q31 (dj_one ha (lanW_in (G := G) (a := a) (i := 31) (w := fun _ => 0) (o := fun _ => 0)) (by omega))
        have h_q36 : PP G (lanW G a 36 (fun _ => 0) (fun _ => 0)) H := kp hk44 h_q36 (dj_one ha (lanW_in (G := G) (a := a) (i := 36) (w := fun _ => 0) (o := fun _ => 0)) (by omega))
        have h_q41 : PP G (talW a 41 0 0 0) H := kp hk44 h_q41 (dj_one ha (talW_in (a := a) (i := 41) (x := 0) (y := 0) (z := 0)) (by omega))
        have h_q42 : PP G (wavW G a 42 (nI 0) (fun _ => 0)) H := kp hk44 h_q42 (dj_one ha (wavW_in (G := G) (a := a) (i := 42) (u := nI 0) (w := fun _ => 0)) (by omega))
        have h_q45 : PP G (ticW G a 45 (fun _ => nI 0)) H := kp hk44 h_q45 (dj_one ha (ticW_in (G := G) (a := a) (i := 45) (f := fun _ => nI 0)) (by omega))
        have h_q48 : PP G (audW a 48 (nI 0) (nI 0) (nI 0) (nI 0) (nI 0)) H := kp hk44 h_q48 (dj_one ha (audW_in (a := a) (i := 48) (x := nI 0) (y := nI 0) (z := nI 0) (v := nI 0) (u := nI 0)) (by omega))
        have h_q49 : PP G (netW G a 49 N0) H := kp hk44 h_q49 (dj_one ha (netW_in (G := G) (a := a) (j := 49) (N := N0)) (by omega))
        have h_q60 : PP G (netW G a 60 N0) H := kp hk44 h_q60 (dj_one ha (netW_in (G := G) (a := a) (j := 60) (N := N0)) (by omega))
        have h_q71 : PP G (netW G a 71 N0) H := kp hk44 h_q71 (dj_one ha (netW_in (G := G) (a := a) (j := 71) (N := N0)) (by omega))
        have hZ := hz9.trans hZ
        refine lv_iinc (v := nI 3) (lv' := [(1, .int (nI 3)), (0, .ref (a 0))]) hx hb dX11_init_159 hl (k := 0) rfl (by first | exact nI_add _ 1 | decide) (by decide) rfl (fun ls hl => ?_)
        refine lv_goto (tgt := 137) hx hb dX11_init_162 (by decide) ?_
        refine lv_iload_n hx hb dX11_init_137 rfl (lv_at hl 0 rfl) ?_
        refine lv_aload_n hx hb dX11_init_138 rfl (lv_at hl 1 rfl) ?_
        refine va_get (D := G.1) (ci := 11) (v := .ref (a 1)) (C := RX11) (T := TX11) (N := 12) hx hb hts inX11_init_11 hown hK h_o 0 rfl rfl 0 (by decide) (hts (.fieldLink RX11 11 "GateLedger" "nets" "[LGateLedger$Net;") (List.mem_of_getElem? (i := 5) (by decide +kernel))) (fun _ h9 => h9) rfl dX11_init_139 ?_
        refine va_alen hx hb hK h_q1 0 2 rfl rfl (v := nI 4) rfl dX11_init_142 ?_
        refine lv_icmp_ge (tgt := 165) hx hb dX11_init_143 (by decide) (fun c143 => ?_) (fun c143 => ?_)
        · exact absurd c143 (by decide)
        · skip
          refine lv_aload_n hx hb dX11_init_146 rfl (lv_at hl 1 rfl) ?_
          refine va_get (D := G.1) (ci := 11) (v := .ref (a 1)) (C := RX11) (T := TX11) (N := 12) hx hb hts inX11_init_11 hown hK h_o 0 rfl rfl 0 (by decide) (hts (.fieldLink RX11 11 "GateLedger" "nets" "[LGateLedger$Net;") (List.mem_of_getElem? (i := 5) (by decide +kernel))) (fun _ h9 => h9) rfl dX11_init_147 ?_
          refine lv_iload_n hx hb dX11_init_150 rfl (lv_at hl 0 rfl) ?_
          refine pp_new (a := a) (b0 := b0) (ci := 3) (fs := [.null, .null, .null, .null, .null, .int (nI 0), .int (nI 0), .int (nI 0)]) (C := RX3) (T := TX3) (N := 8) hx hb hts inX11_init_3 tyX3 tyX3_ok hown (hts (.classLink RX11 9 RX3) (List.mem_of_getElem? (i := 4) (by decide +kernel))) (hts (.instantiable RX3 8) (List.mem_of_getElem? (i := 44) (by decide +kernel))) (hts (.initialized RX3) (List.mem_of_getElem? (i := 45) (by decide +kernel))) hK rfl (fun j hj => by rcases (show j = 0 ∨ j = 1 ∨ j = 2 ∨ j = 3 ∨ j = 4 ∨ j = 5 ∨ j = 6 ∨ j = 7 by omega) with rfl | rfl | rfl | rfl | rfl | rfl | rfl | rfl <;> rfl) hab hZ (j1 := 83) (by omega) hS (Nat.le_of_ble_eq_true rfl) (Nat.le_of_ble_eq_true rfl) dX11_init_151 (fun H hP9 hk45 hZ hS => ?_)
          have h_q82 : PP G ([(a 82, .inr (3, [.null, .null, .null, .null, .null, .int (nI 0), .int (nI 0), .int (nI 0)]))]) H := hP9
          have h_o : PP G ([(a 0, .inr (11, [.ref (a 1), .ref (a 2), .ref (a 4), .ref (a 6), .ref (a 21), .ref (a 28), .ref (a 31), .ref (a 36), .ref (a 41), .ref (a 42), .ref (a 45), .ref (a 48)]))]) H := kpF hk45 h_o
          have h_q1 : PP G ([(a 1, .inl (gQ G, 4, .inr (.inr (.inr (.inr (va_up (va_up (va_up (fun _ => none) 0 (some (a 49))) 1 (some (a 60))) 2 (some (a 71))))))))]) H := kpF hk45 h_q1
          have h_q2 : PP G (rowW G a 2 4 (fun _ => nI 0)) H := kpF hk45 h_q2
          have h_q4 : PP G (rowW G a 4 4 (fun _ => nI 0)) H := kpF hk45 h_q4
          have h_q6 : PP G (makI G a 6) H := kpF hk45 h_q6
          have h_q21 : PP G (wirW G a 21 (fun _ => nI 0) (fun _ => nI 0) (fun _ => nI 0)) H := kpF hk45 h_q21
          have h_q28 : PP G (timW G a 28 (nI 0) (fun _ => nI 0)) H := kpF hk45 h_q28
          have h_q31 : PP G (lanW G a 31 (fun _ => 0) (fun _ => 0)) H := kpF hk45 h_q31
          have h_q36 : PP G (lanW G a 36 (fun _ => 0) (fun _ => 0)) H := kpF hk45 h_q36
          have h_q41 : PP G (talW a 41 0 0 0) H := kpF hk45 h_q41
          have h_q42 : PP G (wavW G a 42 (nI 0) (fun _ => 0)) H := kpF hk45 h_q42
          have h_q45 : PP G (ticW G a 45 (fun _ => nI 0)) H := kpF hk45 h_q45
          have h_q48 : PP G (audW a 48 (nI 0) (nI 0) (nI 0) (nI 0) (nI 0)) H := kpF hk45 h_q48
          have h_q49 : PP G (netW G a 49 N0) H := kpF hk45 h_q49
          have h_q60 : PP G (netW G a 60 N0) H := kpF hk45 h_q60
          have h_q71 : PP G (netW G a 71 N0) H := kpF hk45 h_q71
          refine lv_dup hx hb dX11_init_154 rfl ?_
          refine wr_v (va_runIN (As := []) (rest := [.ref (a 82), .int (nI 3), .ref (a 1)]) FX (c_X3_init l G a b0 hab 82) ⟨va_cnB 0 hts gX11_init_X3_init_n86 rfl rfl rfl (hNI.2.2.2.2.2.2.2.2) (hts (.initialized RX3) (List.mem_of_getElem? (i := 45) (by decide +kernel))) (by decide +kernel) ⟨Nat.le_of_ble_eq_true rfl, Nat.le_of_ble_eq_true rfl⟩, rfl, (hts (.instanceMethod yX3_init) (List.mem_of_getElem? (i := 110) (by decide +kernel)))⟩ (preS hK hNW ⟨hZ, h_q82⟩) rfl rfl hl.1 rfl (lv_room (Nat.le_of_ble_eq_true rfl)) dX11_init_155 ⟨Nat.le_of_ble_eq_true rfl, Nat.le_of_ble_eq_true rfl⟩) hS (rng_sub (by omega)) (fun _ H locs _ hP9 hk46 hS => ?_)
          have hZ := hP9.1
          have h_q82 : PP G (netW G a 82 N0) H := hP9.2
          have h_o : PP G ([(a 0, .inr (11, [.ref (a 1), .ref (a 2), .ref (a 4), .ref (a 6), .ref (a 21), .ref (a 28), .ref (a 31), .ref (a 36), .ref (a 41), .ref (a 42), .ref (a 45), .ref (a 48)]))]) H := kp hk46 h_o (dj_cons (rng_no ha (by omega)) (dj_nil))
          have h_q1 : PP G ([(a 1, .inl (gQ G, 4, .inr (.inr (.inr (.inr (va_up (va_up (va_up (fun _ => none) 0 (some (a 49))) 1 (some (a 60))) 2 (some (a 71))))))))]) H := kp hk46 h_q1 (dj_cons (rng_no ha (by omega)) (dj_nil))
          have h_q2 : PP G (rowW G a 2 4 (fun _ => nI 0)) H := kp hk46 h_q2 (dj_cons (rng_no ha (by omega)) (dj_cons (rng_no ha (by omega)) (dj_nil)))
          have h_q4 : PP G (rowW G a 4 4 (fun _ => nI 0)) H := kp hk46 h_q4 (dj_cons (rng_no ha (by omega)) (dj_cons (rng_no ha (by omega)) (dj_nil)))
          have h_q6 : PP G (makI G a 6) H := kp hk46 h_q6 (dj_rng ha (makI_in (G := G) (a := a) (i := 6)) (by omega))
          have h_q21 : PP G (wirW G a 21 (fun _ => nI 0) (fun _ => nI 0) (fun _ => nI 0)) H := kp hk46 h_q21 (dj_rng ha (wirW_in (G := G) (a := a) (i := 21) (mk := fun _ => nI 0) (bs := fun _ => nI 0) (ld := fun _ => nI 0)) (by omega))
          have h_q28 : PP G (timW G a 28 (nI 0) (fun _ => nI 0)) H := kp hk46 h_q28 (dj_rng ha (timW_in (G := G) (a := a) (i := 28) (x := nI 0) (f := fun _ => nI 0)) (by omega))
          have h_q31 : PP G (lanW G a 31 (fun _ => 0) (fun _ => 0)) H := kp hk46 h_q31 (dj_rng ha (lanW_in (G := G) (a := a) (i := 31) (w := fun _ => 0) (o := fun _ => 0)) (by omega))
          have h_q36 : PP G (lanW G a 36 (fun _ => 0) (fun _ => 0)) H := kp hk46 h_q36 (dj_rng ha (lanW_in (G := G) (a := a) (i := 36) (w := fun _ => 0) (o := fun _ => 0)) (by omega))
          have h_q41 : PP G (talW a 41 0 0 0) H := kp hk46 h_q41 (dj_rng ha (talW_in (a := a) (i := 41) (x := 0) (y := 0) (z := 0)) (by omega))
          have h_q42 : PP G (wavW G a 42 (nI 0) (fun _ => 0)) H := kp hk46 h_q42 (dj_rng ha (wavW_in (G := G) (a := a) (i := 42) (u := nI 0) (w := fun _ => 0)) (by omega))
          have h_q45 : PP G (ticW G a 45 (fun _ => nI 0)) H := kp hk46 h_q45 (dj_rng ha (ticW_in (G := G) (a := a) (i := 45) (f := fun _ => nI 0)) (by omega))
          have h_q48 : PP G (audW a 48 (nI 0) (nI 0) (nI 0) (nI 0) (nI 0)) H := kp hk46 h_q48 (dj_rng ha (audW_in (a := a) (i := 48) (x := nI 0) (y := nI 0) (z := nI 0) (v := nI 0) (u := nI 0)) (by omega))
          have h_q49 : PP G (netW G a 49 N0) H := kp hk46 h_q49 (dj_rng ha (netW_in (G := G) (a := a) (j := 49) (N := N0)) (by omega))
          have h_q60 : PP G (netW G a 60 N0) H := kp hk46 h_q60 (dj_rng ha (netW_in (G := G) (a := a) (j := 60) (N := N0)) (by omega))
          have h_q71 : PP G (netW G a 71 N0) H := kp hk46 h_q71 (dj_rng ha (netW_in (G := G) (a := a) (j := 71) (N := N0)) (by omega))
          refine pp_astq hx hb hK h_q1 (P_app1 h_q82) (ne_a ha (by omega)) hS (rng_in (by omega)) (rng_in (by omega)) (vp_in_nI (by omega) (by omega)) dX11_init_158 (fun H locs hP9 hk47 hz9 hS => ?_)
          rw [nI_clamp (by omega)] at hP9
          have h_q1 : PP G ([(a 1, .inl (gQ G, 4, .inr (.inr (.inr (.inr (va_up (va_up (va_up (va_up (fun _ => none) 0 (some (a 49))) 1 (some (a 60))) 2 (some (a 71))) 3 (some (a 82))))))))]) H := hP9
          have h_o : PP G ([(a 0, .inr (11, [.ref (a 1), .ref (a 2), .ref (a 4), .ref (a 6), .ref (a 21), .ref (a 28), .ref (a 31), .ref (a 36), .ref (a 41), .ref (a 42), .ref (a 45), .ref (a 48)]))]) H := kp hk47 h_o (dj_cons (ne_a ha (by omega)) (dj_nil))
          have h_q2 : PP G (rowW G a 2 4 (fun _ => nI 0)) H := kp hk47 h_q2 (dj_cons (ne_a ha (by omega)) (dj_cons (ne_a ha (by omega)) (dj_nil)))
          have h_q4 : PP G (rowW G a 4 4 (fun _ => nI 0)) H := kp hk47 h_q4 (dj_cons (ne_a ha (by omega)) (dj_cons (ne_a ha (by omega)) (dj_nil)))
          have h_q6 : PP G (makI G a 6) H := kp hk47 h_q6 (dj_one ha (makI_in (G := G) (a := a) (i := 6)) (by omega))
          have h_q21 : PP G (wirW G a 21 (fun _ => nI 0) (fun _ => nI 0) (fun _ => nI 0)) H := kp hk47 h_q21 (dj_one ha (wirW_in (G := G) (a := a) (i := 21) (mk := fun _ => nI 0) (bs := fun _ => nI 0) (ld := fun _ => nI 0)) (by omega))
          have h_q28 : PP G (timW G a 28 (nI 0) (fun _ => nI 0)) H := kp hk47 h_q28 (dj_one ha (timW_in (G := G) (a := a) (i := 28) (x := nI 0) (f := fun _ => nI 0)) (by omega))
          have h_q31 : PP G (lanW G a 31 (fun _ => 0) (fun _ => 0)) H := kp hk47 h_q31 (dj_one ha (lanW_in (G := G) (a := a) (i := 31) (w := fun _ => 0) (o := fun _ => 0)) (by omega))
          have h_q36 : PP G (lanW G a 36 (fun _ => 0) (fun _ => 0)) H := kp hk47 h_q36 (dj_one ha (lanW_in (G := G) (a := a) (i := 36) (w := fun _ => 0) (o := fun _ => 0)) (by omega))
          have h_q41 : PP G (talW a 41 0 0 0) H := kp hk47 h_q41 (dj_one ha (talW_in (a := a) (i := 41) (x := 0) (y := 0) (z := 0)) (by omega))
          have h_q42 : PP G (wavW G a 42 (nI 0) (fun _ => 0)) H := kp hk47 h_q42 (dj_one ha (wavW_in (G := G) (a := a) (i := 42) (u := nI 0) (w := fun _ => 0)) (by omega))
          have h_q45 : PP G (ticW G a 45 (fun _ => nI 0)) H := kp hk47 h_q45 (dj_one ha (ticW_in (G := G) (a := a) (i := 45) (f := fun _ => nI 0)) (by omega))
          have h_q48 : PP G (audW a 48 (nI 0) (nI 0) (nI 0) (nI 0) (nI 0)) H := kp hk47 h_q48 (dj_one ha (audW_in (a := a) (i := 48) (x := nI 0) (y := nI 0) (z := nI 0) (v := nI 0) (u := nI 0)) (by omega))
          have h_q49 : PP G (netW G a 49 N0) H := kp hk47 h_q49 (dj_one ha (netW_in (G := G) (a := a) (j := 49) (N := N0)) (by omega))
          have h_q60 : PP G (netW G a 60 N0) H := kp hk47 h_q60 (dj_one ha (netW_in (G := G) (a := a) (j := 60) (N := N0)) (by omega))
          have h_q71 : PP G (netW G a 71 N0) H := kp hk47 h_q71 (dj_one ha (netW_in (G := G) (a := a) (j := 71) (N := N0)) (by omega))
          have h_q82 : PP G (netW G a 82 N0) H := kp hk47 h_q82 (dj_one ha (netW_in (G := G) (a := a) (j := 82) (N := N0)) (by omega))
          have hZ := hz9.trans hZ
          refine lv_iinc (v := nI 4) (lv' := [(1, .int (nI 4)), (0, .ref (a 0))]) hx hb dX11_init_159 hl (k := 0) rfl (by first | exact nI_add _ 1 | decide) (by decide) rfl (fun ls hl => ?_)
          refine lv_goto (tgt := 137) hx hb dX11_init_162 (by decide) ?_
          refine lv_iload_n hx hb dX11_init_137 rfl (lv_at hl 0 rfl) ?_
          refine lv_aload_n hx hb dX11_init_138 rfl (lv_at hl 1 rfl) ?_
          refine va_get (D := G.1) (ci := 11) (v := .ref (a 1)) (C := RX11) (T := TX11) (N := 12) hx hb hts inX11_init_11 hown hK h_o 0 rfl rfl 0 (by decide) (hts (.fieldLink RX11 11 "GateLedger" "nets" "[LGateLedger$Net;") (List.mem_of_getElem? (i := 5) (by decide +kernel))) (fun _ h9 => h9) rfl dX11_init_139 ?_
          refine va_alen hx hb hK h_q1 0 2 rfl rfl (v := nI 4) rfl dX11_init_142 ?_
          refine lv_icmp_ge (tgt := 165) hx hb dX11_init_143 (by decide) (fun c143 => ?_) (fun c143 => ?_)
          · skip
            refine lv_iconst (v := nI 0) hx hb dX11_init_165 (by decide) ?_
            refine lv_istore_n (lv' := [(1, .int (nI 0)), (0, .ref (a 0))]) hx hb dX11_init_166 rfl hl (by decide) rfl (fun ls hl => ?_)
            refine lv_iload_n hx hb dX11_init_167 rfl (lv_at hl 0 rfl) ?_
            refine lv_iconst (v := nI 3) hx hb dX11_init_168 (by decide) ?_
            refine lv_icmp_gt (tgt := 196) hx hb dX11_init_169 (by decide) (fun c169 => ?_) (fun c169 => ?_)
            · exact absurd c169 (by decide)
            · skip
              refine lv_aload_n hx hb dX11_init_172 rfl (lv_at hl 1 rfl) ?_
              refine va_get (D := G.1) (ci := 11) (v := .ref (a 2)) (C := RX11) (T := TX11) (N := 12) hx hb hts inX11_init_11 hown hK h_o 0 rfl rfl 1 (by decide) (hts (.fieldLink RX11 20 "GateLedger" "delays" "LGateLedger$Row;") (List.mem_of_getElem? (i := 9) (by decide +kernel))) (fun _ h9 => h9) rfl dX11_init_173 ?_
              refine lv_iload_n hx hb dX11_init_176 rfl (lv_at hl 0 rfl) ?_
              refine lv_iconst (v := nI 1) hx hb dX11_init_177 (by decide) ?_
              refine wr_v (va_runV (As := [.int (nI 0), .int (nI 1)]) (rest := []) FX (c_X4_put l G a ha 2 4 (fun _ => nI 0) (nI 0) (nI 1) (by decide)) (cwV 2 hts gX11_init_X4_put rfl rfl rfl (by decide +kernel) ⟨Nat.le_of_ble_eq_true rfl, Nat.le_of_ble_eq_true rfl⟩) (preV hK hNW h_q2 (va_recv hK h_q2 (ci := 4) (q0 := 0) rfl rfl)) rfl rfl hl.1 rfl (lv_room (Nat.le_of_ble_eq_true rfl)) dX11_init_178 ⟨Nat.le_of_ble_eq_true rfl, Nat.le_of_ble_eq_true rfl⟩) hS (rng_sub (by omega)) (fun _ H locs _ hP9 hk48 hS => ?_)
              rw [rowPut_in (by omega) (by decide)] at hP9
              have h_q2 : PP G (rowW G a 2 4 (upd (fun _ => nI 0) 0 (nI 1))) H := hP9
              have h_o : PP G ([(a 0, .inr (11, [.ref (a 1), .ref (a 2), .ref (a 4), .ref (a 6), .ref (a 21), .ref (a 28), .ref (a 31), .ref (a 36), .ref (a 41), .ref (a 42), .ref (a 45), .ref (a 48)]))]) H := kp hk48 h_o (dj_cons (rng_no ha (by omega)) (dj_nil))
              have h_q1 : PP G ([(a 1, .inl (gQ G, 4, .inr (.inr (.inr (.inr (va_up (va_up (va_up (va_up (fun _ => none) 0 (some (a 49))) 1 (some (a 60))) 2 (some (a 71))) 3 (some (a 82))))))))]) H := kp hk48 h_q1 (dj_cons (rng_no ha (by omega)) (dj_nil))
              have h_q4 : PP G (rowW G a 4 4 (fun _ => nI 0)) H := kp hk48 h_q4 (dj_cons (rng_no ha (by omega)) (dj_cons (rng_no ha (by omega)) (dj_nil)))
              have h_q6 : PP G (makI G a 6) H := kp hk48 h_q6 (dj_rng ha (makI_in (G := G) (a := a) (i := 6)) (by omega))
              have h_q21 : PP G (wirW G a 21 (fun _ => nI 0) (fun _ => nI 0) (fun _ => nI 0)) H := kp hk48 h_q21 (dj_rng ha (wirW_in (G := G) (a := a) (i := 21) (mk := fun _ => nI 0) (bs := fun _ => nI 0) (ld := fun _ => nI 0)) (by omega))
              have h_q28 : PP G (timW G a 28 (nI 0) (fun _ => nI 0)) H := kp hk48 h_q28 (dj_rng ha (timW_in (G := G) (a := a) (i := 28) (x := nI 0) (f := fun _ => nI 0)) (by omega))
              have h_q31 : PP G (lanW G a 31 (fun _ => 0) (fun _ => 0)) H := kp hk48 h_q31 (dj_rng ha (lanW_in (G := G) (a := a) (i := 31) (w := fun _ => 0) (o := fun _ => 0)) (by omega))
              have h_q36 : PP G (lanW G a 36 (fun _ => 0) (fun _ => 0)) H := kp hk48 h_q36 (dj_rng ha (lanW_in (G := G) (a := a) (i := 36) (w := fun _ => 0) (o := fun _ => 0)) (by omega))
              have h_q41 : PP G (talW a 41 0 0 0) H := kp hk48 h_q41 (dj_rng ha (talW_in (a := a) (i := 41) (x := 0) (y := 0) (z := 0)) (by omega))
              have h_q42 : PP G (wavW G a 42 (nI 0) (fun _ => 0)) H := kp hk48 h_q42 (dj_rng ha (wavW_in (G := G) (a := a) (i := 42) (u := nI 0) (w := fun _ => 0)) (by omega))
              have h_q45 : PP G (ticW G a 45 (fun _ => nI 0)) H := kp hk48 h_q45 (dj_rng ha (ticW_in (G := G) (a := a) (i := 45) (f := fun _ => nI 0)) (by omega))
              have h_q48 : PP G (audW a 48 (nI 0) (nI 0) (nI 0) (nI 0) (nI 0)) H := kp hk48 h_q48 (dj_rng ha (audW_in (a := a) (i := 48) (x := nI 0) (y := nI 0) (z := nI 0) (v := nI 0) (u := nI 0)) (by omega))
              have h_q49 : PP G (netW G a 49 N0) H := kp hk48 h_q49 (dj_rng ha (netW_in (G := G) (a := a) (j := 49) (N := N0)) (by omega))
              have h_q60 : PP G (netW G a 60 N0) H := kp hk48 h_q60 (dj_rng ha (netW_in (G := G) (a := a) (j := 60) (N := N0)) (by omega))
              have h_q71 : PP G (netW G a 71 N0) H := kp hk48 h_q71 (dj_rng ha (netW_in (G := G) (a := a) (j := 71) (N := N0)) (by omega))
              have h_q82 : PP G (netW G a 82 N0) H := kp hk48 h_q82 (dj_rng ha (netW_in (G := G) (a := a) (j := 82) (N := N0)) (by omega))
              refine lv_aload_n hx hb dX11_init_181 rfl (lv_at hl 1 rfl) ?_
              refine va_get (D := G.1) (ci := 11) (v := .ref (a 4)) (C := RX11) (T := TX11) (N := 12) hx hb hts inX11_init_11 hown hK h_o 0 rfl rfl 2 (by decide) (hts (.fieldLink RX11 24 "GateLedger" "areas" "LGateLedger$Row;") (List.mem_of_getElem? (i := 10) (by decide +kernel))) (fun _ h9 => h9) rfl dX11_init_182 ?_
              refine lv_iload_n hx hb dX11_init_185 rfl (lv_at hl 0 rfl) ?_
              refine lv_iconst (v := nI 1) hx hb dX11_init_186 (by decide) ?_
              refine wr_v (va_runV (As := [.int (nI 0), .int (nI 1)]) (rest := []) FX (c_X4_put l G a ha 4 4 (fun _ => nI 0) (nI 0) (nI 1) (by decide)) (cwV 2 hts gX11_init_X4_put rfl rfl rfl (by decide +kernel) ⟨Nat.le_of_ble_eq_true rfl, Nat.le_of_ble_eq_true rfl⟩) (preV hK hNW h_q4 (va_recv hK h_q4 (ci := 4) (q0 := 0) rfl rfl)) rfl rfl hl.1 rfl (lv_room (Nat.le_of_ble_eq_true rfl)) dX11_init_187 ⟨Nat.le_of_ble_eq_true rfl, Nat.le_of_ble_eq_true rfl⟩) hS (rng_sub (by omega)) (fun _ H locs _ hP9 hk50 hS => ?_)
              rw [rowPut_in (by omega) (by decide)] at hP9
              have h_q4 : PP G (rowW G a 4 4 (upd (fun _ => nI 0) 0 (nI 1))) H := hP9
              have h_o : PP G ([(a 0, .inr (11, [.ref (a 1), .ref (a 2), .ref (a 4), .ref (a 6), .ref (a 21), .ref (a 28), .ref (a 31), .ref (a 36), .ref (a 41), .ref (a 42), .ref (a 45), .ref (a 48)]))]) H := kp hk50 h_o (dj_cons (rng_no ha (by omega)) (dj_nil))
              have h_q1 : PP G ([(a 1, .inl (gQ G, 4, .inr (.inr (.inr (.inr (va_up (va_up (va_up (va_up (fun _ => none) 0 (some (a 49))) 1 (some (a 60))) 2 (some (a 71))) 3 (some (a 82))))))))]) H := kp hk50 h_q1 (dj_cons (rng_no ha (by omega)) (dj_nil))
              have h_q2 : PP G (rowW G a 2 4 (upd (fun _ => nI 0) 0 (nI 1))) H := kp hk50 h_q2 (dj_cons (rng_no ha (by omega)) (dj_cons (rng_no ha (by omega)) (dj_nil)))
              have h_q6 : PP G (makI G a 6) H := kp hk50 h_q6 (dj_rng ha (makI_in (G := G) (a := a) (i := 6)) (by omega))
              have h_q21 : PP G (wirW G a 21 (fun _ => nI 0) (fun _ => nI 0) (fun _ => nI 0)) H := kp hk50 h_q21 (dj_rng ha (wirW_in (G := G) (a := a) (i := 21) (mk := fun _ => nI 0) (bs := fun _ => nI 0) (ld := fun _ => nI 0)) (by omega))
              have h_q28 : PP G (timW G a 28 (nI 0) (fun _ => nI 0)) H := kp hk50 h_q28 (dj_rng ha (timW_in (G := G) (a := a) (i := 28) (x := nI 0) (f := fun _ => nI 0)) (by omega))
              have h_q31 : PP G (lanW G a 31 (fun _ => 0) (fun _ => 0)) H := kp hk50 h_q31 (dj_rng ha (lanW_in (G := G) (a := a) (i := 31) (w := fun _ => 0) (o := fun _ => 0)) (by omega))
              have h_q36 : PP G (lanW G a 36 (fun _ => 0) (fun _ => 0)) H := kp hk50 h_q36 (dj_rng ha (lanW_in (G := G) (a := a) (i := 36) (w := fun _ => 0) (o := fun _ => 0)) (by omega))
              have h_q41 : PP G (talW a 41 0 0 0) H := kp hk50 h_q41 (dj_rng ha (talW_in (a := a) (i := 41) (x := 0) (y := 0) (z := 0)) (by omega))
              have h_q42 : PP G (wavW G a 42 (nI 0) (fun _ => 0)) H := kp hk50 h_q42 (dj_rng ha (wavW_in (G := G) (a := a) (i := 42) (u := nI 0) (w := fun _ => 0)) (by omega))
              have h_q45 : PP G (ticW G a 45 (fun _ => nI 0)) H := kp hk50 h_q45 (dj_rng ha (ticW_in (G := G) (a := a) (i := 45) (f := fun _ => nI 0)) (by omega))
              have h_q48 : PP G (audW a 48 (nI 0) (nI 0) (nI 0) (nI 0) (nI 0)) H := kp hk50 h_q48 (dj_rng ha (audW_in (a := a) (i := 48) (x := nI 0) (y := nI 0) (z := nI 0) (v := nI 0) (u := nI 0)) (by omega))
              have h_q49 : PP G (netW G a 49 N0) H := kp hk50 h_q49 (dj_rng ha (netW_in (G := G) (a := a) (j := 49) (N := N0)) (by omega))
              have h_q60 : PP G (netW G a 60 N0) H := kp hk50 h_q60 (dj_rng ha (netW_in (G := G) (a := a) (j := 60) (N := N0)) (by omega))
              have h_q71 : PP G (netW G a 71 N0) H := kp hk50 h_q71 (dj_rng ha (netW_in (G := G) (a := a) (j := 71) (N := N0)) (by omega))
              have h_q82 : PP G (netW G a 82 N0) H := kp hk50 h_q82 (dj_rng ha (netW_in (G := G) (a := a) (j := 82) (N := N0)) (by omega))
              refine lv_iinc (v := nI 1) (lv' := [(1, .int (nI 1)), (0, .ref (a 0))]) hx hb dX11_init_190 hl (k := 0) rfl (by first | exact nI_add _ 1 | decide) (by decide) rfl (fun ls hl => ?_)
              refine lv_goto (tgt := 167) hx hb dX11_init_193 (by decide) ?_
              refine lv_iload_n hx hb dX11_init_167 rfl (lv_at hl 0 rfl) ?_
              refine lv_iconst (v := nI 3) hx hb dX11_init_168 (by decide) ?_
              refine lv_icmp_gt (tgt := 196) hx hb dX11_init_169 (by decide) (fun c169 => ?_) (fun c169 => ?_)
              · exact absurd c169 (by decide)
              · skip
                refine lv_aload_n hx hb dX11_init_172 rfl (lv_at hl 1 rfl) ?_
                refine va_get (D := G.1) (ci := 11) (v := .ref (a 2)) (C := RX11) (T := TX11) (N := 12) hx hb hts inX11_init_11 hown hK h_o 0 rfl rfl 1 (by decide) (hts (.fieldLink RX11 20 "GateLedger" "delays" "LGateLedger$Row;") (List.mem_of_getElem? (i := 9) (by decide +kernel))) (fun _ h9 => h9) rfl dX11_init_173 ?_
                refine lv_iload_n hx hb dX11_init_176 rfl (lv_at hl 0 rfl) ?_
                refine lv_iconst (v := nI 1) hx hb dX11_init_177 (by decide) ?_
                refine wr_v (va_runV (As := [.int (nI 1), .int (nI 1)]) (rest := []) FX (c_X4_put l G a ha 2 4 (upd (fun _ => nI 0) 0 (nI 1)) (nI 1) (nI 1) (by decide)) (cwV 2 hts gX11_init_X4_put rfl rfl rfl (by decide +kernel) ⟨Nat.le_of_ble_eq_true rfl, Nat.le_of_ble_eq_true rfl⟩) (preV hK hNW h_q2 (va_recv hK h_q2 (ci := 4) (q0 := 0) rfl rfl)) rfl rfl hl.1 rfl (lv_room (Nat.le_of_ble_eq_true rfl)) dX11_init_178 ⟨Nat.le_of_ble_eq_true rfl, Nat.le_of_ble_eq_true rfl⟩) hS (rng_sub (by omega)) (fun _ H locs _ hP9 hk52 hS => ?_)
                rw [rowPut_in (by omega) (by decide)] at hP9
                have h_q2 : PP G (rowW G a 2 4 (upd (upd (fun _ => nI 0) 0 (nI 1)) 1 (nI 1))) H := hP9
                have h_o : PP G ([(a 0, .inr (11, [.ref (a 1), .ref (a 2), .ref (a 4), .ref (a 6), .ref (a 21), .ref (a 28), .ref (a 31), .ref (a 36), .ref (a 41), .ref (a 42), .ref (a 45), .ref (a 48)]))]) H := kp hk52 h_o (dj_cons (rng_no ha (by omega)) (dj_nil))
                have h_q1 : PP G ([(a 1, .inl (gQ G, 4, .inr (.inr (.inr (.inr (va_up (va_up (va_up (va_up (fun _ => none) 0 (some (a 49))) 1 (some (a 60))) 2 (some (a 71))) 3 (some (a 82))))))))]) H := kp hk52 h_q1 (dj_cons (rng_no ha (by omega)) (dj_nil))
                have h_q4 : PP G (rowW G a 4 4 (upd (fun _ => nI 0) 0 (nI 1))) H := kp hk52 h_q4 (dj_cons (rng_no ha (by omega)) (dj_cons (rng_no ha (by omega)) (dj_nil)))
                have h_q6 : PP G (makI G a 6) H := kp hk52 h_q6 (dj_rng ha (makI_in (G := G) (a := a) (i := 6)) (by omega))
                have h_q21 : PP G (wirW G a 21 (fun _ => nI 0) (fun _ => nI 0) (fun _ => nI 0)) H := kp hk52 h_q21 (dj_rng ha (wirW_in (G := G) (a := a) (i := 21) (mk := fun _ => nI 0) (bs := fun _ => nI 0) (ld := fun _ => nI 0)) (by omega))
                have h_q28 : PP G (timW G a 28 (nI 0) (fun _ => nI 0)) H := kp hk52 h_q28 (dj_rng ha (timW_in (G := G) (a := a) (i := 28) (x := nI 0) (f := fun _ => nI 0)) (by omega))
                have h_q31 : PP G (lanW G a 31 (fun _ => 0) (fun _ => 0)) H := kp hk52 h_q31 (dj_rng ha (lanW_in (G := G) (a := a) (i := 31) (w := fun _ => 0) (o := fun _ => 0)) (by omega))
                have h_q36 : PP G (lanW G a 36 (fun _ => 0) (fun _ => 0)) H := kp hk52 h_q36 (dj_rng ha (lanW_in (G := G) (a := a) (i := 36) (w := fun _ => 0) (o := fun _ => 0)) (by omega))
                have h_q41 : PP G (talW a 41 0 0 0) H := kp hk52 h_q41 (dj_rng ha (talW_in (a := a) (i := 41) (x := 0) (y := 0) (z := 0)) (by omega))
                have h_q42 : PP G (wavW G a 42 (nI 0) (fun _ => 0)) H := kp hk52 h_q42 (dj_rng ha (wavW_in (G := G) (a := a) (i := 42) (u := nI 0) (w := fun _ => 0)) (by omega))
                have h_q45 : PP G (ticW G a 45 (fun _ => nI 0)) H := kp hk52 h_q45 (dj_rng ha (ticW_in (G := G) (a := a) (i := 45) (f := fun _ => nI 0)) (by omega))
                have h_q48 : PP G (audW a 48 (nI 0) (nI 0) (nI 0) (nI 0) (nI 0)) H := kp hk52 h_q48 (dj_rng ha (audW_in (a := a) (i := 48) (x := nI 0) (y := nI 0) (z := nI 0) (v := nI 0) (u := nI 0)) (by omega))
                have h_q49 : PP G (netW G a 49 N0) H := kp hk52 h_q49 (dj_rng ha (netW_in (G := G) (a := a) (j := 49) (N := N0)) (by omega))
                have h_q60 : PP G (netW G a 60 N0) H := kp hk52 h_q60 (dj_rng ha (netW_in (G := G) (a := a) (j := 60) (N := N0)) (by omega))
                have h_q71 : PP G (netW G a 71 N0) H := kp hk52 h_q71 (dj_rng ha (netW_in (G := G) (a := a) (j := 71) (N := N0)) (by omega))
                have h_q82 : PP G (netW G a 82 N0) H := kp hk52 h_q82 (dj_rng ha (netW_in (G := G) (a := a) (j := 82) (N := N0)) (by omega))
                refine lv_aload_n hx hb dX11_init_181 rfl (lv_at hl 1 rfl) ?_
                refine va_get (D := G.1) (ci := 11) (v := .ref (a 4)) (C := RX11) (T := TX11) (N := 12) hx hb hts inX11_init_11 hown hK h_o 0 rfl rfl 2 (by decide) (hts (.fieldLink RX11 24 "GateLedger" "areas" "LGateLedger$Row;") (List.mem_of_getElem? (i := 10) (by decide +kernel))) (fun _ h9 => h9) rfl dX11_init_182 ?_
                refine lv_iload_n hx hb dX11_init_185 rfl (lv_at hl 0 rfl) ?_
                refine lv_iconst (v := nI 1) hx hb dX11_init_186 (by decide) ?_
                refine wr_v (va_runV (As := [.int (nI 1), .int (nI 1)]) (rest := []) FX (c_X4_put l G a ha 4 4 (upd (fun _ => nI 0) 0 (nI 1)) (nI 1) (nI 1) (by decide)) (cwV 2 hts gX11_init_X4_put rfl rfl rfl (by decide +kernel) ⟨Nat.le_of_ble_eq_true rfl, Nat.le_of_ble_eq_true rfl⟩) (preV hK hNW h_q4 (va_recv hK h_q4 (ci := 4) (q0 := 0) rfl rfl)) rfl rfl hl.1 rfl (lv_room (Nat.le_of_ble_eq_true rfl)) dX11_init_187 ⟨Nat.le_of_ble_eq_true rfl, Nat.le_of_ble_eq_true rfl⟩) hS (rng_sub (by omega)) (fun _ H locs _ hP9 hk54 hS => ?_)
                rw [rowPut_in (by omega) (by decide)] at hP9
                have h_q4 : PP G (rowW G a 4 4 (upd (upd (fun _ => nI 0) 0 (nI 1)) 1 (nI 1))) H := hP9
                have h_o : PP G ([(a 0, .inr (11, [.ref (a 1), .ref (a 2), .ref (a 4), .ref (a 6), .ref (a 21), .ref (a 28), .ref (a 31), .ref (a 36), .ref (a 41), .ref (a 42), .ref (a 45), .ref (a 48)]))]) H := kp hk54 h_o (dj_cons (rng_no ha (by omega)) (dj_nil))
                have h_q1 : PP G ([(a 1, .inl (gQ G, 4, .inr (.inr (.inr (.inr (va_up (va_up (va_up (va_up (fun _ => none) 0 (some (a 49))) 1 (some (a 60))) 2 (some (a 71))) 3 (some (a 82))))))))]) H := kp hk54 h_q1 (dj_cons (rng_no ha (by omega)) (dj_nil))
                have h_q2 : PP G (rowW G a 2 4 (upd (upd (fun _ => nI 0) 0 (nI 1)) 1 (nI 1))) H := kp hk54 h_q2 (dj_cons (rng_no ha (by omega)) (dj_cons (rng_no ha (by omega)) (dj_nil)))
                have h_q6 : PP G (makI G a 6) H := kp hk54 h_q6 (dj_rng ha (makI_in (G := G) (a := a) (i := 6)) (by omega))
                have h_q21 : PP G (wirW G a 21 (fun _ => nI 0) (fun _ => nI 0) (fun _ => nI 0)) H := kp hk54 h_q21 (dj_rng ha (wirW_in (G := G) (a := a) (i := 21) (mk := fun _ => nI 0) (bs := fun _ => nI 0) (ld := fun _ => nI 0)) (by omega))
                have h_q28 : PP G (timW G a 28 (nI 0) (fun _ => nI 0)) H := kp hk54 h_q28 (dj_rng ha (timW_in (G := G) (a := a) (i := 28) (x := nI 0) (f := fun _ => nI 0)) (by omega))
                have h_q31 : PP G (lanW G a 31 (fun _ => 0) (fun _ => 0)) H := kp hk54 h_q31 (dj_rng ha (lanW_in (G := G) (a := a) (i := 31) (w := fun _ => 0) (o := fun _ => 0)) (by omega))
                have h_q36 : PP G (lanW G a 36 (fun _ => 0) (fun _ => 0)) H := kp hk54 h_q36 (dj_rng ha (lanW_in (G := G) (a := a) (i := 36) (w := fun _ => 0) (o := fun _ => 0)) (by omega))
                have h_q41 : PP G (talW a 41 0 0 0) H := kp hk54 h_q41 (dj_rng ha (talW_in (a := a) (i := 41) (x := 0) (y := 0) (z := 0)) (by omega))
                have h_q42 : PP G (wavW G a 42 (nI 0) (fun _ => 0)) H := kp hk54 h_q42 (dj_rng ha (wavW_in (G := G) (a := a) (i := 42) (u := nI 0) (w := fun _ => 0)) (by omega))
                have h_q45 : PP G (ticW G a 45 (fun _ => nI 0)) H := kp hk54 h_q45 (dj_rng ha (ticW_in (G := G) (a := a) (i := 45) (f := fun _ => nI 0)) (by omega))
                have h_q48 : PP G (audW a 48 (nI 0) (nI 0) (nI 0) (nI 0) (nI 0)) H := kp hk54 h_q48 (dj_rng ha (audW_in (a := a) (i := 48) (x := nI 0) (y := nI 0) (z := nI 0) (v := nI 0) (u := nI 0)) (by omega))
                have h_q49 : PP G (netW G a 49 N0) H := kp hk54 h_q49 (dj_rng ha (netW_in (G := G) (a := a) (j := 49) (N := N0)) (by omega))
                have h_q60 : PP G (netW G a 60 N0) H := kp hk54 h_q60 (dj_rng ha (netW_in (G := G) (a := a) (j := 60) (N := N0)) (by omega))
                have h_q71 : PP G (netW G a 71 N0) H := kp hk54 h_q71 (dj_rng ha (netW_in (G := G) (a := a) (j := 71) (N := N0)) (by omega))
                have h_q82 : PP G (netW G a 82 N0) H := kp hk54 h_q82 (dj_rng ha (netW_in (G := G) (a := a) (j := 82) (N := N0)) (by omega))
                refine lv_iinc (v := nI 2) (lv' := [(1, .int (nI 2)), (0, .ref (a 0))]) hx hb dX11_init_190 hl (k := 0) rfl (by first | exact nI_add _ 1 | decide) (by decide) rfl (fun ls hl => ?_)
                refine lv_goto (tgt := 167) hx hb dX11_init_193 (by decide) ?_
                refine lv_iload_n hx hb dX11_init_167 rfl (lv_at hl 0 rfl) ?_
                refine lv_iconst (v := nI 3) hx hb dX11_init_168 (by decide) ?_
                refine lv_icmp_gt (tgt := 196) hx hb dX11_init_169 (by decide) (fun c169 => ?_) (fun c169 => ?_)
                · exact absurd c169 (by decide)
                · skip
                  refine lv_aload_n hx hb dX11_init_172 rfl (lv_at hl 1 rfl) ?_
                  refine va_get (D := G.1) (ci := 11) (v := .ref (a 2)) (C := RX11) (T := TX11) (N := 12) hx hb hts inX11_init_11 hown hK h_o 0 rfl rfl 1 (by decide) (hts (.fieldLink RX11 20 "GateLedger" "delays" "LGateLedger$Row;") (List.mem_of_getElem? (i := 9) (by decide +kernel))) (fun _ h9 => h9) rfl dX11_init_173 ?_
                  refine lv_iload_n hx hb dX11_init_176 rfl (lv_at hl 0 rfl) ?_
                  refine lv_iconst (v := nI 1) hx hb dX11_init_177 (by decide) ?_
                  refine wr_v (va_runV (As := [.int (nI 2), .int (nI 1)]) (rest := []) FX (c_X4_put l G a ha 2 4 (upd (upd (fun _ => nI 0) 0 (nI 1)) 1 (nI 1)) (nI 2) (nI 1) (by decide)) (cwV 2 hts gX11_init_X4_put rfl rfl rfl (by decide +kernel) ⟨Nat.le_of_ble_eq_true rfl, Nat.le_of_ble_eq_true rfl⟩) (preV hK hNW h_q2 (va_recv hK h_q2 (ci := 4) (q0 := 0) rfl rfl)) rfl rfl hl.1 rfl (lv_room (Nat.le_of_ble_eq_true rfl)) dX11_init_178 ⟨Nat.le_of_ble_eq_true rfl, Nat.le_of_ble_eq_true rfl⟩) hS (rng_sub (by omega)) (fun _ H locs _ hP9 hk56 hS => ?_)
                  rw [rowPut_in (by omega) (by decide)] at hP9
                  have h_q2 : PP G (rowW G a 2 4 (upd (upd (upd (fun _ => nI 0) 0 (nI 1)) 1 (nI 1)) 2 (nI 1))) H := hP9
                  have h_o : PP G ([(a 0, .inr (11, [.ref (a 1), .ref (a 2), .ref (a 4), .ref (a 6), .ref (a 21), .ref (a 28), .ref (a 31), .ref (a 36), .ref (a 41), .ref (a 42), .ref (a 45), .ref (a 48)]))]) H := kp hk56 h_o (dj_cons (rng_no ha (by omega)) (dj_nil))
                  have h_q1 : PP G ([(a 1, .inl (gQ G, 4, .inr (.inr (.inr (.inr (va_up (va_up (va_up (va_up (fun _ => none) 0 (some (a 49))) 1 (some (a 60))) 2 (some (a 71))) 3 (some (a 82))))))))]) H := kp hk56 h_q1 (dj_cons (rng_no ha (by omega)) (dj_nil))
                  have h_q4 : PP G (rowW G a 4 4 (upd (upd (fun _ => nI 0) 0 (nI 1)) 1 (nI 1))) H := kp hk56 h_q4 (dj_cons (rng_no ha (by omega)) (dj_cons (rng_no ha (by omega)) (dj_nil)))
                  have h_q6 : PP G (makI G a 6) H := kp hk56 h_q6 (dj_rng ha (makI_in (G := G) (a := a) (i := 6)) (by omega))
                  have h_q21 : PP G (wirW G a 21 (fun _ => nI 0) (fun _ => nI 0) (fun _ => nI 0)) H := kp hk56 h_q21 (dj_rng ha (wirW_in (G := G) (a := a) (i := 21) (mk := fun _ => nI 0) (bs := fun _ => nI 0) (ld := fun _ => nI 0)) (by omega))
                  have h_q28 : PP G (timW G a 28 (nI 0) (fun _ => nI 0)) H := kp hk56 h_q28 (dj_rng ha (timW_in (G := G) (a := a) (i := 28) (x := nI 0) (f := fun _ => nI 0)) (by omega))
                  have h_q31 : PP G (lanW G a 31 (fun _ => 0) (fun _ => 0)) H := kp hk56 h_q31 (dj_rng ha (lanW_in (G := G) (a := a) (i := 31) (w := fun _ => 0) (o := fun _ => 0)) (by omega))
                  have h_q36 : PP G (lanW G a 36 (fun _ => 0) (fun _ => 0)) H := kp hk56 h_q36 (dj_rng ha (lanW_in (G := G) (a := a) (i := 36) (w := fun _ => 0) (o := fun _ => 0)) (by omega))
                  have h_q41 : PP G (talW a 41 0 0 0) H := kp hk56 h_q41 (dj_rng ha (talW_in (a := a) (i := 41) (x := 0) (y := 0) (z := 0)) (by omega))
                  have h_q42 : PP G (wavW G a 42 (nI 0) (fun _ => 0)) H := kp hk56 h_q42 (dj_rng ha (wavW_in (G := G) (a := a) (i := 42) (u := nI 0) (w := fun _ => 0)) (by omega))
                  have h_q45 : PP G (ticW G a 45 (fun _ => nI 0)) H := kp hk56 h_q45 (dj_rng ha (ticW_in (G := G) (a := a) (i := 45) (f := fun _ => nI 0)) (by omega))
                  have h_q48 : PP G (audW a 48 (nI 0) (nI 0) (nI 0) (nI 0) (nI 0)) H := kp hk56 h_q48 (dj_rng ha (audW_in (a := a) (i := 48) (x := nI 0) (y := nI 0) (z := nI 0) (v := nI 0) (u := nI 0)) (by omega))
                  have h_q49 : PP G (netW G a 49 N0) H := kp hk56 h_q49 (dj_rng ha (netW_in (G := G) (a := a) (j := 49) (N := N0)) (by omega))
                  have h_q60 : PP G (netW G a 60 N0) H := kp hk56 h_q60 (dj_rng ha (netW_in (G := G) (a := a) (j := 60) (N := N0)) (by omega))
                  have h_q71 : PP G (netW G a 71 N0) H := kp hk56 h_q71 (dj_rng ha (netW_in (G := G) (a := a) (j := 71) (N := N0)) (by omega))
                  have h_q82 : PP G (netW G a 82 N0) H := kp hk56 h_q82 (dj_rng ha (netW_in (G := G) (a := a) (j := 82) (N := N0)) (by omega))
                  refine lv_aload_n hx hb dX11_init_181 rfl (lv_at hl 1 rfl) ?_
                  refine va_get (D := G.1) (ci := 11) (v := .ref (a 4)) (C := RX11) (T := TX11) (N := 12) hx hb hts inX11_init_11 hown hK h_o 0 rfl rfl 2 (by decide) (hts (.fieldLink RX11 24 "GateLedger" "areas" "LGateLedger$Row;") (List.mem_of_getElem? (i := 10) (by decide +kernel))) (fun _ h9 => h9) rfl dX11_init_182 ?_
                  refine lv_iload_n hx hb dX11_init_185 rfl (lv_at hl 0 rfl) ?_
                  refine lv_iconst (v := nI 1) hx hb dX11_init_186 (by decide) ?_
                  refine wr_v (va_runV (As := [.int (nI 2), .int (nI 1)]) (rest := []) FX (c_X4_put l G a ha 4 4 (upd (upd (fun _ => nI 0) 0 (nI 1)) 1 (nI 1)) (nI 2) (nI 1) (by decide)) (cwV 2 hts gX11_init_X4_put rfl rfl rfl (by decide +kernel) ⟨Nat.le_of_ble_eq_true rfl, Nat.le_of_ble_eq_true rfl⟩) (preV hK hNW h_q4 (va_recv hK h_q4 (ci := 4) (q0 := 0) rfl rfl)) rfl rfl hl.1 rfl (lv_room (Nat.le_of_ble_eq_true rfl)) dX11_init_187 ⟨Nat.le_of_ble_eq_true rfl, Nat.le_of_ble_eq_true rfl⟩) hS (rng_sub (by omega)) (fun _ H locs _ hP9 hk58 hS => ?_)
                  rw [rowPut_in (by omega) (by decide)] at hP9
                  have h_q4 : PP G (rowW G a 4 4 (upd (upd (upd (fun _ => nI 0) 0 (nI 1)) 1 (nI 1)) 2 (nI 1))) H := hP9
                  have h_o : PP G ([(a 0, .inr (11, [.ref (a 1), .ref (a 2), .ref (a 4), .ref (a 6), .ref (a 21), .ref (a 28), .ref (a 31), .ref (a 36), .ref (a 41), .ref (a 42), .ref (a 45), .ref (a 48)]))]) H := kp hk58 h_o (dj_cons (rng_no ha (by omega)) (dj_nil))
                  have h_q1 : PP G ([(a 1, .inl (gQ G, 4, .inr (.inr (.inr (.inr (va_up (va_up (va_up (va_up (fun _ => none) 0 (some (a 49))) 1 (some (a 60))) 2 (some (a 71))) 3 (some (a 82))))))))]) H := kp hk58 h_q1 (dj_cons (rng_no ha (by omega)) (dj_nil))
                  have h_q2 : PP G (rowW G a 2 4 (upd (upd (upd (fun _ => nI 0) 0 (nI 1)) 1 (nI 1)) 2 (nI 1))) H := kp hk58 h_q2 (dj_cons (rng_no ha (by omega)) (dj_cons (rng_no ha (by omega)) (dj_nil)))
                  have h_q6 : PP G (makI G a 6) H := kp hk58 h_q6 (dj_rng ha (makI_in (G := G) (a := a) (i := 6)) (by omega))
                  have h_q21 : PP G (wirW G a 21 (fun _ => nI 0) (fun _ => nI 0) (fun _ => nI 0)) H := kp hk58 h_q21 (dj_rng ha (wirW_in (G := G) (a := a) (i := 21) (mk := fun _ => nI 0) (bs := fun _ => nI 0) (ld := fun _ => nI 0)) (by omega))
                  have h_q28 : PP G (timW G a 28 (nI 0) (fun _ => nI 0)) H := kp hk58 h_q28 (dj_rng ha (timW_in (G := G) (a := a) (i := 28) (x := nI 0) (f := fun _ => nI 0)) (by omega))
                  have h_q31 : PP G (lanW G a 31 (fun _ => 0) (fun _ => 0)) H := kp hk58 h_q31 (dj_rng ha (lanW_in (G := G) (a := a) (i := 31) (w := fun _ => 0) (o := fun _ => 0)) (by omega))
                  have h_q36 : PP G (lanW G a 36 (fun _ => 0) (fun _ => 0)) H := kp hk58 h_q36 (dj_rng ha (lanW_in (G := G) (a := a) (i := 36) (w := fun _ => 0) (o := fun _ => 0)) (by omega))
                  have h_q41 : PP G (talW a 41 0 0 0) H := kp hk58 h_q41 (dj_rng ha (talW_in (a := a) (i := 41) (x := 0) (y := 0) (z := 0)) (by omega))
                  have h_q42 : PP G (wavW G a 42 (nI 0) (fun _ => 0)) H := kp hk58 h_q42 (dj_rng ha (wavW_in (G := G) (a := a) (i := 42) (u := nI 0) (w := fun _ => 0)) (by omega))
                  have h_q45 : PP G (ticW G a 45 (fun _ => nI 0)) H := kp hk58 h_q45 (dj_rng ha (ticW_in (G := G) (a := a) (i := 45) (f := fun _ => nI 0)) (by omega))
                  have h_q48 : PP G (audW a 48 (nI 0) (nI 0) (nI 0) (nI 0) (nI 0)) H := kp hk58 h_q48 (dj_rng ha (audW_in (a := a) (i := 48) (x := nI 0) (y := nI 0) (z := nI 0) (v := nI 0) (u := nI 0)) (by omega))
                  have h_q49 : PP G (netW G a 49 N0) H := kp hk58 h_q49 (dj_rng ha (netW_in (G := G) (a := a) (j := 49) (N := N0)) (by omega))
                  have h_q60 : PP G (netW G a 60 N0) H := kp hk58 h_q60 (dj_rng ha (netW_in (G := G) (a := a) (j := 60) (N := N0)) (by omega))
                  have h_q71 : PP G (netW G a 71 N0) H := kp hk58 h_q71 (dj_rng ha (netW_in (G := G) (a := a) (j := 71) (N := N0)) (by omega))
                  have h_q82 : PP G (netW G a 82 N0) H := kp hk58 h_q82 (dj_rng ha (netW_in (G := G) (a := a) (j := 82) (N := N0)) (by omega))
                  refine lv_iinc (v := nI 3) (lv' := [(1, .int (nI 3)), (0, .ref (a 0))]) hx hb dX11_init_190 hl (k := 0) rfl (by first | exact nI_add _ 1 | decide) (by decide) rfl (fun ls hl => ?_)
                  refine lv_goto (tgt := 167) hx hb dX11_init_193 (by decide) ?_
                  refine lv_iload_n hx hb dX11_init_167 rfl (lv_at hl 0 rfl) ?_
                  refine lv_iconst (v := nI 3) hx hb dX11_init_168 (by decide) ?_
                  refine lv_icmp_gt (tgt := 196) hx hb dX11_init_169 (by decide) (fun c169 => ?_) (fun c169 => ?_)
                  · exact absurd c169 (by decide)
                  · skip
                    refine lv_aload_n hx hb dX11_init_172 rfl (lv_at hl 1 rfl) ?_
                    refine va_get (D := G.1) (ci := 11) (v := .ref (a 2)) (C := RX11) (T := TX11) (N := 12) hx hb hts inX11_init_11 hown hK h_o 0 rfl rfl 1 (by decide) (hts (.fieldLink RX11 20 "GateLedger" "delays" "LGateLedger$Row;") (List.mem_of_getElem? (i := 9) (by decide +kernel))) (fun _ h9 => h9) rfl dX11_init_173 ?_
                    refine lv_iload_n hx hb dX11_init_176 rfl (lv_at hl 0 rfl) ?_
                    refine lv_iconst (v := nI 1) hx hb dX11_init_177 (by decide) ?_
                    refine wr_v (va_runV (As := [.int (nI 3), .int (nI 1)]) (rest := []) FX (c_X4_put l G a ha 2 4 (upd (upd (upd (fun _ => nI 0) 0 (nI 1)) 1 (nI 1)) 2 (nI 1)) (nI 3) (nI 1) (by decide)) (cwV 2 hts gX11_init_X4_put rfl rfl rfl (by decide +kernel) ⟨Nat.le_of_ble_eq_true rfl, Nat.le_of_ble_eq_true rfl⟩) (preV hK hNW h_q2 (va_recv hK h_q2 (ci := 4) (q0 := 0) rfl rfl)) rfl rfl hl.1 rfl (lv_room (Nat.le_of_ble_eq_true rfl)) dX11_init_178 ⟨Nat.le_of_ble_eq_true rfl, Nat.le_of_ble_eq_true rfl⟩) hS (rng_sub (by omega)) (fun _ H locs _ hP9 hk60 hS => ?_)
                    rw [rowPut_in (by omega) (by decide)] at hP9
                    have h_q2 : PP G (rowW G a 2 4 (upd (upd (upd (upd (fun _ => nI 0) 0 (nI 1)) 1 (nI 1)) 2 (nI 1)) 3 (nI 1))) H := hP9
                    have h_o : PP G ([(a 0, .inr (11, [.ref (a 1), .ref (a 2), .ref (a 4), .ref (a 6), .ref (a 21), .ref (a 28), .ref (a 31), .ref (a 36), .ref (a 41), .ref (a 42), .ref (a 45), .ref (a 48)]))]) H := kp hk60 h_o (dj_cons (rng_no ha (by omega)) (dj_nil))
                    have h_q1 : PP G ([(a 1, .inl (gQ G, 4, .inr (.inr (.inr (.inr (va_up (va_up (va_up (va_up (fun _ => none) 0 (some (a 49))) 1 (some (a 60))) 2 (some (a 71))) 3 (some (a 82))))))))]) H := kp hk60 h_q1 (dj_cons (rng_no ha (by omega)) (dj_nil))
                    have h_q4 : PP G (rowW G a 4 4 (upd (upd (upd (fun _ => nI 0) 0 (nI 1)) 1 (nI 1)) 2 (nI 1))) H := kp hk60 h_q4 (dj_cons (rng_no ha (by omega)) (dj_cons (rng_no ha (by omega)) (dj_nil)))
                    have h_q6 : PP G (makI G a 6) H := kp hk60 h_q6 (dj_rng ha (makI_in (G := G) (a := a) (i := 6)) (by omega))
                    have h_q21 : PP G (wirW G a 21 (fun _ => nI 0) (fun _ => nI 0) (fun _ => nI 0)) H := kp hk60 h_q21 (dj_rng ha (wirW_in (G := G) (a := a) (i := 21) (mk := fun _ => nI 0) (bs := fun _ => nI 0) (ld := fun _ => nI 0)) (by omega))
                    have h_q28 : PP G (timW G a 28 (nI 0) (fun _ => nI 0)) H := kp hk60 h_q28 (dj_rng ha (timW_in (G := G) (a := a) (i := 28) (x := nI 0) (f := fun _ => nI 0)) (by omega))
                    have h_q31 : PP G (lanW G a 31 (fun _ => 0) (fun _ => 0)) H := kp hk60 h_q31 (dj_rng ha (lanW_in (G := G) (a := a) (i := 31) (w := fun _ => 0) (o := fun _ => 0)) (by omega))
                    have h_q36 : PP G (lanW G a 36 (fun _ => 0) (fun _ => 0)) H := kp hk60 h_q36 (dj_rng ha (lanW_in (G := G) (a := a) (i := 36) (w := fun _ => 0) (o := fun _ => 0)) (by omega))
                    have h_q41 : PP G (talW a 41 0 0 0) H := kp hk60 h_q41 (dj_rng ha (talW_in (a := a) (i := 41) (x := 0) (y := 0) (z := 0)) (by omega))
                    have h_q42 : PP G (wavW G a 42 (nI 0) (fun _ => 0)) H := kp hk60 h_q42 (dj_rng ha (wavW_in (G := G) (a := a) (i := 42) (u := nI 0) (w := fun _ => 0)) (by omega))
                    have h_q45 : PP G (ticW G a 45 (fun _ => nI 0)) H := kp hk60 h_q45 (dj_rng ha (ticW_in (G := G) (a := a) (i := 45) (f := fun _ => nI 0)) (by omega))
                    have h_q48 : PP G (audW a 48 (nI 0) (nI 0) (nI 0) (nI 0) (nI 0)) H := kp hk60 h_q48 (dj_rng ha (audW_in (a := a) (i := 48) (x := nI 0) (y := nI 0) (z := nI 0) (v := nI 0) (u := nI 0)) (by omega))
                    have h_q49 : PP G (netW G a 49 N0) H := kp hk60 h_q49 (dj_rng ha (netW_in (G := G) (a := a) (j := 49) (N := N0)) (by omega))
                    have h_q60 : PP G (netW G a 60 N0) H := kp hk60 h_q60 (dj_rng ha (netW_in (G := G) (a := a) (j := 60) (N := N0)) (by omega))
                    have h_q71 : PP G (netW G a 71 N0) H := kp hk60 h_q71 (dj_rng ha (netW_in (G := G) (a := a) (j := 71) (N := N0)) (by omega))
                    have h_q82 : PP G (netW G a 82 N0) H := kp hk60 h_q82 (dj_rng ha (netW_in (G := G) (a := a) (j := 82) (N := N0)) (by omega))
                    refine lv_aload_n hx hb dX11_init_181 rfl (lv_at hl 1 rfl) ?_
                    refine va_get (D := G.1) (ci := 11) (v := .ref (a 4)) (C := RX11) (T := TX11) (N := 12) hx hb hts inX11_init_11 hown hK h_o 0 rfl rfl 2 (by decide) (hts (.fieldLink RX11 24 "GateLedger" "areas" "LGateLedger$Row;") (List.mem_of_getElem? (i := 10) (by decide +kernel))) (fun _ h9 => h9) rfl dX11_init_182 ?_
                    refine lv_iload_n hx hb dX11_init_185 rfl (lv_at hl 0 rfl) ?_
                    refine lv_iconst (v := nI 1) hx hb dX11_init_186 (by decide) ?_
                    refine wr_v (va_runV (As := [.int (nI 3), .int (nI 1)]) (rest := []) FX (c_X4_put l G a ha 4 4 (upd (upd (upd (fun _ => nI 0) 0 (nI 1)) 1 (nI 1)) 2 (nI 1)) (nI 3) (nI 1) (by decide)) (cwV 2 hts gX11_init_X4_put rfl rfl rfl (by decide +kernel) ⟨Nat.le_of_ble_eq_true rfl, Nat.le_of_ble_eq_true rfl⟩) (preV hK hNW h_q4 (va_recv hK h_q4 (ci := 4) (q0 := 0) rfl rfl)) rfl rfl hl.1 rfl (lv_room (Nat.le_of_ble_eq_true rfl)) dX11_init_187 ⟨Nat.le_of_ble_eq_true rfl, Nat.le_of_ble_eq_true rfl⟩) hS (rng_sub (by omega)) (fun _ H locs _ hP9 hk62 hS => ?_)
                    rw [rowPut_in (by omega) (by decide)] at hP9
                    have h_q4 : PP G (rowW G a 4 4 (upd (upd (upd (upd (fun _ => nI 0) 0 (nI 1)) 1 (nI 1)) 2 (nI 1)) 3 (nI 1))) H := hP9
                    have h_o : PP G ([(a 0, .inr (11, [.ref (a 1), .ref (a 2), .ref (a 4), .ref (a 6), .ref (a 21), .ref (a 28), .ref (a 31), .ref (a 36), .ref (a 41), .ref (a 42), .ref (a 45), .ref (a 48)]))]) H := kp hk62 h_o (dj_cons (rng_no ha (by omega)) (dj_nil))
                    have h_q1 : PP G ([(a 1, .inl (gQ G, 4, .inr (.inr (.inr (.inr (va_up (va_up (va_up (va_up (fun _ => none) 0 (some (a 49))) 1 (some (a 60))) 2 (some (a 71))) 3 (some (a 82))))))))]) H := kp hk62 h_q1 (dj_cons (rng_no ha (by omega)) (dj_nil))
                    have h_q2 : PP G (rowW G a 2 4 (upd (upd (upd (upd (fun _ => nI 0) 0 (nI 1)) 1 (nI 1)) 2 (nI 1)) 3 (nI 1))) H := kp hk62 h_q2 (dj_cons (rng_no ha (by omega)) (dj_cons (rng_no ha (by omega)) (dj_nil)))
                    have h_q6 : PP G (makI G a 6) H := kp hk62 h_q6 (dj_rng ha (makI_in (G := G) (a := a) (i := 6)) (by omega))
                    have h_q21 : PP G (wirW G a 21 (fun _ => nI 0) (fun _ => nI 0) (fun _ => nI 0)) H := kp hk62 h_q21 (dj_rng ha (wirW_in (G := G) (a := a) (i := 21) (mk := fun _ => nI 0) (bs := fun _ => nI 0) (ld := fun _ => nI 0)) (by omega))
                    have h_q28 : PP G (timW G a 28 (nI 0) (fun _ => nI 0)) H := kp hk62 h_q28 (dj_rng ha (timW_in (G := G) (a := a) (i := 28) (x := nI 0) (f := fun _ => nI 0)) (by omega))
                    have h_q31 : PP G (lanW G a 31 (fun _ => 0) (fun _ => 0)) H := kp hk62 h_q31 (dj_rng ha (lanW_in (G := G) (a := a) (i := 31) (w := fun _ => 0) (o := fun _ => 0)) (by omega))
                    have h_q36 : PP G (lanW G a 36 (fun _ => 0) (fun _ => 0)) H := kp hk62 h_q36 (dj_rng ha (lanW_in (G := G) (a := a) (i := 36) (w := fun _ => 0) (o := fun _ => 0)) (by omega))
                    have h_q41 : PP G (talW a 41 0 0 0) H := kp hk62 h_q41 (dj_rng ha (talW_in (a := a) (i := 41) (x := 0) (y := 0) (z := 0)) (by omega))
                    have h_q42 : PP G (wavW G a 42 (nI 0) (fun _ => 0)) H := kp hk62 h_q42 (dj_rng ha (wavW_in (G := G) (a := a) (i := 42) (u := nI 0) (w := fun _ => 0)) (by omega))
                    have h_q45 : PP G (ticW G a 45 (fun _ => nI 0)) H := kp hk62 h_q45 (dj_rng ha (ticW_in (G := G) (a := a) (i := 45) (f := fun _ => nI 0)) (by omega))
                    have h_q48 : PP G (audW a 48 (nI 0) (nI 0) (nI 0) (nI 0) (nI 0)) H := kp hk62 h_q48 (dj_rng ha (audW_in (a := a) (i := 48) (x := nI 0) (y := nI 0) (z := nI 0) (v := nI 0) (u := nI 0)) (by omega))
                    have h_q49 : PP G (netW G a 49 N0) H := kp hk62 h_q49 (dj_rng ha (netW_in (G := G) (a := a) (j := 49) (N := N0)) (by omega))
                    have h_q60 : PP G (netW G a 60 N0) H := kp hk62 h_q60 (dj_rng ha (netW_in (G := G) (a := a) (j := 60) (N := N0)) (by omega))
                    have h_q71 : PP G (netW G a 71 N0) H := kp hk62 h_q71 (dj_rng ha (netW_in (G := G) (a := a) (j := 71) (N := N0)) (by omega))
                    have h_q82 : PP G (netW G a 82 N0) H := kp hk62 h_q82 (dj_rng ha (netW_in (G := G) (a := a) (j := 82) (N := N0)) (by omega))
                    refine lv_iinc (v := nI 4) (lv' := [(1, .int (nI 4)), (0, .ref (a 0))]) hx hb dX11_init_190 hl (k := 0) rfl (by first | exact nI_add _ 1 | decide) (by decide) rfl (fun ls hl => ?_)
                    refine lv_goto (tgt := 167) hx hb dX11_init_193 (by decide) ?_
                    refine lv_iload_n hx hb dX11_init_167 rfl (lv_at hl 0 rfl) ?_
                    refine lv_iconst (v := nI 3) hx hb dX11_init_168 (by decide) ?_
                    refine lv_icmp_gt (tgt := 196) hx hb dX11_init_169 (by decide) (fun c169 => ?_) (fun c169 => ?_)
                    · skip
                      refine wid (k := 92) (n := 6860) (Nat.le_of_ble_eq_true rfl) (Nat.le_of_ble_eq_true rfl) ?_
                      exact en_wv () hx hb hr hlocks hS trivial (⟨h_o, PP_q h_q1 nets4, row_i h_q2 ones4, row_i h_q4 ones4, h_q6, h_q21, h_q28, h_q31, h_q36, h_q41, h_q42, h_q45, h_q48, fun z hz => by rcases (show z = 0 ∨ z = 1 ∨ z = 2 ∨ z = 3 by omega) with rfl | rfl | rfl | rfl; exact h_q49; exact h_q60; exact h_q71; exact h_q82⟩) dX11_init_196
                    · exact absurd c169 (by decide)
          · exact absurd c143 (by decide)
