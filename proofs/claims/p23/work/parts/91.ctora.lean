set_option maxRecDepth 20000 in
theorem inX4_init_4 : ∀ w ∈ u_ws RX4 TX4 1, w ∈ wsX4_init := by decide +kernel
set_option maxHeartbeats 4000000 in
set_option maxRecDepth 100000 in
theorem c_X4_init (l : Launch) (G : GG) (a : Nat → Nat) (b0 : Nat) (hab : ∀ k, a k = b0 + k) (i : Nat) (n : Nat)  (hn : 1 ≤ n ∧ n ≤ 2040) : Met l yX4_init wsX4_init ({ frames := 1, cells := 1, slots := n, locals := 16 } : Room) (PcB G [.ref (a i), .int (nI n)] (fun H => H.size = b0 + (i + 1) ∧ PP G ([(a i, .inr (4, [.null]))]) H)) (QV (fun _ : Unit => True) (fun _ H => H.size = b0 + (i + 2) ∧ PP G (rowW G a i n (fun _ => nI 0)) H) (rng a i 2)) 1 n (rng a i 2) := by
  refine Met.ofW (cc := cX4_init) (maxL := 2) (ret := none) (by decide) rfl ?_
  intro p e s m args below meth c s₁ B hml hv
  obtain ⟨rfl, hB, hK, hNW⟩ := hv
  have hx := B.exec
  have hb := B.bytes
  have hr := B.returns
  have hts := atoms_spec (ws := wsX4_init) B.pre
  have hown : s.vm.findClass RX4 = some m.cls := findClass_of_methodNamed B.named
  have hlocks := B.notSynchronized
  have hin9 : meth.name = "<init>" := (name_of_methodNamed B.named B.method).1
  have ha : Inj a := fun x y h => by rw [hab, hab] at h; omega
  have FX : CallFix p m c cX4_init 2 s ([.ref (a i), .int (nI n)] : List Value).toArray wsX4_init RX4 := ⟨hx, hb, hml, hown, hts⟩
  have hl := lv_entry ([.ref (a i), .int (nI n)]) (n := 2) (Nat.le_of_ble_eq_true rfl)
  rw [lg_entry_eq]
  generalize (lg_sl ([.ref (a i), .int (nI n)]) ++ List.replicate (2 - (lg_sl ([.ref (a i), .int (nI n)])).length) Slot.unset).toArray = ls at hl ⊢
  have hl : lv_has ls 2 [(0, .ref (a i)), (1, .int (nI n))] := hl
  obtain ⟨hZ, h_o⟩ := hB
  have hS : va_S (rng a i 2) s.heap s.heap [] := va_S.rf
  refine lv_aload_n hx hb dX4_init_0 rfl (lv_at hl 0 rfl) ?_
  refine lv_obj hx hb hown (hts (.methodLink RX4 1 objectInit) (List.mem_of_getElem? (i := 1) (by decide +kernel))) (hts (.instanceMethod objectInit) (List.mem_of_getElem? (i := 2) (by decide +kernel))) (hts (.code objectInit ⟨#[0xb1]⟩ 1 none) (List.mem_of_getElem? (i := 3) (by decide +kernel))) (by rw [hml]; exact hl.1) dX4_init_1 (Nat.le_of_ble_eq_true rfl) (Nat.le_of_ble_eq_true rfl) ?_
  refine lv_aload_n hx hb dX4_init_4 rfl (lv_at hl 0 rfl) ?_
  refine lv_iload_n hx hb dX4_init_5 rfl (lv_at hl 1 rfl) ?_
  refine lv_if_le (tgt := 13) hx hb dX4_init_6 (by decide) (fun c6 => ?_) (fun c6 => ?_)
  · skip
    exact absurd c6 (Int32.not_le.mpr (show nI 0 < nI n from (nI_ltI (by omega) (by omega)).mpr (by omega)))
  · skip
    refine lv_iload_n hx hb dX4_init_9 rfl (lv_at hl 1 rfl) ?_
    refine lv_goto (tgt := 14) hx hb dX4_init_10 (by decide) ?_
    refine pp_newa (a := a) (b0 := b0) (G := G) (atype := .int) hx hb (hts (.arrayClass .int) (List.mem_of_getElem? (i := 4) (by decide +kernel))) (ty := .int) rfl (cA0 := gI G) ((hK.2 0 _ rfl).2) (N' := n) (a0 := (n, .inl (fun _ => nI 0))) rfl (nI_pos (by omega)) (nI_clamp (by omega)) (by show n * 4 ≤ _; omega) (Nat.le_of_ble_eq_true rfl) (by show 0 + n ≤ n; omega) dX4_init_14 hab hZ (j1 := i + 2) (by omega) hS (fun H hP9 hk1 hZ hS => ?_)
    have h_q1 : PP G ([(a (i + 1), .inl (gI G, n, .inl (fun _ => nI 0)))]) H := hP9
    have h_o : PP G ([(a i, .inr (4, [.null]))]) H := kpF hk1 h_o
    refine pp_putF (ci := 4) (v := .ref (a (i + 1))) (ty := .array .int) (C := RX4) (T := TX4) (N := 1) hx hb hts inX4_init_4 tyX4 tyX4_ok nmX4 hown hK h_o hS (rng_in (by omega)) rfl 0 (by decide) (hts (.fieldLink RX4 7 "GateLedger$Row" "cells" "[I") (List.mem_of_getElem? (i := 5) (by decide +kernel))) (fun _ h9 => h9) rfl hin9 rfl (by decide +kernel) rfl rfl (Nat.le_of_ble_eq_true rfl) dX4_init_16 (fun H locs hP9 hk2 hz9 hS => ?_)
    have h_o : PP G ([(a i, .inr (4, [.ref (a (i + 1))]))]) H := hP9
    have h_q1 : PP G ([(a (i + 1), .inl (gI G, n, .inl (fun _ => nI 0)))]) H := kp hk2 h_q1 (dj_cons (ne_a ha (by omega)) (dj_nil))
    have hZ := hz9.trans hZ
    refine wid (k := 1) (n := n) (Nat.le_of_ble_eq_true rfl) (by show 0 + n ≤ n; omega) ?_
    exact en_wv () hx hb hr hlocks hS trivial ⟨hZ, P_app h_o h_q1⟩ dX4_init_19
set_option maxRecDepth 20000 in
theorem inX9_init_9 : ∀ w ∈ u_ws RX9 TX9 1, w ∈ wsX9_init := by decide +kernel
set_option maxHeartbeats 4000000 in
set_option maxRecDepth 100000 in
theorem c_X9_init (l : Launch) (G : GG) (a : Nat → Nat) (b0 : Nat) (hab : ∀ k, a k = b0 + k) (i : Nat) (n : Nat)  (hn : 1 ≤ n ∧ n ≤ 2040) : Met l yX9_init wsX9_init ({ frames := 1, cells := 1, slots := n, locals := 16 } : Room) (PcB G [.ref (a i), .int (nI n)] (fun H => H.size = b0 + (i + 1) ∧ PP G ([(a i, .inr (9, [.null]))]) H)) (QV (fun _ : Unit => True) (fun _ H => H.size = b0 + (i + 2) ∧ PP G (wrowW G a i n (fun _ => 0)) H) (rng a i 2)) 1 n (rng a i 2) := by
  refine Met.ofW (cc := cX9_init) (maxL := 2) (ret := none) (by decide) rfl ?_
  intro p e s m args below meth c s₁ B hml hv
  obtain ⟨rfl, hB, hK, hNW⟩ := hv
  have hx := B.exec
  have hb := B.bytes
  have hr := B.returns
  have hts := atoms_spec (ws := wsX9_init) B.pre
  have hown : s.vm.findClass RX9 = some m.cls := findClass_of_methodNamed B.named
  have hlocks := B.notSynchronized
  have hin9 : meth.name = "<init>" := (name_of_methodNamed B.named B.method).1
  have ha : Inj a := fun x y h => by rw [hab, hab] at h; omega
  have FX : CallFix p m c cX9_init 2 s ([.ref (a i), .int (nI n)] : List Value).toArray wsX9_init RX9 := ⟨hx, hb, hml, hown, hts⟩
  have hl := lv_entry ([.ref (a i), .int (nI n)]) (n := 2) (Nat.le_of_ble_eq_true rfl)
  rw [lg_entry_eq]
  generalize (lg_sl ([.ref (a i), .int (nI n)]) ++ List.replicate (2 - (lg_sl ([.ref (a i), .int (nI n)])).length) Slot.unset).toArray = ls at hl ⊢
  have hl : lv_has ls 2 [(0, .ref (a i)), (1, .int (nI n))] := hl
  obtain ⟨hZ, h_o⟩ := hB
  have hS : va_S (rng a i 2) s.heap s.heap [] := va_S.rf
  refine lv_aload_n hx hb dX9_init_0 rfl (lv_at hl 0 rfl) ?_
  refine lv_obj hx hb hown (hts (.methodLink RX9 1 objectInit) (List.mem_of_getElem? (i := 1) (by decide +kernel))) (hts (.instanceMethod objectInit) (List.mem_of_getElem? (i := 2) (by decide +kernel))) (hts (.code objectInit ⟨#[0xb1]⟩ 1 none) (List.mem_of_getElem? (i := 3) (by decide +kernel))) (by rw [hml]; exact hl.1) dX9_init_1 (Nat.le_of_ble_eq_true rfl) (Nat.le_of_ble_eq_true rfl) ?_
  refine lv_aload_n hx hb dX9_init_4 rfl (lv_at hl 0 rfl) ?_
  refine lv_iload_n hx hb dX9_init_5 rfl (lv_at hl 1 rfl) ?_
  refine lv_if_le (tgt := 13) hx hb dX9_init_6 (by decide) (fun c6 => ?_) (fun c6 => ?_)
  · skip
    exact absurd c6 (Int32.not_le.mpr (show nI 0 < nI n from (nI_ltI (by omega) (by omega)).mpr (by omega)))
  · skip
    refine lv_iload_n hx hb dX9_init_9 rfl (lv_at hl 1 rfl) ?_
    refine lv_goto (tgt := 14) hx hb dX9_init_10 (by decide) ?_
    refine pp_newa (a := a) (b0 := b0) (G := G) (atype := .long) hx hb (hts (.arrayClass .long) (List.mem_of_getElem? (i := 4) (by decide +kernel))) (ty := .long) rfl (cA0 := gJ G) ((hK.2 1 _ rfl).2) (N' := n) (a0 := (n, .inr (.inl (fun _ => 0)))) rfl (nI_pos (by omega)) (nI_clamp (by omega)) (by show n * 8 ≤ _; omega) (Nat.le_of_ble_eq_true rfl) (by show 0 + n ≤ n; omega) dX9_init_14 hab hZ (j1 := i + 2) (by omega) hS (fun H hP9 hk1 hZ hS => ?_)
    have h_q1 : PP G ([(a (i + 1), .inl (gJ G, n, .inr (.inl (fun _ => 0))))]) H := hP9
    have h_o : PP G ([(a i, .inr (9, [.null]))]) H := kpF hk1 h_o
    refine pp_putF (ci := 9) (v := .ref (a (i + 1))) (ty := .array .long) (C := RX9) (T := TX9) (N := 1) hx hb hts inX9_init_9 tyX9 tyX9_ok nmX9 hown hK h_o hS (rng_in (by omega)) rfl 0 (by decide) (hts (.fieldLink RX9 7 "GateLedger$WideRow" "cells" "[J") (List.mem_of_getElem? (i := 5) (by decide +kernel))) (fun _ h9 => h9) rfl hin9 rfl (by decide +kernel) rfl rfl (Nat.le_of_ble_eq_true rfl) dX9_init_16 (fun H locs hP9 hk2 hz9 hS => ?_)
    have h_o : PP G ([(a i, .inr (9, [.ref (a (i + 1))]))]) H := hP9
    have h_q1 : PP G ([(a (i + 1), .inl (gJ G, n, .inr (.inl (fun _ => 0))))]) H := kp hk2 h_q1 (dj_cons (ne_a ha (by omega)) (dj_nil))
    have hZ := hz9.trans hZ
    refine wid (k := 1) (n := n) (Nat.le_of_ble_eq_true rfl) (by show 0 + n ≤ n; omega) ?_
    exact en_wv () hx hb hr hlocks hS trivial ⟨hZ, P_app h_o h_q1⟩ dX9_init_19
set_option maxRecDepth 20000 in
theorem inX3_init_3 : ∀ w ∈ u_ws RX3 TX3 8, w ∈ wsX3_init := by decide +kernel
set_option maxRecDepth 20000 in
theorem inX3_init_4 : ∀ w ∈ u_ws RX4 TX4 1, w ∈ wsX3_init := by decide +kernel
set_option maxHeartbeats 4000000 in
set_option maxRecDepth 100000 in
theorem c_X3_init (l : Launch) (G : GG) (a : Nat → Nat) (b0 : Nat) (hab : ∀ k, a k = b0 + k) (i : Nat)   : Met l yX3_init wsX3_init ({ frames := 2, cells := 10, slots := 501, locals := 37 } : Room) (PcB G [.ref (a i)] (fun H => H.size = b0 + (i + 1) ∧ PP G ([(a i, .inr (3, [.null, .null, .null, .null, .null, .int (nI 0), .int (nI 0), .int (nI 0)]))]) H)) (QV (fun _ : Unit => True) (fun _ H => H.size = b0 + (i + 11) ∧ PP G (netW G a i N0) H) (rng a i 11)) 10 501 (rng a i 11) := by
  refine Met.ofW (cc := cX3_init) (maxL := 1) (ret := none) (by decide) rfl ?_
  intro p e s m args below meth c s₁ B hml hv
  obtain ⟨rfl, hB, hK, hNW⟩ := hv
  have hx := B.exec
  have hb := B.bytes
  have hr := B.returns
  have hts := atoms_spec (ws := wsX3_init) B.pre
  have hown : s.vm.findClass RX3 = some m.cls := findClass_of_methodNamed B.named
  have hlocks := B.notSynchronized
  have hin9 : meth.name = "<init>" := (name_of_methodNamed B.named B.method).1
  have ha : Inj a := fun x y h => by rw [hab, hab] at h; omega
  have FX : CallFix p m c cX3_init 1 s ([.ref (a i)] : List Value).toArray wsX3_init RX3 := ⟨hx, hb, hml, hown, hts⟩
  have hl := lv_entry ([.ref (a i)]) (n := 1) (Nat.le_of_ble_eq_true rfl)
  rw [lg_entry_eq]
  generalize (lg_sl ([.ref (a i)]) ++ List.replicate (1 - (lg_sl ([.ref (a i)])).length) Slot.unset).toArray = ls at hl ⊢
  have hl : lv_has ls 1 [(0, .ref (a i))] := hl
  obtain ⟨hZ, h_o⟩ := hB
  have hS : va_S (rng a i 11) s.heap s.heap [] := va_S.rf
  refine lv_aload_n hx hb dX3_init_0 rfl (lv_at hl 0 rfl) ?_
  refine lv_obj hx hb hown (hts (.methodLink RX3 3 objectInit) (List.mem_of_getElem? (i := 1) (by decide +kernel))) (hts (.instanceMethod objectInit) (List.mem_of_getElem? (i := 2) (by decide +kernel))) (hts (.code objectInit ⟨#[0xb1]⟩ 1 none) (List.mem_of_getElem? (i := 3) (by decide +kernel))) (by rw [hml]; exact hl.1) dX3_init_1 (Nat.le_of_ble_eq_true rfl) (Nat.le_of_ble_eq_true rfl) ?_
  refine lv_aload_n hx hb dX3_init_4 rfl (lv_at hl 0 rfl) ?_
  refine pp_new (a := a) (b0 := b0) (ci := 4) (fs := [.null]) (C := RX4) (T := TX4) (N := 1) hx hb hts inX3_init_4 tyX4 tyX4_ok hown (hts (.classLink RX3 9 RX4) (List.mem_of_getElem? (i := 4) (by decide +kernel))) (hts (.instantiable RX4 1) (List.mem_of_getElem? (i := 5) (by decide +kernel))) (hts (.initialized RX4) (List.mem_of_getElem? (i := 6) (by decide +kernel))) hK rfl (fun j hj => by rcases (show j = 0 by omega) with rfl <;> rfl) hab hZ (j1 := i + 2) (by omega) hS (Nat.le_of_ble_eq_true rfl) (Nat.le_of_ble_eq_true rfl) dX3_init_5 (fun H hP9 hk1 hZ hS => ?_)
  have h_q1 : PP G ([(a (i + 1), .inr (4, [.null]))]) H := hP9
  have h_o : PP G ([(a i, .inr (3, [.null, .null, .null, .null, .null, .int (nI 0), .int (nI 0), .int (nI 0)]))]) H := kpF hk1 h_o
  refine lv_dup hx hb dX3_init_8 rfl ?_
  refine lv_bipush (v := nI 120) hx hb dX3_init_9 (by decide) ?_
  refine wr_v (va_runI (As := [.int (nI 120)]) (rest := [.ref (a (i + 1)), .ref (a i)]) FX (c_X4_init l G a b0 hab (i + 1) 120 (by decide)) (cwI 1 hts gX3_init_X4_init rfl rfl rfl (hts (.initialized RX4) (List.mem_of_getElem? (i := 6) (by decide +kernel))) (hts (.methodLink RX3 11 yX4_init) (List.mem_of_getElem? (i := 12) (by decide +kernel))) (hts (.instanceMethod yX4_init) (List.mem_of_getElem? (i := 13) (by decide +kernel))) rfl (by decide +kernel) ⟨Nat.le_of_ble_eq_true rfl, Nat.le_of_ble_eq_true rfl⟩) (preS hK hNW ⟨hZ, h_q1⟩) rfl rfl hl.1 rfl (lv_room (Nat.le_of_ble_eq_true rfl)) dX3_init_11 ⟨Nat.le_of_ble_eq_true rfl, Nat.le_of_ble_eq_true rfl⟩) hS (rng_sub (by omega)) (fun _ H locs _ hP9 hk2 hS => ?_)
  have hZ := hP9.1
  have h_q1 : PP G (rowW G a (i + 1) 120 (fun _ => nI 0)) H := hP9.2
  have h_o : PP G ([(a i, .inr (3, [.null, .null, .null, .null, .null, .int (nI 0), .int (nI 0), .int (nI 0)]))]) H := kp hk2 h_o (dj_cons (rng_no ha (by omega)) (dj_nil))
  refine pp_putF (ci := 3) (v := .ref (a (i + 1))) (ty := .object "GateLedger$Row") (C := RX3) (T := TX3) (N := 8) hx hb hts inX3_init_3 tyX3 tyX3_ok nmX3 hown hK h_o hS (rng_in (by omega)) rfl 0 (by decide) (hts (.fieldLink RX3 14 "GateLedger$Net" "kinds" "LGateLedger$Row;") (List.mem_of_getElem? (i := 7) (by decide +kernel))) (fun _ h9 => h9) rfl hin9 rfl (by decide +kernel) rfl rfl (Nat.le_of_ble_eq_true rfl) dX3_init_14 (fun H locs hP9 hk3 hz9 hS => ?_)
  have h_o : PP G ([(a i, .inr (3, [.ref (a (i + 1)), .null, .null, .null, .null, .int (nI 0), .int (nI 0), .int (nI 0)]))]) H := hP9
  have h_q1 : PP G (rowW G a (i + 1) 120 (fun _ => nI 0)) H := kp hk3 h_q1 (dj_cons (ne_a ha (by omega)) (dj_cons (ne_a ha (by omega)) (dj_nil)))
  have hZ := hz9.trans hZ
  refine lv_aload_n hx hb dX3_init_17 rfl (lv_at hl 0 rfl) ?_
  refine pp_new (a := a) (b0 := b0) (ci := 4) (fs := [.null]) (C := RX4) (T := TX4) (N := 1) hx hb hts inX3_init_4 tyX4 tyX4_ok hown (hts (.classLink RX3 9 RX4) (List.mem_of_getElem? (i := 4) (by decide +kernel))) (hts (.instantiable RX4 1) (List.mem_of_getElem? (i := 5) (by decide +kernel))) (hts (.initialized RX4) (List.mem_of_getElem? (i := 6) (by decide +kernel))) hK rfl (fun j hj => by rcases (show j = 0 by omega) with rfl <;> rfl) hab hZ (j1 := i + 4) (by omega) hS (Nat.le_of_ble_eq_true rfl) (Nat.le_of_ble_eq_true rfl) dX3_init_18 (fun H hP9 hk4 hZ hS => ?_)
  have h_q3 : PP G ([(a (i + 3), .inr (4, [.null]))]) H := hP9
  have h_o : PP G ([(a i, .inr (3, [.ref (a (i + 1)), .null, .null, .null, .null, .int (nI 0), .int (nI 0), .int (nI 0)]))]) H := kpF hk4 h_o
  have h_q1 : PP G (rowW G a (i + 1) 120 (fun _ => nI 0)) H := kpF hk4 h_q1
  refine lv_dup hx hb dX3_init_21 rfl ?_
  refine lv_bipush (v := nI 120) hx hb dX3_init_22 (by decide) ?_
  refine wr_v (va_runI (As := [.int (nI 120)]) (rest := [.ref (a (i + 3)), .ref (a i)]) FX (c_X4_init l G a b0 hab (i + 3) 120 (by decide)) (cwI 1 hts gX3_init_X4_init rfl rfl rfl (hts (.initialized RX4) (List.mem_of_getElem? (i := 6) (by decide +kernel))) (hts (.methodLink RX3 11 yX4_init) (List.mem_of_getElem? (i := 12) (by decide +kernel))) (hts (.instanceMethod yX4_init) (List.mem_of_getElem? (i := 13) (by decide +kernel))) rfl (by decide +kernel) ⟨Nat.le_of_ble_eq_true rfl, Nat.le_of_ble_eq_true rfl⟩) (preS hK hNW ⟨hZ, h_q3⟩) rfl rfl hl.1 rfl (lv_room (Nat.le_of_ble_eq_true rfl)) dX3_init_24 ⟨Nat.le_of_ble_eq_true rfl, Nat.le_of_ble_eq_true rfl⟩) hS (rng_sub (by omega)) (fun _ H locs _ hP9 hk5 hS => ?_)
  have hZ := hP9.1
  have h_q3 : PP G (rowW G a (i + 3) 120 (fun _ => nI 0)) H := hP9.2
  have h_o : PP G ([(a i, .inr (3, [.ref (a (i + 1)), .null, .null, .null, .null, .int (nI 0), .int (nI 0), .int (nI 0)]))]) H := kp hk5 h_o (dj_cons (rng_no ha (by omega)) (dj_nil))
  have h_q1 : PP G (rowW G a (i + 1) 120 (fun _ => nI 0)) H := kp hk5 h_q1 (dj_cons (rng_no ha (by omega)) (dj_cons (rng_no ha (by omega)) (dj_nil)))
  refine pp_putF (ci := 3) (v := .ref (a (i + 3))) (ty := .object "GateLedger$Row") (C := RX3) (T := TX3) (N := 8) hx hb hts inX3_init_3 tyX3 tyX3_ok nmX3 hown hK h_o hS (rng_in (by omega)) rfl 1 (by decide) (hts (.fieldLink RX3 20 "GateLedger$Net" "firsts" "LGateLedger$Row;") (List.mem_of_getElem? (i := 8) (by decide +kernel))) (fun _ h9 => h9) rfl hin9 rfl (by decide +kernel) rfl rfl (Nat.le_of_ble_eq_true rfl) dX3_init_27 (fun H locs hP9 hk6 hz9 hS => ?_)
  have h_o : PP G ([(a i, .inr (3, [.ref (a (i + 1)), .ref (a (i + 3)), .null, .null, .null, .int (nI 0), .int (nI 0), .int (nI 0)]))]) H := hP9
  have h_q1 : PP G (rowW G a (i + 1) 120 (fun _ => nI 0)) H := kp hk6 h_q1 (dj_cons (ne_a ha (by omega)) (dj_cons (ne_a ha (by omega)) (dj_nil)))
  have h_q3 : PP G (rowW G a (i + 3) 120 (fun _ => nI 0)) H := kp hk6 h_q3 (dj_cons (ne_a ha (by omega)) (dj_cons (ne_a ha (by omega)) (dj_nil)))
  have hZ := hz9.trans hZ
  refine lv_aload_n hx hb dX3_init_30 rfl (lv_at hl 0 rfl) ?_
  refine pp_new (a := a) (b0 := b0) (ci := 4) (fs := [.null]) (C := RX4) (T := TX4) (N := 1) hx hb hts inX3_init_4 tyX4 tyX4_ok hown (hts (.classLink RX3 9 RX4) (List.mem_of_getElem? (i := 4) (by decide +kernel))) (hts (.instantiable RX4 1) (List.mem_of_getElem? (i := 5) (by decide +kernel))) (hts (.initialized RX4) (List.mem_of_getElem? (i := 6) (by decide +kernel))) hK rfl (fun j hj => by rcases (show j = 0 by omega) with rfl <;> rfl) hab hZ (j1 := i + 6) (by omega) hS (Nat.le_of_ble_eq_true rfl) (Nat.le_of_ble_eq_true rfl) dX3_init_31 (fun H hP9 hk7 hZ hS => ?_)
  have h_q5 : PP G ([(a (i + 5), .inr (4, [.null]))]) H := hP9
  have h_o : PP G ([(a i, .inr (3, [.ref (a (i + 1)), .ref (a (i + 3)), .null, .null, .null, .int (nI 0), .int (nI 0), .int (nI 0)]))]) H := kpF hk7 h_o
  have h_q1 : PP G (rowW G a (i + 1) 120 (fun _ => nI 0)) H := kpF hk7 h_q1
  have h_q3 : PP G (rowW G a (i + 3) 120 (fun _ => nI 0)) H := kpF hk7 h_q3
  refine lv_dup hx hb dX3_init_34 rfl ?_
  refine lv_bipush (v := nI 120) hx hb dX3_init_35 (by decide) ?_
  refine wr_v (va_runI (As := [.int (nI 120)]) (rest := [.ref (a (i + 5)), .ref (a i)]) FX (c_X4_init l G a b0 hab (i + 5) 120 (by decide)) (cwI 1 hts gX3_init_X4_init rfl rfl rfl (hts (.initialized RX4) (List.mem_of_getElem? (i := 6) (by decide +kernel))) (hts (.methodLink RX3 11 yX4_init) (List.mem_of_getElem? (i := 12) (by decide +kernel))) (hts (.instanceMethod yX4_init) (List.mem_of_getElem? (i := 13) (by decide +kernel))) rfl (by decide +kernel) ⟨Nat.le_of_ble_eq_true rfl, Nat.le_of_ble_eq_true rfl⟩) (preS hK hNW ⟨hZ, h_q5⟩) rfl rfl hl.1 rfl (lv_room (Nat.le_of_ble_eq_true rfl)) dX3_init_37 ⟨Nat.le_of_ble_eq_true rfl, Nat.le_of_ble_eq_true rfl⟩) hS (rng_sub (by omega)) (fun _ H locs _ hP9 hk8 hS => ?_)
  have hZ := hP9.1
  have h_q5 : PP G (rowW G a (i + 5) 120 (fun _ => nI 0)) H := hP9.2
  have h_o : PP G ([(a i, .inr (3, [.ref (a (i + 1)), .ref (a (i + 3)), .null, .null, .null, .int (nI 0), .int (nI 0), .int (nI 0)]))]) H := kp hk8 h_o (dj_cons (rng_no ha (by omega)) (dj_nil))
  have h_q1 : PP G (rowW G a (i + 1) 120 (fun _ => nI 0)) H := kp hk8 h_q1 (dj_cons (rng_no ha (by omega)) (dj_cons (rng_no ha (by omega)) (dj_nil)))
  have h_q3 : PP G (rowW G a (i + 3) 120 (fun _ => nI 0)) H := kp hk8 h_q3 (dj_cons (rng_no ha (by omega)) (dj_cons (rng_no ha (by omega)) (dj_nil)))
  refine pp_putF (ci := 3) (v := .ref (a (i + 5))) (ty := .object "GateLedger$Row") (C := RX3) (T := TX3) (N := 8) hx hb hts inX3_init_3 tyX3 tyX3_ok nmX3 hown hK h_o hS (rng_in (by omega)) rfl 2 (by decide) (hts (.fieldLink RX3 23 "GateLedger$Net" "seconds" "LGateLedger$Row;") (List.mem_of_getElem? (i := 9) (by decide +kernel))) (fun _ h9 => h9) rfl hin9 rfl (by decide +kernel) rfl rfl (Nat.le_of_ble_eq_true rfl) dX3_init_40 (fun H locs hP9 hk9 hz9 hS => ?_)
  have h_o : PP G ([(a i, .inr (3, [.ref (a (i + 1)), .ref (a (i + 3)), .ref (a (i + 5)), .null, .null, .int (nI 0), .int (nI 0), .int (nI 0)]))]) H := hP9
  have h_q1 : PP G (rowW G a (i + 1) 120 (fun _ => nI 0)) H := kp hk9 h_q1 (dj_cons (ne_a ha (by omega)) (dj_cons (ne_a ha (by omega)) (dj_nil)))
  have h_q3 : PP G (rowW G a (i + 3) 120 (fun _ => nI 0)) H := kp hk9 h_q3 (dj_cons (ne_a ha (by omega)) (dj_cons (ne_a ha (by omega)) (dj_nil)))
  have h_q5 : PP G (rowW G a (i + 5) 120 (fun _ => nI 0)) H := kp hk9 h_q5 (dj_cons (ne_a ha (by omega)) (dj_cons (ne_a ha (by omega)) (dj_nil)))
  have hZ := hz9.trans hZ
  refine lv_aload_n hx hb dX3_init_43 rfl (lv_at hl 0 rfl) ?_
  refine pp_new (a := a) (b0 := b0) (ci := 4) (fs := [.null]) (C := RX4) (T := TX4) (N := 1) hx hb hts inX3_init_4 tyX4 tyX4_ok hown (hts (.classLink RX3 9 RX4) (List.mem_of_getElem? (i := 4) (by decide +kernel))) (hts (.instantiable RX4 1) (List.mem_of_getElem? (i := 5) (by decide +kernel))) (hts (.initialized RX4) (List.mem_of_getElem? (i := 6) (by decide +kernel))) hK rfl (fun j hj => by rcases (show j = 0 by omega) with rfl <;> rfl) hab hZ (j1 := i + 8) (by omega) hS (Nat.le_of_ble_eq_true rfl) (Nat.le_of_ble_eq_true rfl) dX3_init_44 (fun H hP9 hk10 hZ hS => ?_)
  have h_q7 : PP G ([(a (i + 7), .inr (4, [.null]))]) H := hP9
  have h_o : PP G ([(a i, .inr (3, [.ref (a (i + 1)), .ref (a (i + 3)), .ref (a (i + 5)), .null, .null, .int (nI 0), .int (nI 0), .int (nI 0)]))]) H := kpF hk10 h_o
  have h_q1 : PP G (rowW G a (i + 1) 120 (fun _ => nI 0)) H := kpF hk10 h_q1
  have h_q3 : PP G (rowW G a (i + 3) 120 (fun _ => nI 0)) H := kpF hk10 h_q3
  have h_q5 : PP G (rowW G a (i + 5) 120 (fun _ => nI 0)) H := kpF hk10 h_q5
  refine lv_dup hx hb dX3_init_47 rfl ?_
  refine lv_bipush (v := nI 120) hx hb dX3_init_48 (by decide) ?_
  refine wr_v (va_runI (As := [.int (nI 120)]) (rest := [.ref (a (i + 7)), .ref (a i)]) FX (c_X4_init l G a b0 hab (i + 7) 120 (by decide)) (cwI 1 hts gX3_init_X4_init rfl rfl rfl (hts (.initialized RX4) (List.mem_of_getElem? (i := 6) (by decide +kernel))) (hts (.methodLink RX3 11 yX4_init) (List.mem_of_getElem? (i := 12) (by decide +kernel))) (hts (.instanceMethod yX4_init) (List.mem_of_getElem? (i := 13) (by decide +kernel))) rfl (by decide +kernel) ⟨Nat.le_of_ble_eq_true rfl, Nat.le_of_ble_eq_true rfl⟩) (preS hK hNW ⟨hZ, h_q7⟩) rfl rfl hl.1 rfl (lv_room (Nat.le_of_ble_eq_true rfl)) dX3_init_50 ⟨Nat.le_of_ble_eq_true rfl, Nat.le_of_ble_eq_true rfl⟩) hS (rng_sub (by omega)) (fun _ H locs _ hP9 hk11 hS => ?_)
  have hZ := hP9.1
  have h_q7 : PP G (rowW G a (i + 7) 120 (fun _ => nI 0)) H := hP9.2
  have h_o : PP G ([(a i, .inr (3, [.ref (a (i + 1)), .ref (a (i + 3)), .ref (a (i + 5)), .null, .null, .int (nI 0), .int (nI 0), .int (nI 0)]))]) H := kp hk11 h_o (dj_cons (rng_no ha (by omega)) (dj_nil))
  have h_q1 : PP G (rowW G a (i + 1) 120 (fun _ => nI 0)) H := kp hk11 h_q1 (dj_cons (rng_no ha (by omega)) (dj_cons (rng_no ha (by omega)) (dj_nil)))
  have h_q3 : PP G (rowW G a (i + 3) 120 (fun _ => nI 0)) H := kp hk11 h_q3 (dj_cons (rng_no ha (by omega)) (dj_cons (rng_no ha (by omega)) (dj_nil)))
  have h_q5 : PP G (rowW G a (i + 5) 120 (fun _ => nI 0)) H := kp hk11 h_q5 (dj_cons (rng_no ha (by omega)) (dj_cons (rng_no ha (by omega)) (dj_nil)))
  refine pp_putF (ci := 3) (v := .ref (a (i + 7))) (ty := .object "GateLedger$Row") (C := RX3) (T := TX3) (N := 8) hx hb hts inX3_init_3 tyX3 tyX3_ok nmX3 hown hK h_o hS (rng_in (by omega)) rfl 3 (by decide) (hts (.fieldLink RX3 26 "GateLedger$Net" "stuckBits" "LGateLedger$Row;") (List.mem_of_getElem? (i := 10) (by decide +kernel))) (fun _ h9 => h9) rfl hin9 rfl (by decide +kernel) rfl rfl (Nat.le_of_ble_eq_true rfl) dX3_init_53 (fun H locs hP9 hk12 hz9 hS => ?_)
  have h_o : PP G ([(a i, .inr (3, [.ref (a (i + 1)), .ref (a (i + 3)), .ref (a (i + 5)), .ref (a (i + 7)), .null, .int (nI 0), .int (nI 0), .int (nI 0)]))]) H := hP9
  have h_q1 : PP G (rowW G a (i + 1) 120 (fun _ => nI 0)) H := kp hk12 h_q1 (dj_cons (ne_a ha (by omega)) (dj_cons (ne_a ha (by omega)) (dj_nil)))
  have h_q3 : PP G (rowW G a (i + 3) 120 (fun _ => nI 0)) H := kp hk12 h_q3 (dj_cons (ne_a ha (by omega)) (dj_cons (ne_a ha (by omega)) (dj_nil)))
  have h_q5 : PP G (rowW G a (i + 5) 120 (fun _ => nI 0)) H := kp hk12 h_q5 (dj_cons (ne_a ha (by omega)) (dj_cons (ne_a ha (by omega)) (dj_nil)))
  have h_q7 : PP G (rowW G a (i + 7) 120 (fun _ => nI 0)) H := kp hk12 h_q7 (dj_cons (ne_a ha (by omega)) (dj_cons (ne_a ha (by omega)) (dj_nil)))
  have hZ := hz9.trans hZ
  refine lv_aload_n hx hb dX3_init_56 rfl (lv_at hl 0 rfl) ?_
  refine pp_new (a := a) (b0 := b0) (ci := 4) (fs := [.null]) (C := RX4) (T := TX4) (N := 1) hx hb hts inX3_init_4 tyX4 tyX4_ok hown (hts (.classLink RX3 9 RX4) (List.mem_of_getElem? (i := 4) (by decide +kernel))) (hts (.instantiable RX4 1) (List.mem_of_getElem? (i := 5) (by decide +kernel))) (hts (.initialized RX4) (List.mem_of_getElem? (i := 6) (by decide +kernel))) hK rfl (fun j hj => by rcases (show j = 0 by omega) with rfl <;> rfl) hab hZ (j1 := i + 10) (by omega) hS (Nat.le_of_ble_eq_true rfl) (Nat.le_of_ble_eq_true rfl) dX3_init_57 (fun H hP9 hk13 hZ hS => ?_)
  have h_q9 : PP G ([(a (i + 9), .inr (4, [.null]))]) H := hP9
  have h_o : PP G ([(a i, .inr (3, [.ref (a (i + 1)), .ref (a (i + 3)), .ref (a (i + 5)), .ref (a (i + 7)), .null, .int (nI 0), .int (nI 0), .int (nI 0)]))]) H := kpF hk13 h_o
  have h_q1 : PP G (rowW G a (i + 1) 120 (fun _ => nI 0)) H := kpF hk13 h_q1
  have h_q3 : PP G (rowW G a (i + 3) 120 (fun _ => nI 0)) H := kpF hk13 h_q3
  have h_q5 : PP G (rowW G a (i + 5) 120 (fun _ => nI 0)) H := kpF hk13 h_q5
  have h_q7 : PP G (rowW G a (i + 7) 120 (fun _ => nI 0)) H := kpF hk13 h_q7
  refine lv_dup hx hb dX3_init_60 rfl ?_
  refine lv_bipush (v := nI 16) hx hb dX3_init_61 (by decide) ?_
  refine wr_v (va_runI (As := [.int (nI 16)]) (rest := [.ref (a (i + 9)), .ref (a i)]) FX (c_X4_init l G a b0 hab (i + 9) 16 (by decide)) (cwI 1 hts gX3_init_X4_init rfl rfl rfl (hts (.initialized RX4) (List.mem_of_getElem? (i := 6) (by decide +kernel))) (hts (.methodLink RX3 11 yX4_init) (List.mem_of_getElem? (i := 12) (by decide +kernel))) (hts (.instanceMethod yX4_init) (List.mem_of_getElem? (i := 13) (by decide +kernel))) rfl (by decide +kernel) ⟨Nat.le_of_ble_eq_true rfl, Nat.le_of_ble_eq_true rfl⟩) (preS hK hNW ⟨hZ, h_q9⟩) rfl rfl hl.1 rfl (lv_room (Nat.le_of_ble_eq_true rfl)) dX3_init_63 ⟨Nat.le_of_ble_eq_true rfl, Nat.le_of_ble_eq_true rfl⟩) hS (rng_sub (by omega)) (fun _ H locs _ hP9 hk14 hS => ?_)
  have hZ := hP9.1
  have h_q9 : PP G (rowW G a (i + 9) 16 (fun _ => nI 0)) H := hP9.2
  have h_o : PP G ([(a i, .inr (3, [.ref (a (i + 1)), .ref (a (i + 3)), .ref (a (i + 5)), .ref (a (i + 7)), .null, .int (nI 0), .int (nI 0), .int (nI 0)]))]) H := kp hk14 h_o (dj_cons (rng_no ha (by omega)) (dj_nil))
  have h_q1 : PP G (rowW G a (i + 1) 120 (fun _ => nI 0)) H := kp hk14 h_q1 (dj_cons (rng_no ha (by omega)) (dj_cons (rng_no ha (by omega)) (dj_nil)))
  have h_q3 : PP G (rowW G a (i + 3) 120 (fun _ => nI 0)) H := kp hk14 h_q3 (dj_cons (rng_no ha (by omega)) (dj_cons (rng_no ha (by omega)) (dj_nil)))
  have h_q5 : PP G (rowW G a (i + 5) 120 (fun _ => nI 0)) H := kp hk14 h_q5 (dj_cons (rng_no ha (by omega)) (dj_cons (rng_no ha (by omega)) (dj_nil)))
  have h_q7 : PP G (rowW G a (i + 7) 120 (fun _ => nI 0)) H := kp hk14 h_q7 (dj_cons (rng_no ha (by omega)) (dj_cons (rng_no ha (by omega)) (dj_nil)))
  refine pp_putF (ci := 3) (v := .ref (a (i + 9))) (ty := .object "GateLedger$Row") (C := RX3) (T := TX3) (N := 8) hx hb hts inX3_init_3 tyX3 tyX3_ok nmX3 hown hK h_o hS (rng_in (by omega)) rfl 4 (by decide) (hts (.fieldLink RX3 29 "GateLedger$Net" "outs" "LGateLedger$Row;") (List.mem_of_getElem? (i := 11) (by decide +kernel))) (fun _ h9 => h9) rfl hin9 rfl (by decide +kernel) rfl rfl (Nat.le_of_ble_eq_true rfl) dX3_init_66 (fun H locs hP9 hk15 hz9 hS => ?_)
  have h_o : PP G ([(a i, .inr (3, [.ref (a (i + 1)), .ref (a (i + 3)), .ref (a (i + 5)), .ref (a (i + 7)), .ref (a (i + 9)), .int (nI 0), .int (nI 0), .int (nI 0)]))]) H := hP9
  have h_q1 : PP G (rowW G a (i + 1) 120 (fun _ => nI 0)) H := kp hk15 h_q1 (dj_cons (ne_a ha (by omega)) (dj_cons (ne_a ha (by omega)) (dj_nil)))
  have h_q3 : PP G (rowW G a (i + 3) 120 (fun _ => nI 0)) H := kp hk15 h_q3 (dj_cons (ne_a ha (by omega)) (dj_cons (ne_a ha (by omega)) (dj_nil)))
  have h_q5 : PP G (rowW G a (i + 5) 120 (fun _ => nI 0)) H := kp hk15 h_q5 (dj_cons (ne_a ha (by omega)) (dj_cons (ne_a ha (by omega)) (dj_nil)))
  have h_q7 : PP G (rowW G a (i + 7) 120 (fun _ => nI 0)) H := kp hk15 h_q7 (dj_cons (ne_a ha (by omega)) (dj_cons (ne_a ha (by omega)) (dj_nil)))
  have h_q9 : PP G (rowW G a (i + 9) 16 (fun _ => nI 0)) H := kp hk15 h_q9 (dj_cons (ne_a ha (by omega)) (dj_cons (ne_a ha (by omega)) (dj_nil)))
  have hZ := hz9.trans hZ
  refine wid (k := 10) (n := 501) (Nat.le_of_ble_eq_true rfl) (Nat.le_of_ble_eq_true rfl) ?_
  exact en_wv () hx hb hr hlocks hS trivial ⟨hZ, P_app h_o (P_app h_q1 (P_app h_q3 (P_app h_q5 (P_app h_q7 h_q9))))⟩ dX3_init_69
set_option maxRecDepth 20000 in
theorem inX7_init_4 : ∀ w ∈ u_ws RX4 TX4 1, w ∈ wsX7_init := by decide +kernel
set_option maxRecDepth 20000 in
theorem inX7_init_7 : ∀ w ∈ u_ws RX7 TX7 2, w ∈ wsX7_init := by decide +kernel
set_option maxHeartbeats 4000000 in
set_option maxRecDepth 100000 in
theorem c_X7_init (l : Launch) (G : GG) (a : Nat → Nat) (b0 : Nat) (hab : ∀ k, a k = b0 + k) (i : Nat)   : Met l yX7_init wsX7_init ({ frames := 2, cells := 2, slots := 121, locals := 37 } : Room) (PcB G [.ref (a i)] (fun H => H.size = b0 + (i + 1) ∧ PP G ([(a i, .inr (7, [.null, .int (nI 0)]))]) H)) (QV (fun _ : Unit => True) (fun _ H => H.size = b0 + (i + 3) ∧ PP G (timW G a i (nI 0) (fun _ => nI 0)) H) (rng a i 3)) 2 121 (rng a i 3) := by
  refine Met.ofW (cc := cX7_init) (maxL := 1) (ret := none) (by decide) rfl ?_
  intro p e s m args below meth c s₁ B hml hv
  obtain ⟨rfl, hB, hK, hNW⟩ := hv
  have hx := B.exec
  have hb := B.bytes
  have hr := B.returns
  have hts := atoms_spec (ws := wsX7_init) B.pre
  have hown : s.vm.findClass RX7 = some m.cls := findClass_of_methodNamed B.named
  have hlocks := B.notSynchronized
  have hin9 : meth.name = "<init>" := (name_of_methodNamed B.named B.method).1
  have ha : Inj a := fun x y h => by rw [hab, hab] at h; omega
  have FX : CallFix p m c cX7_init 1 s ([.ref (a i)] : List Value).toArray wsX7_init RX7 := ⟨hx, hb, hml, hown, hts⟩
  have hl := lv_entry ([.ref (a i)]) (n := 1) (Nat.le_of_ble_eq_true rfl)
  rw [lg_entry_eq]
  generalize (lg_sl ([.ref (a i)]) ++ List.replicate (1 - (lg_sl ([.ref (a i)])).length) Slot.unset).toArray = ls at hl ⊢
  have hl : lv_has ls 1 [(0, .ref (a i))] := hl
  obtain ⟨hZ, h_o⟩ := hB
  have hS : va_S (rng a i 3) s.heap s.heap [] := va_S.rf
  refine lv_aload_n hx hb dX7_init_0 rfl (lv_at hl 0 rfl) ?_
  refine lv_obj hx hb hown (hts (.methodLink RX7 3 objectInit) (List.mem_of_getElem? (i := 1) (by decide +kernel))) (hts (.instanceMethod objectInit) (List.mem_of_getElem? (i := 2) (by decide +kernel))) (hts (.code objectInit ⟨#[0xb1]⟩ 1 none) (List.mem_of_getElem? (i := 3) (by decide +kernel))) (by rw [hml]; exact hl.1) dX7_init_1 (Nat.le_of_ble_eq_true rfl) (Nat.le_of_ble_eq_true rfl) ?_
  refine lv_aload_n hx hb dX7_init_4 rfl (lv_at hl 0 rfl) ?_
  refine pp_new (a := a) (b0 := b0) (ci := 4) (fs := [.null]) (C := RX4) (T := TX4) (N := 1) hx hb hts inX7_init_4 tyX4 tyX4_ok hown (hts (.classLink RX7 9 RX4) (List.mem_of_getElem? (i := 4) (by decide +kernel))) (hts (.instantiable RX4 1) (List.mem_of_getElem? (i := 5) (by decide +kernel))) (hts (.initialized RX4) (List.mem_of_getElem? (i := 6) (by decide +kernel))) hK rfl (fun j hj => by rcases (show j = 0 by omega) with rfl <;> rfl) hab hZ (j1 := i + 2) (by omega) hS (Nat.le_of_ble_eq_true rfl) (Nat.le_of_ble_eq_true rfl) dX7_init_5 (fun H hP9 hk1 hZ hS => ?_)
  have h_q1 : PP G ([(a (i + 1), .inr (4, [.null]))]) H := hP9
  have h_o : PP G ([(a i, .inr (7, [.null, .int (nI 0)]))]) H := kpF hk1 h_o
  refine lv_dup hx hb dX7_init_8 rfl ?_
  refine lv_bipush (v := nI 120) hx hb dX7_init_9 (by decide) ?_
  refine wr_v (va_runI (As := [.int (nI 120)]) (rest := [.ref (a (i + 1)), .ref (a i)]) FX (c_X4_init l G a b0 hab (i + 1) 120 (by decide)) (cwI 1 hts gX7_init_X4_init rfl rfl rfl (hts (.initialized RX4) (List.mem_of_getElem? (i := 6) (by decide +kernel))) (hts (.methodLink RX7 11 yX4_init) (List.mem_of_getElem? (i := 8) (by decide +kernel))) (hts (.instanceMethod yX4_init) (List.mem_of_getElem? (i := 9) (by decide +kernel))) rfl (by decide +kernel) ⟨Nat.le_of_ble_eq_true rfl, Nat.le_of_ble_eq_true rfl⟩) (preS hK hNW ⟨hZ, h_q1⟩) rfl rfl hl.1 rfl (lv_room (Nat.le_of_ble_eq_true rfl)) dX7_init_11 ⟨Nat.le_of_ble_eq_true rfl, Nat.le_of_ble_eq_true rfl⟩) hS (rng_sub (by omega)) (fun _ H locs _ hP9 hk2 hS => ?_)
  have hZ := hP9.1
  have h_q1 : PP G (rowW G a (i + 1) 120 (fun _ => nI 0)) H := hP9.2
  have h_o : PP G ([(a i, .inr (7, [.null, .int (nI 0)]))]) H := kp hk2 h_o (dj_cons (rng_no ha (by omega)) (dj_nil))
  refine pp_putF (ci := 7) (v := .ref (a (i + 1))) (ty := .object "GateLedger$Row") (C := RX7) (T := TX7) (N := 2) hx hb hts inX7_init_7 tyX7 tyX7_ok nmX7 hown hK h_o hS (rng_in (by omega)) rfl 0 (by decide) (hts (.fieldLink RX7 14 "GateLedger$Timing" "times" "LGateLedger$Row;") (List.mem_of_getElem? (i := 7) (by decide +kernel))) (fun _ h9 => h9) rfl hin9 rfl (by decide +kernel) rfl rfl (Nat.le_of_ble_eq_true rfl) dX7_init_14 (fun H locs hP9 hk3 hz9 hS => ?_)
  have h_o : PP G ([(a i, .inr (7, [.ref (a (i + 1)), .int (nI 0)]))]) H := hP9
  have h_q1 : PP G (rowW G a (i + 1) 120 (fun _ => nI 0)) H := kp hk3 h_q1 (dj_cons (ne_a ha (by omega)) (dj_cons (ne_a ha (by omega)) (dj_nil)))
  have hZ := hz9.trans hZ
  refine wid (k := 2) (n := 121) (Nat.le_of_ble_eq_true rfl) (Nat.le_of_ble_eq_true rfl) ?_
  exact en_wv () hx hb hr hlocks hS trivial ⟨hZ, P_app h_o h_q1⟩ dX7_init_17
set_option maxHeartbeats 4000000 in
set_option maxRecDepth 100000 in
theorem c_X5_init (l : Launch) (G : GG) (a : Nat → Nat) (b0 : Nat) (hab : ∀ k, a k = b0 + k) (i : Nat)   : Met l yX5_init wsX5_init ({ frames := 1, cells := 0, slots := 0, locals := 16 } : Room) (PcB G [.ref (a i)] (fun H => H.size = b0 + (i + 1) ∧ PP G ([(a i, .inr (5, [.int (nI 0), .int (nI 0), .int (nI 0)]))]) H)) (QV (fun _ : Unit => True) (fun _ H => H.size = b0 + (i + 1) ∧ PP G (talW a i 0 0 0) H) (rng a i 1)) 0 0 (rng a i 1) := by
  refine Met.ofW (cc := cX5_init) (maxL := 1) (ret := none) (by decide) rfl ?_
  intro p e s m args below meth c s₁ B hml hv
  obtain ⟨rfl, hB, hK, hNW⟩ := hv
  have hx := B.exec
  have hb := B.bytes
  have hr := B.returns
  have hts := atoms_spec (ws := wsX5_init) B.pre
  have hown : s.vm.findClass RX5 = some m.cls := findClass_of_methodNamed B.named
  have hlocks := B.notSynchronized
  have hin9 : meth.name = "<init>" := (name_of_methodNamed B.named B.method).1
  have ha : Inj a := fun x y h => by rw [hab, hab] at h; omega
  have FX : CallFix p m c cX5_init 1 s ([.ref (a i)] : List Value).toArray wsX5_init RX5 := ⟨hx, hb, hml, hown, hts⟩
  have hl := lv_entry ([.ref (a i)]) (n := 1) (Nat.le_of_ble_eq_true rfl)
  rw [lg_entry_eq]
  generalize (lg_sl ([.ref (a i)]) ++ List.replicate (1 - (lg_sl ([.ref (a i)])).length) Slot.unset).toArray = ls at hl ⊢
  have hl : lv_has ls 1 [(0, .ref (a i))] := hl
  obtain ⟨hZ, h_o⟩ := hB
  have hS : va_S (rng a i 1) s.heap s.heap [] := va_S.rf
  refine lv_aload_n hx hb dX5_init_0 rfl (lv_at hl 0 rfl) ?_
  refine lv_obj hx hb hown (hts (.methodLink RX5 1 objectInit) (List.mem_of_getElem? (i := 1) (by decide +kernel))) (hts (.instanceMethod objectInit) (List.mem_of_getElem? (i := 2) (by decide +kernel))) (hts (.code objectInit ⟨#[0xb1]⟩ 1 none) (List.mem_of_getElem? (i := 3) (by decide +kernel))) (by rw [hml]; exact hl.1) dX5_init_1 (Nat.le_of_ble_eq_true rfl) (Nat.le_of_ble_eq_true rfl) ?_
  refine wid (k := 0) (n := 0) (Nat.le_of_ble_eq_true rfl) (Nat.le_of_ble_eq_true rfl) ?_
  exact en_wv () hx hb hr hlocks hS trivial ⟨hZ, h_o⟩ dX5_init_4
set_option maxRecDepth 20000 in
theorem inX1_init_1 : ∀ w ∈ u_ws RX1 TX1 2, w ∈ wsX1_init := by decide +kernel
set_option maxRecDepth 20000 in
theorem inX1_init_9 : ∀ w ∈ u_ws RX9 TX9 1, w ∈ wsX1_init := by decide +kernel
set_option maxHeartbeats 4000000 in
set_option maxRecDepth 100000 in
theorem c_X1_init (l : Launch) (G : GG) (a : Nat → Nat) (b0 : Nat) (hab : ∀ k, a k = b0 + k) (i : Nat)   : Met l yX1_init wsX1_init ({ frames := 2, cells := 4, slots := 138, locals := 37 } : Room) (PcB G [.ref (a i)] (fun H => H.size = b0 + (i + 1) ∧ PP G ([(a i, .inr (1, [.null, .null]))]) H)) (QV (fun _ : Unit => True) (fun _ H => H.size = b0 + (i + 5) ∧ PP G (lanW G a i (fun _ => 0) (fun _ => 0)) H) (rng a i 5)) 4 138 (rng a i 5) := by
  refine Met.ofW (cc := cX1_init) (maxL := 1) (ret := none) (by decide) rfl ?_
  intro p e s m args below meth c s₁ B hml hv
  obtain ⟨rfl, hB, hK, hNW⟩ := hv
  have hx := B.exec
  have hb := B.bytes
  have hr := B.returns
  have hts := atoms_spec (ws := wsX1_init) B.pre
  have hown : s.vm.findClass RX1 = some m.cls := findClass_of_methodNamed B.named
  have hlocks := B.notSynchronized
  have hin9 : meth.name = "<init>" := (name_of_methodNamed B.named B.method).1
  have ha : Inj a := fun x y h => by rw [hab, hab] at h; omega
  have FX : CallFix p m c cX1_init 1 s ([.ref (a i)] : List Value).toArray wsX1_init RX1 := ⟨hx, hb, hml, hown, hts⟩
  have hl := lv_entry ([.ref (a i)]) (n := 1) (Nat.le_of_ble_eq_true rfl)
  rw [lg_entry_eq]
  generalize (lg_sl ([.ref (a i)]) ++ List.replicate (1 - (lg_sl ([.ref (a i)])).length) Slot.unset).toArray = ls at hl ⊢
  have hl : lv_has ls 1 [(0, .ref (a i))] := hl
  obtain ⟨hZ, h_o⟩ := hB
  have hS : va_S (rng a i 5) s.heap s.heap [] := va_S.rf
  refine lv_aload_n hx hb dX1_init_0 rfl (lv_at hl 0 rfl) ?_
  refine lv_obj hx hb hown (hts (.methodLink RX1 3 objectInit) (List.mem_of_getElem? (i := 1) (by decide +kernel))) (hts (.instanceMethod objectInit) (List.mem_of_getElem? (i := 2) (by decide +kernel))) (hts (.code objectInit ⟨#[0xb1]⟩ 1 none) (List.mem_of_getElem? (i := 3) (by decide +kernel))) (by rw [hml]; exact hl.1) dX1_init_1 (Nat.le_of_ble_eq_true rfl) (Nat.le_of_ble_eq_true rfl) ?_
  refine lv_aload_n hx hb dX1_init_4 rfl (lv_at hl 0 rfl) ?_
  refine pp_new (a := a) (b0 := b0) (ci := 9) (fs := [.null]) (C := RX9) (T := TX9) (N := 1) hx hb hts inX1_init_9 tyX9 tyX9_ok hown (hts (.classLink RX1 9 RX9) (List.mem_of_getElem? (i := 4) (by decide +kernel))) (hts (.instantiable RX9 1) (List.mem_of_getElem? (i := 5) (by decide +kernel))) (hts (.initialized RX9) (List.mem_of_getElem? (i := 6) (by decide +kernel))) hK rfl (fun j hj => by rcases (show j = 0 by omega) with rfl <;> rfl) hab hZ (j1 := i + 2) (by omega) hS (Nat.le_of_ble_eq_true rfl) (Nat.le_of_ble_eq_true rfl) dX1_init_5 (fun H hP9 hk1 hZ hS => ?_)
  have h_q1 : PP G ([(a (i + 1), .inr (9, [.null]))]) H := hP9
  have h_o : PP G ([(a i, .inr (1, [.null, .null]))]) H := kpF hk1 h_o
  refine lv_dup hx hb dX1_init_8 rfl ?_
  refine lv_bipush (v := nI 120) hx hb dX1_init_9 (by decide) ?_
  refine wr_v (va_runI (As := [.int (nI 120)]) (rest := [.ref (a (i + 1)), .ref (a i)]) FX (c_X9_init l G a b0 hab (i + 1) 120 (by decide)) (cwI 1 hts gX1_init_X9_init rfl rfl rfl (hts (.initialized RX9) (List.mem_of_getElem? (i := 6) (by decide +kernel))) (hts (.methodLink RX1 11 yX9_init) (List.mem_of_getElem? (i := 9) (by decide +kernel))) (hts (.instanceMethod yX9_init) (List.mem_of_getElem? (i := 10) (by decide +kernel))) rfl (by decide +kernel) ⟨Nat.le_of_ble_eq_true rfl, Nat.le_of_ble_eq_true rfl⟩) (preS hK hNW ⟨hZ, h_q1⟩) rfl rfl hl.1 rfl (lv_room (Nat.le_of_ble_eq_true rfl)) dX1_init_11 ⟨Nat.le_of_ble_eq_true rfl, Nat.le_of_ble_eq_true rfl⟩) hS (rng_sub (by omega)) (fun _ H locs _ hP9 hk2 hS => ?_)
  have hZ := hP9.1
  have h_q1 : PP G (wrowW G a (i + 1) 120 (fun _ => 0)) H := hP9.2
  have h_o : PP G ([(a i, .inr (1, [.null, .null]))]) H := kp hk2 h_o (dj_cons (rng_no ha (by omega)) (dj_nil))
  refine pp_putF (ci := 1) (v := .ref (a (i + 1))) (ty := .object "GateLedger$WideRow") (C := RX1) (T := TX1) (N := 2) hx hb hts inX1_init_1 tyX1 tyX1_ok nmX1 hown hK h_o hS (rng_in (by omega)) rfl 0 (by decide) (hts (.fieldLink RX1 14 "GateLedger$Lanes" "words" "LGateLedger$WideRow;") (List.mem_of_getElem? (i := 7) (by decide +kernel))) (fun _ h9 => h9) rfl hin9 rfl (by decide +kernel) rfl rfl (Nat.le_of_ble_eq_true rfl) dX1_init_14 (fun H locs hP9 hk3 hz9 hS => ?_)
  have h_o : PP G ([(a i, .inr (1, [.ref (a (i + 1)), .null]))]) H := hP9
  have h_q1 : PP G (wrowW G a (i + 1) 120 (fun _ => 0)) H := kp hk3 h_q1 (dj_cons (ne_a ha (by omega)) (dj_cons (ne_a ha (by omega)) (dj_nil)))
  have hZ := hz9.trans hZ
  refine lv_aload_n hx hb dX1_init_17 rfl (lv_at hl 0 rfl) ?_
  refine pp_new (a := a) (b0 := b0) (ci := 9) (fs := [.null]) (C := RX9) (T := TX9) (N := 1) hx hb hts inX1_init_9 tyX9 tyX9_ok hown (hts (.classLink RX1 9 RX9) (List.mem_of_getElem? (i := 4) (by decide +kernel))) (hts (.instantiable RX9 1) (List.mem_of_getElem? (i := 5) (by decide +kernel))) (hts (.initialized RX9) (List.mem_of_getElem? (i := 6) (by decide +kernel))) hK rfl (fun j hj => by rcases (show j = 0 by omega) with rfl <;> rfl) hab hZ (j1 := i + 4) (by omega) hS (Nat.le_of_ble_eq_true rfl) (Nat.le_of_ble_eq_true rfl) dX1_init_18 (fun H hP9 hk4 hZ hS => ?_)
  have h_q3 : PP G ([(a (i + 3), .inr (9, [.null]))]) H := hP9
  have h_o : PP G ([(a i, .inr (1, [.ref (a (i + 1)), .null]))]) H := kpF hk4 h_o
  have h_q1 : PP G (wrowW G a (i + 1) 120 (fun _ => 0)) H := kpF hk4 h_q1
  refine lv_dup hx hb dX1_init_21 rfl ?_
  refine lv_bipush (v := nI 16) hx hb dX1_init_22 (by decide) ?_
  refine wr_v (va_runI (As := [.int (nI 16)]) (rest := [.ref (a (i + 3)), .ref (a i)]) FX (c_X9_init l G a b0 hab (i + 3) 16 (by decide)) (cwI 1 hts gX1_init_X9_init rfl rfl rfl (hts (.initialized RX9) (List.mem_of_getElem? (i := 6) (by decide +kernel))) (hts (.methodLink RX1 11 yX9_init) (List.mem_of_getElem? (i := 9) (by decide +kernel))) (hts (.instanceMethod yX9_init) (List.mem_of_getElem? (i := 10) (by decide +kernel))) rfl (by decide +kernel) ⟨Nat.le_of_ble_eq_true rfl, Nat.le_of_ble_eq_true rfl⟩) (preS hK hNW ⟨hZ, h_q3⟩) rfl rfl hl.1 rfl (lv_room (Nat.le_of_ble_eq_true rfl)) dX1_init_24 ⟨Nat.le_of_ble_eq_true rfl, Nat.le_of_ble_eq_true rfl⟩) hS (rng_sub (by omega)) (fun _ H locs _ hP9 hk5 hS => ?_)
  have hZ := hP9.1
  have h_q3 : PP G (wrowW G a (i + 3) 16 (fun _ => 0)) H := hP9.2
  have h_o : PP G ([(a i, .inr (1, [.ref (a (i + 1)), .null]))]) H := kp hk5 h_o (dj_cons (rng_no ha (by omega)) (dj_nil))
  have h_q1 : PP G (wrowW G a (i + 1) 120 (fun _ => 0)) H := kp hk5 h_q1 (dj_cons (rng_no ha (by omega)) (dj_cons (rng_no ha (by omega)) (dj_nil)))
  refine pp_putF (ci := 1) (v := .ref (a (i + 3))) (ty := .object "GateLedger$WideRow") (C := RX1) (T := TX1) (N := 2) hx hb hts inX1_init_1 tyX1 tyX1_ok nmX1 hown hK h_o hS (rng_in (by omega)) rfl 1 (by decide) (hts (.fieldLink RX1 20 "GateLedger$Lanes" "outWords" "LGateLedger$WideRow;") (List.mem_of_getElem? (i := 8) (by decide +kernel))) (fun _ h9 => h9) rfl hin9 rfl (by decide +kernel) rfl rfl (Nat.le_of_ble_eq_true rfl) dX1_init_27 (fun H locs hP9 hk6 hz9 hS => ?_)
  have h_o : PP G ([(a i, .inr (1, [.ref (a (i + 1)), .ref (a (i + 3))]))]) H := hP9
  have h_q1 : PP G (wrowW G a (i + 1) 120 (fun _ => 0)) H := kp hk6 h_q1 (dj_cons (ne_a ha (by omega)) (dj_cons (ne_a ha (by omega)) (dj_nil)))
  have h_q3 : PP G (wrowW G a (i + 3) 16 (fun _ => 0)) H := kp hk6 h_q3 (dj_cons (ne_a ha (by omega)) (dj_cons (ne_a ha (by omega)) (dj_nil)))
  have hZ := hz9.trans hZ
  refine wid (k := 4) (n := 138) (Nat.le_of_ble_eq_true rfl) (Nat.le_of_ble_eq_true rfl) ?_
  exact en_wv () hx hb hr hlocks hS trivial ⟨hZ, P_app h_o (P_app h_q1 h_q3)⟩ dX1_init_30
set_option maxRecDepth 20000 in
theorem inX10_init_4 : ∀ w ∈ u_ws RX4 TX4 1, w ∈ wsX10_init := by decide +kernel
set_option maxRecDepth 20000 in
theorem inX10_init_10 : ∀ w ∈ u_ws RX10 TX10 3, w ∈ wsX10_init := by decide +kernel
set_option maxHeartbeats 4000000 in
set_option maxRecDepth 100000 in
theorem c_X10_init (l : Launch) (G : GG) (a : Nat → Nat) (b0 : Nat) (hab : ∀ k, a k = b0 + k) (i : Nat)   : Met l yX10_init wsX10_init ({ frames := 2, cells := 6, slots := 363, locals := 37 } : Room) (PcB G [.ref (a i)] (fun H => H.size = b0 + (i + 1) ∧ PP G ([(a i, .inr (10, [.null, .null, .null]))]) H)) (QV (fun _ : Unit => True) (fun _ H => H.size = b0 + (i + 7) ∧ PP G (wirW G a i (fun _ => nI 0) (fun _ => nI 0) (fun _ => nI 0)) H) (rng a i 7)) 6 363 (rng a i 7) := by
  refine Met.ofW (cc := cX10_init) (maxL := 1) (ret := none) (by decide) rfl ?_
  intro p e s m args below meth c s₁ B hml hv
  obtain ⟨rfl, hB, hK, hNW⟩ := hv
  have hx := B.exec
  have hb := B.bytes
  have hr := B.returns
  have hts := atoms_spec (ws := wsX10_init) B.pre
  have hown : s.vm.findClass RX10 = some m.cls := findClass_of_methodNamed B.named
  have hlocks := B.notSynchronized
  have hin9 : meth.name = "<init>" := (name_of_methodNamed B.named B.method).1
  have ha : Inj a := fun x y h => by rw [hab, hab] at h; omega
  have FX : CallFix p m c cX10_init 1 s ([.ref (a i)] : List Value).toArray wsX10_init RX10 := ⟨hx, hb, hml, hown, hts⟩
  have hl := lv_entry ([.ref (a i)]) (n := 1) (Nat.le_of_ble_eq_true rfl)
  rw [lg_entry_eq]
  generalize (lg_sl ([.ref (a i)]) ++ List.replicate (1 - (lg_sl ([.ref (a i)])).length) Slot.unset).toArray = ls at hl ⊢
  have hl : lv_has ls 1 [(0, .ref (a i))] := hl
  obtain ⟨hZ, h_o⟩ := hB
  have hS : va_S (rng a i 7) s.heap s.heap [] := va_S.rf
  refine lv_aload_n hx hb dX10_init_0 rfl (lv_at hl 0 rfl) ?_
  refine lv_obj hx hb hown (hts (.methodLink RX10 3 objectInit) (List.mem_of_getElem? (i := 1) (by decide +kernel))) (hts (.instanceMethod objectInit) (List.mem_of_getElem? (i := 2) (by decide +kernel))) (hts (.code objectInit ⟨#[0xb1]⟩ 1 none) (List.mem_of_getElem? (i := 3) (by decide +kernel))) (by rw [hml]; exact hl.1) dX10_init_1 (Nat.le_of_ble_eq_true rfl) (Nat.le_of_ble_eq_true rfl) ?_
  refine lv_aload_n hx hb dX10_init_4 rfl (lv_at hl 0 rfl) ?_
  refine pp_new (a := a) (b0 := b0) (ci := 4) (fs := [.null]) (C := RX4) (T := TX4) (N := 1) hx hb hts inX10_init_4 tyX4 tyX4_ok hown (hts (.classLink RX10 9 RX4) (List.mem_of_getElem? (i := 4) (by decide +kernel))) (hts (.instantiable RX4 1) (List.mem_of_getElem? (i := 5) (by decide +kernel))) (hts (.initialized RX4) (List.mem_of_getElem? (i := 6) (by decide +kernel))) hK rfl (fun j hj => by rcases (show j = 0 by omega) with rfl <;> rfl) hab hZ (j1 := i + 2) (by omega) hS (Nat.le_of_ble_eq_true rfl) (Nat.le_of_ble_eq_true rfl) dX10_init_5 (fun H hP9 hk1 hZ hS => ?_)
  have h_q1 : PP G ([(a (i + 1), .inr (4, [.null]))]) H := hP9
  have h_o : PP G ([(a i, .inr (10, [.null, .null, .null]))]) H := kpF hk1 h_o
  refine lv_dup hx hb dX10_init_8 rfl ?_
  refine lv_bipush (v := nI 120) hx hb dX10_init_9 (by decide) ?_
  refine wr_v (va_runI (As := [.int (nI 120)]) (rest := [.ref (a (i + 1)), .ref (a i)]) FX (c_X4_init l G a b0 hab (i + 1) 120 (by decide)) (cwI 1 hts gX10_init_X4_init rfl rfl rfl (hts (.initialized RX4) (List.mem_of_getElem? (i := 6) (by decide +kernel))) (hts (.methodLink RX10 11 yX4_init) (List.mem_of_getElem? (i := 10) (by decide +kernel))) (hts (.instanceMethod yX4_init) (List.mem_of_getElem? (i := 11) (by decide +kernel))) rfl (by decide +kernel) ⟨Nat.le_of_ble_eq_true rfl, Nat.le_of_ble_eq_true rfl⟩) (preS hK hNW ⟨hZ, h_q1⟩) rfl rfl hl.1 rfl (lv_room (Nat.le_of_ble_eq_true rfl)) dX10_init_11 ⟨Nat.le_of_ble_eq_true rfl, Nat.le_of_ble_eq_true rfl⟩) hS (rng_sub (by omega)) (fun _ H locs _ hP9 hk2 hS => ?_)
  have hZ := hP9.1
  have h_q1 : PP G (rowW G a (i + 1) 120 (fun _ => nI 0)) H := hP9.2
  have h_o : PP G ([(a i, .inr (10, [.null, .null, .null]))]) H := kp hk2 h_o (dj_cons (rng_no ha (by omega)) (dj_nil))
  refine pp_putF (ci := 10) (v := .ref (a (i + 1))) (ty := .object "GateLedger$Row") (C := RX10) (T := TX10) (N := 3) hx hb hts inX10_init_10 tyX10 tyX10_ok nmX10 hown hK h_o hS (rng_in (by omega)) rfl 0 (by decide) (hts (.fieldLink RX10 14 "GateLedger$Wiring" "marks" "LGateLedger$Row;") (List.mem_of_getElem? (i := 7) (by decide +kernel))) (fun _ h9 => h9) rfl hin9 rfl (by decide +kernel) rfl rfl (Nat.le_of_ble_eq_true rfl) dX10_init_14 (fun H locs hP9 hk3 hz9 hS => ?_)
  have h_o : PP G ([(a i, .inr (10, [.ref (a (i + 1)), .null, .null]))]) H := hP9
  have h_q1 : PP G (rowW G a (i + 1) 120 (fun _ => nI 0)) H := kp hk3 h_q1 (dj_cons (ne_a ha (by omega)) (dj_cons (ne_a ha (by omega)) (dj_nil)))
  have hZ := hz9.trans hZ
  refine lv_aload_n hx hb dX10_init_17 rfl (lv_at hl 0 rfl) ?_
  refine pp_new (a := a) (b0 := b0) (ci := 4) (fs := [.null]) (C := RX4) (T := TX4) (N := 1) hx hb hts inX10_init_4 tyX4 tyX4_ok hown (hts (.classLink RX10 9 RX4) (List.mem_of_getElem? (i := 4) (by decide +kernel))) (hts (.instantiable RX4 1) (List.mem_of_getElem? (i := 5) (by decide +kernel))) (hts (.initialized RX4) (List.mem_of_getElem? (i := 6) (by decide +kernel))) hK rfl (fun j hj => by rcases (show j = 0 by omega) with rfl <;> rfl) hab hZ (j1 := i + 4) (by omega) hS (Nat.le_of_ble_eq_true rfl) (Nat.le_of_ble_eq_true rfl) dX10_init_18 (fun H hP9 hk4 hZ hS => ?_)
  have h_q3 : PP G ([(a (i + 3), .inr (4, [.null]))]) H := hP9
  have h_o : PP G ([(a i, .inr (10, [.ref (a (i + 1)), .null, .null]))]) H := kpF hk4 h_o
  have h_q1 : PP G (rowW G a (i + 1) 120 (fun _ => nI 0)) H := kpF hk4 h_q1
  refine lv_dup hx hb dX10_init_21 rfl ?_
  refine lv_bipush (v := nI 120) hx hb dX10_init_22 (by decide) ?_
  refine wr_v (va_runI (As := [.int (nI 120)]) (rest := [.ref (a (i + 3)), .ref (a i)]) FX (c_X4_init l G a b0 hab (i + 3) 120 (by decide)) (cwI 1 hts gX10_init_X4_init rfl rfl rfl (hts (.initialized RX4) (List.mem_of_getElem? (i := 6) (by decide +kernel))) (hts (.methodLink RX10 11 yX4_init) (List.mem_of_getElem? (i := 10) (by decide +kernel))) (hts (.instanceMethod yX4_init) (List.mem_of_getElem? (i := 11) (by decide +kernel))) rfl (by decide +kernel) ⟨Nat.le_of_ble_eq_true rfl, Nat.le_of_ble_eq_true rfl⟩) (preS hK hNW ⟨hZ, h_q3⟩) rfl rfl hl.1 rfl (lv_room (Nat.le_of_ble_eq_true rfl)) dX10_init_24 ⟨Nat.le_of_ble_eq_true rfl, Nat.le_of_ble_eq_true rfl⟩) hS (rng_sub (by omega)) (fun _ H locs _ hP9 hk5 hS => ?_)
  have hZ := hP9.1
  have h_q3 : PP G (rowW G a (i + 3) 120 (fun _ => nI 0)) H := hP9.2
  have h_o : PP G ([(a i, .inr (10, [.ref (a (i + 1)), .null, .null]))]) H := kp hk5 h_o (dj_cons (rng_no ha (by omega)) (dj_nil))
  have h_q1 : PP G (rowW G a (i + 1) 120 (fun _ => nI 0)) H := kp hk5 h_q1 (dj_cons (rng_no ha (by omega)) (dj_cons (rng_no ha (by omega)) (dj_nil)))
  refine pp_putF (ci := 10) (v := .ref (a (i + 3))) (ty := .object "GateLedger$Row") (C := RX10) (T := TX10) (N := 3) hx hb hts inX10_init_10 tyX10 tyX10_ok nmX10 hown hK h_o hS (rng_in (by omega)) rfl 1 (by decide) (hts (.fieldLink RX10 20 "GateLedger$Wiring" "bits" "LGateLedger$Row;") (List.mem_of_getElem? (i := 8) (by decide +kernel))) (fun _ h9 => h9) rfl hin9 rfl (by decide +kernel) rfl rfl (Nat.le_of_ble_eq_true rfl) dX10_init_27 (fun H locs hP9 hk6 hz9 hS => ?_)
  have h_o : PP G ([(a i, .inr (10, [.ref (a (i + 1)), .ref (a (i + 3)), .null]))]) H := hP9
  have h_q1 : PP G (rowW G a (i + 1) 120 (fun _ => nI 0)) H := kp hk6 h_q1 (dj_cons (ne_a ha (by omega)) (dj_cons (ne_a ha (by omega)) (dj_nil)))
  have h_q3 : PP G (rowW G a (i + 3) 120 (fun _ => nI 0)) H := kp hk6 h_q3 (dj_cons (ne_a ha (by omega)) (dj_cons (ne_a ha (by omega)) (dj_nil)))
  have hZ := hz9.trans hZ
  refine lv_aload_n hx hb dX10_init_30 rfl (lv_at hl 0 rfl) ?_
  refine pp_new (a := a) (b0 := b0) (ci := 4) (fs := [.null]) (C := RX4) (T := TX4) (N := 1) hx hb hts inX10_init_4 tyX4 tyX4_ok hown (hts (.classLink RX10 9 RX4) (List.mem_of_getElem? (i := 4) (by decide +kernel))) (hts (.instantiable RX4 1) (List.mem_of_getElem? (i := 5) (by decide +kernel))) (hts (.initialized RX4) (List.mem_of_getElem? (i := 6) (by decide +kernel))) hK rfl (fun j hj => by rcases (show j = 0 by omega) with rfl <;> rfl) hab hZ (j1 := i + 6) (by omega) hS (Nat.le_of_ble_eq_true rfl) (Nat.le_of_ble_eq_true rfl) dX10_init_31 (fun H hP9 hk7 hZ hS => ?_)
  have h_q5 : PP G ([(a (i + 5), .inr (4, [.null]))]) H := hP9
  have h_o : PP G ([(a i, .inr (10, [.ref (a (i + 1)), .ref (a (i + 3)), .null]))]) H := kpF hk7 h_o
  have h_q1 : PP G (rowW G a (i + 1) 120 (fun _ => nI 0)) H := kpF hk7 h_q1
  have h_q3 : PP G (rowW G a (i + 3) 120 (fun _ => nI 0)) H := kpF hk7 h_q3
  refine lv_dup hx hb dX10_init_34 rfl ?_
  refine lv_bipush (v := nI 120) hx hb dX10_init_35 (by decide) ?_
  refine wr_v (va_runI (As := [.int (nI 120)]) (rest := [.ref (a (i + 5)), .ref (a i)]) FX (c_X4_init l G a b0 hab (i + 5) 120 (by decide)) (cwI 1 hts gX10_init_X4_init rfl rfl rfl (hts (.initialized RX4) (List.mem_of_getElem? (i := 6) (by decide +kernel))) (hts (.methodLink RX10 11 yX4_init) (List.mem_of_getElem? (i := 10) (by decide +kernel))) (hts (.instanceMethod yX4_init) (List.mem_of_getElem? (i := 11) (by decide +kernel))) rfl (by decide +kernel) ⟨Nat.le_of_ble_eq_true rfl, Nat.le_of_ble_eq_true rfl⟩) (preS hK hNW ⟨hZ, h_q5⟩) rfl rfl hl.1 rfl (lv_room (Nat.le_of_ble_eq_true rfl)) dX10_init_37 ⟨Nat.le_of_ble_eq_true rfl, Nat.le_of_ble_eq_true rfl⟩) hS (rng_sub (by omega)) (fun _ H locs _ hP9 hk8 hS => ?_)
  have hZ := hP9.1
  have h_q5 : PP G (rowW G a (i + 5) 120 (fun _ => nI 0)) H := hP9.2
  have h_o : PP G ([(a i, .inr (10, [.ref (a (i + 1)), .ref (a (i + 3)), .null]))]) H := kp hk8 h_o (dj_cons (rng_no ha (by omega)) (dj_nil))
  have h_q1 : PP G (rowW G a (i + 1) 120 (fun _ => nI 0)) H := kp hk8 h_q1 (dj_cons (rng_no ha (by omega)) (dj_cons (rng_no ha (by omega)) (dj_nil)))
  have h_q3 : PP G (rowW G a (i + 3) 120 (fun _ => nI 0)) H := kp hk8 h_q3 (dj_cons (rng_no ha (by omega)) (dj_cons (rng_no ha (by omega)) (dj_nil)))
  refine pp_putF (ci := 10) (v := .ref (a (i + 5))) (ty := .object "GateLedger$Row") (C := RX10) (T := TX10) (N := 3) hx hb hts inX10_init_10 tyX10 tyX10_ok nmX10 hown hK h_o hS (rng_in (by omega)) rfl 2 (by decide) (hts (.fieldLink RX10 23 "GateLedger$Wiring" "loads" "LGateLedger$Row;") (List.mem_of_getElem? (i := 9) (by decide +kernel))) (fun _ h9 => h9) rfl hin9 rfl (by decide +kernel) rfl rfl (Nat.le_of_ble_eq_true rfl) dX10_init_40 (fun H locs hP9 hk9 hz9 hS => ?_)
  have h_o : PP G ([(a i, .inr (10, [.ref (a (i + 1)), .ref (a (i + 3)), .ref (a (i + 5))]))]) H := hP9
  have h_q1 : PP G (rowW G a (i + 1) 120 (fun _ => nI 0)) H := kp hk9 h_q1 (dj_cons (ne_a ha (by omega)) (dj_cons (ne_a ha (by omega)) (dj_nil)))
  have h_q3 : PP G (rowW G a (i + 3) 120 (fun _ => nI 0)) H := kp hk9 h_q3 (dj_cons (ne_a ha (by omega)) (dj_cons (ne_a ha (by omega)) (dj_nil)))
  have h_q5 : PP G (rowW G a (i + 5) 120 (fun _ => nI 0)) H := kp hk9 h_q5 (dj_cons (ne_a ha (by omega)) (dj_cons (ne_a ha (by omega)) (dj_nil)))
  have hZ := hz9.trans hZ
  refine wid (k := 6) (n := 363) (Nat.le_of_ble_eq_true rfl) (Nat.le_of_ble_eq_true rfl) ?_
  exact en_wv () hx hb hr hlocks hS trivial ⟨hZ, P_app h_o (P_app h_q1 (P_app h_q3 h_q5))⟩ dX10_init_43
set_option maxRecDepth 20000 in
theorem inX8_init_8 : ∀ w ∈ u_ws RX8 TX8 2, w ∈ wsX8_init := by decide +kernel
set_option maxRecDepth 20000 in
theorem inX8_init_9 : ∀ w ∈ u_ws RX9 TX9 1, w ∈ wsX8_init := by decide +kernel
set_option maxHeartbeats 4000000 in
set_option maxRecDepth 100000 in
theorem c_X8_init (l : Launch) (G : GG) (a : Nat → Nat) (b0 : Nat) (hab : ∀ k, a k = b0 + k) (i : Nat)   : Met l yX8_init wsX8_init ({ frames := 2, cells := 2, slots := 2041, locals := 37 } : Room) (PcB G [.ref (a i)] (fun H => H.size = b0 + (i + 1) ∧ PP G ([(a i, .inr (8, [.null, .int (nI 0)]))]) H)) (QV (fun _ : Unit => True) (fun _ H => H.size = b0 + (i + 3) ∧ PP G (wavW G a i (nI 0) (fun _ => 0)) H) (rng a i 3)) 2 2041 (rng a i 3) := by
  refine Met.ofW (cc := cX8_init) (maxL := 1) (ret := none) (by decide) rfl ?_
  intro p e s m args below meth c s₁ B hml hv
  obtain ⟨rfl, hB, hK, hNW⟩ := hv
  have hx := B.exec
  have hb := B.bytes
  have hr := B.returns
  have hts := atoms_spec (ws := wsX8_init) B.pre
  have hown : s.vm.findClass RX8 = some m.cls := findClass_of_methodNamed B.named
  have hlocks := B.notSynchronized
  have hin9 : meth.name = "<init>" := (name_of_methodNamed B.named B.method).1
  have ha : Inj a := fun x y h => by rw [hab, hab] at h; omega
  have FX : CallFix p m c cX8_init 1 s ([.ref (a i)] : List Value).toArray wsX8_init RX8 := ⟨hx, hb, hml, hown, hts⟩
  have hl := lv_entry ([.ref (a i)]) (n := 1) (Nat.le_of_ble_eq_true rfl)
  rw [lg_entry_eq]
  generalize (lg_sl ([.ref (a i)]) ++ List.replicate (1 - (lg_sl ([.ref (a i)])).length) Slot.unset).toArray = ls at hl ⊢
  have hl : lv_has ls 1 [(0, .ref (a i))] := hl
  obtain ⟨hZ, h_o⟩ := hB
  have hS : va_S (rng a i 3) s.heap s.heap [] := va_S.rf
  refine lv_aload_n hx hb dX8_init_0 rfl (lv_at hl 0 rfl) ?_
  refine lv_obj hx hb hown (hts (.methodLink RX8 3 objectInit) (List.mem_of_getElem? (i := 1) (by decide +kernel))) (hts (.instanceMethod objectInit) (List.mem_of_getElem? (i := 2) (by decide +kernel))) (hts (.code objectInit ⟨#[0xb1]⟩ 1 none) (List.mem_of_getElem? (i := 3) (by decide +kernel))) (by rw [hml]; exact hl.1) dX8_init_1 (Nat.le_of_ble_eq_true rfl) (Nat.le_of_ble_eq_true rfl) ?_
  refine lv_aload_n hx hb dX8_init_4 rfl (lv_at hl 0 rfl) ?_
  refine pp_new (a := a) (b0 := b0) (ci := 9) (fs := [.null]) (C := RX9) (T := TX9) (N := 1) hx hb hts inX8_init_9 tyX9 tyX9_ok hown (hts (.classLink RX8 9 RX9) (List.mem_of_getElem? (i := 4) (by decide +kernel))) (hts (.instantiable RX9 1) (List.mem_of_getElem? (i := 5) (by decide +kernel))) (hts (.initialized RX9) (List.mem_of_getElem? (i := 6) (by decide +kernel))) hK rfl (fun j hj => by rcases (show j = 0 by omega) with rfl <;> rfl) hab hZ (j1 := i + 2) (by omega) hS (Nat.le_of_ble_eq_true rfl) (Nat.le_of_ble_eq_true rfl) dX8_init_5 (fun H hP9 hk1 hZ hS => ?_)
  have h_q1 : PP G ([(a (i + 1), .inr (9, [.null]))]) H := hP9
  have h_o : PP G ([(a i, .inr (8, [.null, .int (nI 0)]))]) H := kpF hk1 h_o
  refine lv_dup hx hb dX8_init_8 rfl ?_
  refine lv_sipush (v := nI 2040) hx hb dX8_init_9 (by decide) ?_
  refine wr_v (va_runI (As := [.int (nI 2040)]) (rest := [.ref (a (i + 1)), .ref (a i)]) FX (c_X9_init l G a b0 hab (i + 1) 2040 (by decide)) (cwI 1 hts gX8_init_X9_init rfl rfl rfl (hts (.initialized RX9) (List.mem_of_getElem? (i := 6) (by decide +kernel))) (hts (.methodLink RX8 13 yX9_init) (List.mem_of_getElem? (i := 8) (by decide +kernel))) (hts (.instanceMethod yX9_init) (List.mem_of_getElem? (i := 9) (by decide +kernel))) rfl (by decide +kernel) ⟨Nat.le_of_ble_eq_true rfl, Nat.le_of_ble_eq_true rfl⟩) (preS hK hNW ⟨hZ, h_q1⟩) rfl rfl hl.1 rfl (lv_room (Nat.le_of_ble_eq_true rfl)) dX8_init_12 ⟨Nat.le_of_ble_eq_true rfl, Nat.le_of_ble_eq_true rfl⟩) hS (rng_sub (by omega)) (fun _ H locs _ hP9 hk2 hS => ?_)
  have hZ := hP9.1
  have h_q1 : PP G (wrowW G a (i + 1) 2040 (fun _ => 0)) H := hP9.2
  have h_o : PP G ([(a i, .inr (8, [.null, .int (nI 0)]))]) H := kp hk2 h_o (dj_cons (rng_no ha (by omega)) (dj_nil))
  refine pp_putF (ci := 8) (v := .ref (a (i + 1))) (ty := .object "GateLedger$WideRow") (C := RX8) (T := TX8) (N := 2) hx hb hts inX8_init_8 tyX8 tyX8_ok nmX8 hown hK h_o hS (rng_in (by omega)) rfl 0 (by decide) (hts (.fieldLink RX8 16 "GateLedger$Waves" "words" "LGateLedger$WideRow;") (List.mem_of_getElem? (i := 7) (by decide +kernel))) (fun _ h9 => h9) rfl hin9 rfl (by decide +kernel) rfl rfl (Nat.le_of_ble_eq_true rfl) dX8_init_15 (fun H locs hP9 hk3 hz9 hS => ?_)
  have h_o : PP G ([(a i, .inr (8, [.ref (a (i + 1)), .int (nI 0)]))]) H := hP9
  have h_q1 : PP G (wrowW G a (i + 1) 2040 (fun _ => 0)) H := kp hk3 h_q1 (dj_cons (ne_a ha (by omega)) (dj_cons (ne_a ha (by omega)) (dj_nil)))
  have hZ := hz9.trans hZ
  refine wid (k := 2) (n := 2041) (Nat.le_of_ble_eq_true rfl) (Nat.le_of_ble_eq_true rfl) ?_
  exact en_wv () hx hb hr hlocks hS trivial ⟨hZ, P_app h_o h_q1⟩ dX8_init_18
set_option maxRecDepth 20000 in
theorem inX6_init_4 : ∀ w ∈ u_ws RX4 TX4 1, w ∈ wsX6_init := by decide +kernel
set_option maxRecDepth 20000 in
theorem inX6_init_6 : ∀ w ∈ u_ws RX6 TX6 1, w ∈ wsX6_init := by decide +kernel
set_option maxHeartbeats 4000000 in
set_option maxRecDepth 100000 in
theorem c_X6_init (l : Launch) (G : GG) (a : Nat → Nat) (b0 : Nat) (hab : ∀ k, a k = b0 + k) (i : Nat)   : Met l yX6_init wsX6_init ({ frames := 2, cells := 2, slots := 1921, locals := 37 } : Room) (PcB G [.ref (a i)] (fun H => H.size = b0 + (i + 1) ∧ PP G ([(a i, .inr (6, [.null]))]) H)) (QV (fun _ : Unit => True) (fun _ H => H.size = b0 + (i + 3) ∧ PP G (ticW G a i (fun _ => nI 0)) H) (rng a i 3)) 2 1921 (rng a i 3) := by
  refine Met.ofW (cc := cX6_init) (maxL := 1) (ret := none) (by decide) rfl ?_
  intro p e s m args below meth c s₁ B hml hv
  obtain ⟨rfl, hB, hK, hNW⟩ := hv
  have hx := B.exec
  have hb := B.bytes
  have hr := B.returns
  have hts := atoms_spec (ws := wsX6_init) B.pre
  have hown : s.vm.findClass RX6 = some m.cls := findClass_of_methodNamed B.named
  have hlocks := B.notSynchronized
  have hin9 : meth.name = "<init>" := (name_of_methodNamed B.named B.method).1
  have ha : Inj a := fun x y h => by rw [hab, hab] at h; omega
  have FX : CallFix p m c cX6_init 1 s ([.ref (a i)] : List Value).toArray wsX6_init RX6 := ⟨hx, hb, hml, hown, hts⟩
  have hl := lv_entry ([.ref (a i)]) (n := 1) (Nat.le_of_ble_eq_true rfl)
  rw [lg_entry_eq]
  generalize (lg_sl ([.ref (a i)]) ++ List.replicate (1 - (lg_sl ([.ref (a i)])).length) Slot.unset).toArray = ls at hl ⊢
  have hl : lv_has ls 1 [(0, .ref (a i))] := hl
  obtain ⟨hZ, h_o⟩ := hB
  have hS : va_S (rng a i 3) s.heap s.heap [] := va_S.rf
  refine lv_aload_n hx hb dX6_init_0 rfl (lv_at hl 0 rfl) ?_
  refine lv_obj hx hb hown (hts (.methodLink RX6 3 objectInit) (List.mem_of_getElem? (i := 1) (by decide +kernel))) (hts (.instanceMethod objectInit) (List.mem_of_getElem? (i := 2) (by decide +kernel))) (hts (.code objectInit ⟨#[0xb1]⟩ 1 none) (List.mem_of_getElem? (i := 3) (by decide +kernel))) (by rw [hml]; exact hl.1) dX6_init_1 (Nat.le_of_ble_eq_true rfl) (Nat.le_of_ble_eq_true rfl) ?_
  refine lv_aload_n hx hb dX6_init_4 rfl (lv_at hl 0 rfl) ?_
  refine pp_new (a := a) (b0 := b0) (ci := 4) (fs := [.null]) (C := RX4) (T := TX4) (N := 1) hx hb hts inX6_init_4 tyX4 tyX4_ok hown (hts (.classLink RX6 9 RX4) (List.mem_of_getElem? (i := 4) (by decide +kernel))) (hts (.instantiable RX4 1) (List.mem_of_getElem? (i := 5) (by decide +kernel))) (hts (.initialized RX4) (List.mem_of_getElem? (i := 6) (by decide +kernel))) hK rfl (fun j hj => by rcases (show j = 0 by omega) with rfl <;> rfl) hab hZ (j1 := i + 2) (by omega) hS (Nat.le_of_ble_eq_true rfl) (Nat.le_of_ble_eq_true rfl) dX6_init_5 (fun H hP9 hk1 hZ hS => ?_)
  have h_q1 : PP G ([(a (i + 1), .inr (4, [.null]))]) H := hP9
  have h_o : PP G ([(a i, .inr (6, [.null]))]) H := kpF hk1 h_o
  refine lv_dup hx hb dX6_init_8 rfl ?_
  refine lv_sipush (v := nI 1920) hx hb dX6_init_9 (by decide) ?_
  refine wr_v (va_runI (As := [.int (nI 1920)]) (rest := [.ref (a (i + 1)), .ref (a i)]) FX (c_X4_init l G a b0 hab (i + 1) 1920 (by decide)) (cwI 1 hts gX6_init_X4_init rfl rfl rfl (hts (.initialized RX4) (List.mem_of_getElem? (i := 6) (by decide +kernel))) (hts (.methodLink RX6 13 yX4_init) (List.mem_of_getElem? (i := 8) (by decide +kernel))) (hts (.instanceMethod yX4_init) (List.mem_of_getElem? (i := 9) (by decide +kernel))) rfl (by decide +kernel) ⟨Nat.le_of_ble_eq_true rfl, Nat.le_of_ble_eq_true rfl⟩) (preS hK hNW ⟨hZ, h_q1⟩) rfl rfl hl.1 rfl (lv_room (Nat.le_of_ble_eq_true rfl)) dX6_init_12 ⟨Nat.le_of_ble_eq_true rfl, Nat.le_of_ble_eq_true rfl⟩) hS (rng_sub (by omega)) (fun _ H locs _ hP9 hk2 hS => ?_)
  have hZ := hP9.1
  have h_q1 : PP G (rowW G a (i + 1) 1920 (fun _ => nI 0)) H := hP9.2
  have h_o : PP G ([(a i, .inr (6, [.null]))]) H := kp hk2 h_o (dj_cons (rng_no ha (by omega)) (dj_nil))
  refine pp_putF (ci := 6) (v := .ref (a (i + 1))) (ty := .object "GateLedger$Row") (C := RX6) (T := TX6) (N := 1) hx hb hts inX6_init_6 tyX6 tyX6_ok nmX6 hown hK h_o hS (rng_in (by omega)) rfl 0 (by decide) (hts (.fieldLink RX6 16 "GateLedger$Ticks" "bits" "LGateLedger$Row;") (List.mem_of_getElem? (i := 7) (by decide +kernel))) (fun _ h9 => h9) rfl hin9 rfl (by decide +kernel) rfl rfl (Nat.le_of_ble_eq_true rfl) dX6_init_15 (fun H locs hP9 hk3 hz9 hS => ?_)
  have h_o : PP G ([(a i, .inr (6, [.ref (a (i + 1))]))]) H := hP9
  have h_q1 : PP G (rowW G a (i + 1) 1920 (fun _ => nI 0)) H := kp hk3 h_q1 (dj_cons (ne_a ha (by omega)) (dj_cons (ne_a ha (by omega)) (dj_nil)))
  have hZ := hz9.trans hZ
  refine wid (k := 2) (n := 1921) (Nat.le_of_ble_eq_true rfl) (Nat.le_of_ble_eq_true rfl) ?_
  exact en_wv () hx hb hr hlocks hS trivial ⟨hZ, P_app h_o h_q1⟩ dX6_init_18
set_option maxHeartbeats 4000000 in
set_option maxRecDepth 100000 in
theorem c_X0_init (l : Launch) (G : GG) (a : Nat → Nat) (b0 : Nat) (hab : ∀ k, a k = b0 + k) (i : Nat)   : Met l yX0_init wsX0_init ({ frames := 1, cells := 0, slots := 0, locals := 16 } : Room) (PcB G [.ref (a i)] (fun H => H.size = b0 + (i + 1) ∧ PP G ([(a i, .inr (0, [.int (nI 0), .int (nI 0), .int (nI 0), .int (nI 0), .int (nI 0)]))]) H)) (QV (fun _ : Unit => True) (fun _ H => H.size = b0 + (i + 1) ∧ PP G (audW a i (nI 0) (nI 0) (nI 0) (nI 0) (nI 0)) H) (rng a i 1)) 0 0 (rng a i 1) := by
  refine Met.ofW (cc := cX0_init) (maxL := 1) (ret := none) (by decide) rfl ?_
  intro p e s m args below meth c s₁ B hml hv
  obtain ⟨rfl, hB, hK, hNW⟩ := hv
  have hx := B.exec
  have hb := B.bytes
  have hr := B.returns
  have hts := atoms_spec (ws := wsX0_init) B.pre
  have hown : s.vm.findClass RX0 = some m.cls := findClass_of_methodNamed B.named
  have hlocks := B.notSynchronized
  have hin9 : meth.name = "<init>" := (name_of_methodNamed B.named B.method).1
  have ha : Inj a := fun x y h => by rw [hab, hab] at h; omega
  have FX : CallFix p m c cX0_init 1 s ([.ref (a i)] : List Value).toArray wsX0_init RX0 := ⟨hx, hb, hml, hown, hts⟩
  have hl := lv_entry ([.ref (a i)]) (n := 1) (Nat.le_of_ble_eq_true rfl)
  rw [lg_entry_eq]
  generalize (lg_sl ([.ref (a i)]) ++ List.replicate (1 - (lg_sl ([.ref (a i)])).length) Slot.unset).toArray = ls at hl ⊢
  have hl : lv_has ls 1 [(0, .ref (a i))] := hl
  obtain ⟨hZ, h_o⟩ := hB
  have hS : va_S (rng a i 1) s.heap s.heap [] := va_S.rf
  refine lv_aload_n hx hb dX0_init_0 rfl (lv_at hl 0 rfl) ?_
  refine lv_obj hx hb hown (hts (.methodLink RX0 3 objectInit) (List.mem_of_getElem? (i := 1) (by decide +kernel))) (hts (.instanceMethod objectInit) (List.mem_of_getElem? (i := 2) (by decide +kernel))) (hts (.code objectInit ⟨#[0xb1]⟩ 1 none) (List.mem_of_getElem? (i := 3) (by decide +kernel))) (by rw [hml]; exact hl.1) dX0_init_1 (Nat.le_of_ble_eq_true rfl) (Nat.le_of_ble_eq_true rfl) ?_
  refine wid (k := 0) (n := 0) (Nat.le_of_ble_eq_true rfl) (Nat.le_of_ble_eq_true rfl) ?_
  exact en_wv () hx hb hr hlocks hS trivial ⟨hZ, h_o⟩ dX0_init_4
set_option maxRecDepth 20000 in
theorem inX2_init_2 : ∀ w ∈ u_ws RX2 TX2 10, w ∈ wsX2_init := by decide +kernel
set_option maxRecDepth 20000 in
theorem inX2_init_4 : ∀ w ∈ u_ws RX4 TX4 1, w ∈ wsX2_init := by decide +kernel
set_option maxHeartbeats 4000000 in
set_option maxRecDepth 100000 in
theorem c_X2_init (l : Launch) (G : GG) (a : Nat → Nat) (b0 : Nat) (hab : ∀ k, a k = b0 + k) (i : Nat)   : Met l yX2_init wsX2_init ({ frames := 2, cells := 14, slots := 58, locals := 37 } : Room) (PcB G [.ref (a i)] (fun H => H.size = b0 + (i + 1) ∧ PP G ([(a i, .inr (2, [.null, .null, .null, .null, .null, .null, .null, .int (nI 0), .int (nI 0), .int (nI 0)]))]) H)) (QV (fun _ : Unit => True) (fun _ H => H.size = b0 + (i + 15) ∧ PP G (makI G a i) H) (rng a i 15)) 14 58 (rng a i 15) := by
  refine Met.ofW (cc := cX2_init) (maxL := 1) (ret := none) (by decide) rfl ?_
  intro p e s m args below meth c s₁ B hml hv
  obtain ⟨rfl, hB, hK, hNW⟩ := hv
  have hx := B.exec
  have hb := B.bytes
  have hr := B.returns
  have hts := atoms_spec (ws := wsX2_init) B.pre
  have hown : s.vm.findClass RX2 = some m.cls := findClass_of_methodNamed B.named
  have hlocks := B.notSynchronized
  have hin9 : meth.name = "<init>" := (name_of_methodNamed B.named B.method).1
  have ha : Inj a := fun x y h => by rw [hab, hab] at h; omega
  have FX : CallFix p m c cX2_init 1 s ([.ref (a i)] : List Value).toArray wsX2_init RX2 := ⟨hx, hb, hml, hown, hts⟩
  have hl := lv_entry ([.ref (a i)]) (n := 1) (Nat.le_of_ble_eq_true rfl)
  rw [lg_entry_eq]
  generalize (lg_sl ([.ref (a i)]) ++ List.replicate (1 - (lg_sl ([.ref (a i)])).length) Slot.unset).toArray = ls at hl ⊢
  have hl : lv_has ls 1 [(0, .ref (a i))] := hl
  obtain ⟨hZ, h_o⟩ := hB
  have hS : va_S (rng a i 15) s.heap s.heap [] := va_S.rf
  refine lv_aload_n hx hb dX2_init_0 rfl (lv_at hl 0 rfl) ?_
  refine lv_obj hx hb hown (hts (.methodLink RX2 3 objectInit) (List.mem_of_getElem? (i := 1) (by decide +kernel))) (hts (.instanceMethod objectInit) (List.mem_of_getElem? (i := 2) (by decide +kernel))) (hts (.code objectInit ⟨#[0xb1]⟩ 1 none) (List.mem_of_getElem? (i := 3) (by decide +kernel))) (by rw [hml]; exact hl.1) dX2_init_1 (Nat.le_of_ble_eq_true rfl) (Nat.le_of_ble_eq_true rfl) ?_
  refine lv_aload_n hx hb dX2_init_4 rfl (lv_at hl 0 rfl) ?_
  refine pp_new (a := a) (b0 := b0) (ci := 4) (fs := [.null]) (C := RX4) (T := TX4) (N := 1) hx hb hts inX2_init_4 tyX4 tyX4_ok hown (hts (.classLink RX2 9 RX4) (List.mem_of_getElem? (i := 4) (by decide +kernel))) (hts (.instantiable RX4 1) (List.mem_of_getElem? (i := 5) (by decide +kernel))) (hts (.initialized RX4) (List.mem_of_getElem? (i := 6) (by decide +kernel))) hK rfl (fun j hj => by rcases (show j = 0 by omega) with rfl <;> rfl) hab hZ (j1 := i + 2) (by omega) hS (Nat.le_of_ble_eq_true rfl) (Nat.le_of_ble_eq_true rfl) dX2_init_5 (fun H hP9 hk1 hZ hS => ?_)
  have h_q1 : PP G ([(a (i + 1), .inr (4, [.null]))]) H := hP9
  have h_o : PP G ([(a i, .inr (2, [.null, .null, .null, .null, .null, .null, .null, .int (nI 0), .int (nI 0), .int (nI 0)]))]) H := kpF hk1 h_o
  refine lv_dup hx hb dX2_init_8 rfl ?_
  refine lv_bipush (v := nI 6) hx hb dX2_init_9 (by decide) ?_
  refine wr_v (va_runI (As := [.int (nI 6)]) (rest := [.ref (a (i + 1)), .ref (a i)]) FX (c_X4_init l G a b0 hab (i + 1) 6 (by decide)) (cwI 1 hts gX2_init_X4_init rfl rfl rfl (hts (.initialized RX4) (List.mem_of_getElem? (i := 6) (by decide +kernel))) (hts (.methodLink RX2 13 yX4_init) (List.mem_of_getElem? (i := 14) (by decide +kernel))) (hts (.instanceMethod yX4_init) (List.mem_of_getElem? (i := 15) (by decide +kernel))) rfl (by decide +kernel) ⟨Nat.le_of_ble_eq_true rfl, Nat.le_of_ble_eq_true rfl⟩) (preS hK hNW ⟨hZ, h_q1⟩) rfl rfl hl.1 rfl (lv_room (Nat.le_of_ble_eq_true rfl)) dX2_init_11 ⟨Nat.le_of_ble_eq_true rfl, Nat.le_of_ble_eq_true rfl⟩) hS (rng_sub (by omega)) (fun _ H locs _ hP9 hk2 hS => ?_)
  have hZ := hP9.1
  have h_q1 : PP G (rowW G a (i + 1) 6 (fun _ => nI 0)) H := hP9.2
  have h_o : PP G ([(a i, .inr (2, [.null, .null, .null, .null, .null, .null, .null, .int (nI 0), .int (nI 0), .int (nI 0)]))]) H := kp hk2 h_o (dj_cons (rng_no ha (by omega)) (dj_nil))
  refine pp_putF (ci := 2) (v := .ref (a (i + 1))) (ty := .object "GateLedger$Row") (C := RX2) (T := TX2) (N := 10) hx hb hts inX2_init_2 tyX2 tyX2_ok nmX2 hown hK h_o hS (rng_in (by omega)) rfl 0 (by decide) (hts (.fieldLink RX2 16 "GateLedger$Maker" "unlikes" "LGateLedger$Row;") (List.mem_of_getElem? (i := 7) (by decide +kernel))) (fun _ h9 => h9) rfl hin9 rfl (by decide +kernel) rfl rfl (Nat.le_of_ble_eq_true rfl) dX2_init_14 (fun H locs hP9 hk3 hz9 hS => ?_)
  have h_o : PP G ([(a i, .inr (2, [.ref (a (i + 1)), .null, .null, .null, .null, .null, .null, .int (nI 0), .int (nI 0), .int (nI 0)]))]) H := hP9
  have h_q1 : PP G (rowW G a (i + 1) 6 (fun _ => nI 0)) H := kp hk3 h_q1 (dj_cons (ne_a ha (by omega)) (dj_cons (ne_a ha (by omega)) (dj_nil)))
  have hZ := hz9.trans hZ
  refine lv_aload_n hx hb dX2_init_17 rfl (lv_at hl 0 rfl) ?_
  refine pp_new (a := a) (b0 := b0) (ci := 4) (fs := [.null]) (C := RX4) (T := TX4) (N := 1) hx hb hts inX2_init_4 tyX4 tyX4_ok hown (hts (.classLink RX2 9 RX4) (List.mem_of_getElem? (i := 4) (by decide +kernel))) (hts (.instantiable RX4 1) (List.mem_of_getElem? (i := 5) (by decide +kernel))) (hts (.initialized RX4) (List.mem_of_getElem? (i := 6) (by decide +kernel))) hK rfl (fun j hj => by rcases (show j = 0 by omega) with rfl <;> rfl) hab hZ (j1 := i + 4) (by omega) hS (Nat.le_of_ble_eq_true rfl) (Nat.le_of_ble_eq_true rfl) dX2_init_18 (fun H hP9 hk4 hZ hS => ?_)
  have h_q3 : PP G ([(a (i + 3), .inr (4, [.null]))]) H := hP9
  have h_o : PP G ([(a i, .inr (2, [.ref (a (i + 1)), .null, .null, .null, .null, .null, .null, .int (nI 0), .int (nI 0), .int (nI 0)]))]) H := kpF hk4 h_o
  have h_q1 : PP G (rowW G a (i + 1) 6 (fun _ => nI 0)) H := kpF hk4 h_q1
  refine lv_dup hx hb dX2_init_21 rfl ?_
  refine lv_bipush (v := nI 6) hx hb dX2_init_22 (by decide) ?_
  refine wr_v (va_runI (As := [.int (nI 6)]) (rest := [.ref (a (i + 3)), .ref (a i)]) FX (c_X4_init l G a b0 hab (i + 3) 6 (by decide)) (cwI 1 hts gX2_init_X4_init rfl rfl rfl (hts (.initialized RX4) (List.mem_of_getElem? (i := 6) (by decide +kernel))) (hts (.methodLink RX2 13 yX4_init) (List.mem_of_getElem? (i := 14) (by decide +kernel))) (hts (.instanceMethod yX4_init) (List.mem_of_getElem? (i := 15) (by decide +kernel))) rfl (by decide +kernel) ⟨Nat.le_of_ble_eq_true rfl, Nat.le_of_ble_eq_true rfl⟩) (preS hK hNW ⟨hZ, h_q3⟩) rfl rfl hl.1 rfl (lv_room (Nat.le_of_ble_eq_true rfl)) dX2_init_24 ⟨Nat.le_of_ble_eq_true rfl, Nat.le_of_ble_eq_true rfl⟩) hS (rng_sub (by omega)) (fun _ H locs _ hP9 hk5 hS => ?_)
  have hZ := hP9.1
  have h_q3 : PP G (rowW G a (i + 3) 6 (fun _ => nI 0)) H := hP9.2
  have h_o : PP G ([(a i, .inr (2, [.ref (a (i + 1)), .null, .null, .null, .null, .null, .null, .int (nI 0), .int (nI 0), .int (nI 0)]))]) H := kp hk5 h_o (dj_cons (rng_no ha (by omega)) (dj_nil))
  have h_q1 : PP G (rowW G a (i + 1) 6 (fun _ => nI 0)) H := kp hk5 h_q1 (dj_cons (rng_no ha (by omega)) (dj_cons (rng_no ha (by omega)) (dj_nil)))
  refine pp_putF (ci := 2) (v := .ref (a (i + 3))) (ty := .object "GateLedger$Row") (C := RX2) (T := TX2) (N := 10) hx hb hts inX2_init_2 tyX2 tyX2_ok nmX2 hown hK h_o hS (rng_in (by omega)) rfl 1 (by decide) (hts (.fieldLink RX2 20 "GateLedger$Maker" "passes" "LGateLedger$Row;") (List.mem_of_getElem? (i := 8) (by decide +kernel))) (fun _ h9 => h9) rfl hin9 rfl (by decide +kernel) rfl rfl (Nat.le_of_ble_eq_true rfl) dX2_init_27 (fun H locs hP9 hk6 hz9 hS => ?_)
  have h_o : PP G ([(a i, .inr (2, [.ref (a (i + 1)), .ref (a (i + 3)), .null, .null, .null, .null, .null, .int (nI 0), .int (nI 0), .int (nI 0)]))]) H := hP9
  have h_q1 : PP G (rowW G a (i + 1) 6 (fun _ => nI 0)) H := kp hk6 h_q1 (dj_cons (ne_a ha (by omega)) (dj_cons (ne_a ha (by omega)) (dj_nil)))
  have h_q3 : PP G (rowW G a (i + 3) 6 (fun _ => nI 0)) H := kp hk6 h_q3 (dj_cons (ne_a ha (by omega)) (dj_cons (ne_a ha (by omega)) (dj_nil)))
  have hZ := hz9.trans hZ
  refine lv_aload_n hx hb dX2_init_30 rfl (lv_at hl 0 rfl) ?_
  refine pp_new (a := a) (b0 := b0) (ci := 4) (fs := [.null]) (C := RX4) (T := TX4) (N := 1) hx hb hts inX2_init_4 tyX4 tyX4_ok hown (hts (.classLink RX2 9 RX4) (List.mem_of_getElem? (i := 4) (by decide +kernel))) (hts (.instantiable RX4 1) (List.mem_of_getElem? (i := 5) (by decide +kernel))) (hts (.initialized RX4) (List.mem_of_getElem? (i := 6) (by decide +kernel))) hK rfl (fun j hj => by rcases (show j = 0 by omega) with rfl <;> rfl) hab hZ (j1 := i + 6) (by omega) hS (Nat.le_of_ble_eq_true rfl) (Nat.le_of_ble_eq_true rfl) dX2_init_31 (fun H hP9 hk7 hZ hS => ?_)
  have h_q5 : PP G ([(a (i + 5), .inr (4, [.null]))]) H := hP9
  have h_o : PP G ([(a i, .inr (2, [.ref (a (i + 1)), .ref (a (i + 3)), .null, .null, .null, .null, .null, .int (nI 0), .int (nI 0), .int (nI 0)]))]) H := kpF hk7 h_o
  have h_q1 : PP G (rowW G a (i + 1) 6 (fun _ => nI 0)) H := kpF hk7 h_q1
  have h_q3 : PP G (rowW G a (i + 3) 6 (fun _ => nI 0)) H := kpF hk7 h_q3
  refine lv_dup hx hb dX2_init_34 rfl ?_
  refine lv_bipush (v := nI 6) hx hb dX2_init_35 (by decide) ?_
  refine wr_v (va_runI (As := [.int (nI 6)]) (rest := [.ref (a (i + 5)), .ref (a i)]) FX (c_X4_init l G a b0 hab (i + 5) 6 (by decide)) (cwI 1 hts gX2_init_X4_init rfl rfl rfl (hts (.initialized RX4) (List.mem_of_getElem? (i := 6) (by decide +kernel))) (hts (.methodLink RX2 13 yX4_init) (List.mem_of_getElem? (i := 14) (by decide +kernel))) (hts (.instanceMethod yX4_init) (List.mem_of_getElem? (i := 15) (by decide +kernel))) rfl (by decide +kernel) ⟨Nat.le_of_ble_eq_true rfl, Nat.le_of_ble_eq_true rfl⟩) (preS hK hNW ⟨hZ, h_q5⟩) rfl rfl hl.1 rfl (lv_room (Nat.le_of_ble_eq_true rfl)) dX2_init_37 ⟨Nat.le_of_ble_eq_true rfl, Nat.le_of_ble_eq_true rfl⟩) hS (rng_sub (by omega)) (fun _ H locs _ hP9 hk8 hS => ?_)
  have hZ := hP9.1
  have h_q5 : PP G (rowW G a (i + 5) 6 (fun _ => nI 0)) H := hP9.2
  have h_o : PP G ([(a i, .inr (2, [.ref (a (i + 1)), .ref (a (i + 3)), .null, .null, .null, .null, .null, .int (nI 0), .int (nI 0), .int (nI 0)]))]) H := kp hk8 h_o (dj_cons (rng_no ha (by omega)) (dj_nil))
  have h_q1 : PP G (rowW G a (i + 1) 6 (fun _ => nI 0)) H := kp hk8 h_q1 (dj_cons (rng_no ha (by omega)) (dj_cons (rng_no ha (by omega)) (dj_nil)))
  have h_q3 : PP G (rowW G a (i + 3) 6 (fun _ => nI 0)) H := kp hk8 h_q3 (dj_cons (rng_no ha (by omega)) (dj_cons (rng_no ha (by omega)) (dj_nil)))
  refine pp_putF (ci := 2) (v := .ref (a (i + 5))) (ty := .object "GateLedger$Row") (C := RX2) (T := TX2) (N := 10) hx hb hts inX2_init_2 tyX2 tyX2_ok nmX2 hown hK h_o hS (rng_in (by omega)) rfl 2 (by decide) (hts (.fieldLink RX2 23 "GateLedger$Maker" "passesAhead" "LGateLedger$Row;") (List.mem_of_getElem? (i := 9) (by decide +kernel))) (fun _ h9 => h9) rfl hin9 rfl (by decide +kernel) rfl rfl (Nat.le_of_ble_eq_true rfl) dX2_init_40 (fun H locs hP9 hk9 hz9 hS => ?_)
  have h_o : PP G ([(a i, .inr (2, [.ref (a (i + 1)), .ref (a (i + 3)), .ref (a (i + 5)), .null, .null, .null, .null, .int (nI 0), .int (nI 0), .int (nI 0)]))]) H := hP9
  have h_q1 : PP G (rowW G a (i + 1) 6 (fun _ => nI 0)) H := kp hk9 h_q1 (dj_cons (ne_a ha (by omega)) (dj_cons (ne_a ha (by omega)) (dj_nil)))
  have h_q3 : PP G (rowW G a (i + 3) 6 (fun _ => nI 0)) H := kp hk9 h_q3 (dj_cons (ne_a ha (by omega)) (dj_cons (ne_a ha (by omega)) (dj_nil)))
  have h_q5 : PP G (rowW G a (i + 5) 6 (fun _ => nI 0)) H := kp hk9 h_q5 (dj_cons (ne_a ha (by omega)) (dj_cons (ne_a ha (by omega)) (dj_nil)))
  have hZ := hz9.trans hZ
  refine lv_aload_n hx hb dX2_init_43 rfl (lv_at hl 0 rfl) ?_
  refine pp_new (a := a) (b0 := b0) (ci := 4) (fs := [.null]) (C := RX4) (T := TX4) (N := 1) hx hb hts inX2_init_4 tyX4 tyX4_ok hown (hts (.classLink RX2 9 RX4) (List.mem_of_getElem? (i := 4) (by decide +kernel))) (hts (.instantiable RX4 1) (List.mem_of_getElem? (i := 5) (by decide +kernel))) (hts (.initialized RX4) (List.mem_of_getElem? (i := 6) (by decide +kernel))) hK rfl (fun j hj => by rcases (show j = 0 by omega) with rfl <;> rfl) hab hZ (j1 := i + 8) (by omega) hS (Nat.le_of_ble_eq_true rfl) (Nat.le_of_ble_eq_true rfl) dX2_init_44 (fun H hP9 hk10 hZ hS => ?_)
  have h_q7 : PP G ([(a (i + 7), .inr (4, [.null]))]) H := hP9
  have h_o : PP G ([(a i, .inr (2, [.ref (a (i + 1)), .ref (a (i + 3)), .ref (a (i + 5)), .null, .null, .null, .null, .int (nI 0), .int (nI 0), .int (nI 0)]))]) H := kpF hk10 h_o
  have h_q1 : PP G (rowW G a (i + 1) 6 (fun _ => nI 0)) H := kpF hk10 h_q1
  have h_q3 : PP G (rowW G a (i + 3) 6 (fun _ => nI 0)) H := kpF hk10 h_q3
  have h_q5 : PP G (rowW G a (i + 5) 6 (fun _ => nI 0)) H := kpF hk10 h_q5
  refine lv_dup hx hb dX2_init_47 rfl ?_
  refine lv_bipush (v := nI 6) hx hb dX2_init_48 (by decide) ?_
  refine wr_v (va_runI (As := [.int (nI 6)]) (rest := [.ref (a (i + 7)), .ref (a i)]) FX (c_X4_init l G a b0 hab (i + 7) 6 (by decide)) (cwI 1 hts gX2_init_X4_init rfl rfl rfl (hts (.initialized RX4) (List.mem_of_getElem? (i := 6) (by decide +kernel))) (hts (.methodLink RX2 13 yX4_init) (List.mem_of_getElem? (i := 14) (by decide +kernel))) (hts (.instanceMethod yX4_init) (List.mem_of_getElem? (i := 15) (by decide +kernel))) rfl (by decide +kernel) ⟨Nat.le_of_ble_eq_true rfl, Nat.le_of_ble_eq_true rfl⟩) (preS hK hNW ⟨hZ, h_q7⟩) rfl rfl hl.1 rfl (lv_room (Nat.le_of_ble_eq_true rfl)) dX2_init_50 ⟨Nat.le_of_ble_eq_true rfl, Nat.le_of_ble_eq_true rfl⟩) hS (rng_sub (by omega)) (fun _ H locs _ hP9 hk11 hS => ?_)
  have hZ := hP9.1
  have h_q7 : PP G (rowW G a (i + 7) 6 (fun _ => nI 0)) H := hP9.2
  have h_o : PP G ([(a i, .inr (2, [.ref (a (i + 1)), .ref (a (i + 3)), .ref (a (i + 5)), .null, .null, .null, .null, .int (nI 0), .int (nI 0), .int (nI 0)]))]) H := kp hk11 h_o (dj_cons (rng_no ha (by omega)) (dj_nil))
  have h_q1 : PP G (rowW G a (i + 1) 6 (fun _ => nI 0)) H := kp hk11 h_q1 (dj_cons (rng_no ha (by omega)) (dj_cons (rng_no ha (by omega)) (dj_nil)))
  have h_q3 : PP G (rowW G a (i + 3) 6 (fun _ => nI 0)) H := kp hk11 h_q3 (dj_cons (rng_no ha (by omega)) (dj_cons (rng_no ha (by omega)) (dj_nil)))
  have h_q5 : PP G (rowW G a (i + 5) 6 (fun _ => nI 0)) H := kp hk11 h_q5 (dj_cons (rng_no ha (by omega)) (dj_cons (rng_no ha (by omega)) (dj_nil)))
  refine pp_putF (ci := 2) (v := .ref (a (i + 7))) (ty := .object "GateLedger$Row") (C := RX2) (T := TX2) (N := 10) hx hb hts inX2_init_2 tyX2 tyX2_ok nmX2 hown hK h_o hS (rng_in (by omega)) rfl 3 (by decide) (hts (.fieldLink RX2 26 "GateLedger$Maker" "carries" "LGateLedger$Row;") (List.mem_of_getElem? (i := 10) (by decide +kernel))) (fun _ h9 => h9) rfl hin9 rfl (by decide +kernel) rfl rfl (Nat.le_of_ble_eq_true rfl) dX2_init_53 (fun H locs hP9 hk12 hz9 hS => ?_)
  have h_o : PP G ([(a i, .inr (2, [.ref (a (i + 1)), .ref (a (i + 3)), .ref (a (i + 5)), .ref (a (i + 7)), .null, .null, .null, .int (nI 0), .int (nI 0), .int (nI 0)]))]) H := hP9
  have h_q1 : PP G (rowW G a (i + 1) 6 (fun _ => nI 0)) H := kp hk12 h_q1 (dj_cons (ne_a ha (by omega)) (dj_cons (ne_a ha (by omega)) (dj_nil)))
  have h_q3 : PP G (rowW G a (i + 3) 6 (fun _ => nI 0)) H := kp hk12 h_q3 (dj_cons (ne_a ha (by omega)) (dj_cons (ne_a ha (by omega)) (dj_nil)))
  have h_q5 : PP G (rowW G a (i + 5) 6 (fun _ => nI 0)) H := kp hk12 h_q5 (dj_cons (ne_a ha (by omega)) (dj_cons (ne_a ha (by omega)) (dj_nil)))
  have h_q7 : PP G (rowW G a (i + 7) 6 (fun _ => nI 0)) H := kp hk12 h_q7 (dj_cons (ne_a ha (by omega)) (dj_cons (ne_a ha (by omega)) (dj_nil)))
  have hZ := hz9.trans hZ
  refine lv_aload_n hx hb dX2_init_56 rfl (lv_at hl 0 rfl) ?_
  refine pp_new (a := a) (b0 := b0) (ci := 4) (fs := [.null]) (C := RX4) (T := TX4) (N := 1) hx hb hts inX2_init_4 tyX4 tyX4_ok hown (hts (.classLink RX2 9 RX4) (List.mem_of_getElem? (i := 4) (by decide +kernel))) (hts (.instantiable RX4 1) (List.mem_of_getElem? (i := 5) (by decide +kernel))) (hts (.initialized RX4) (List.mem_of_getElem? (i := 6) (by decide +kernel))) hK rfl (fun j hj => by rcases (show j = 0 by omega) with rfl <;> rfl) hab hZ (j1 := i + 10) (by omega) hS (Nat.le_of_ble_eq_true rfl) (Nat.le_of_ble_eq_true rfl) dX2_init_57 (fun H hP9 hk13 hZ hS => ?_)
  have h_q9 : PP G ([(a (i + 9), .inr (4, [.null]))]) H := hP9
  have h_o : PP G ([(a i, .inr (2, [.ref (a (i + 1)), .ref (a (i + 3)), .ref (a (i + 5)), .ref (a (i + 7)), .null, .null, .null, .int (nI 0), .int (nI 0), .int (nI 0)]))]) H := kpF hk13 h_o
  have h_q1 : PP G (rowW G a (i + 1) 6 (fun _ => nI 0)) H := kpF hk13 h_q1
  have h_q3 : PP G (rowW G a (i + 3) 6 (fun _ => nI 0)) H := kpF hk13 h_q3
  have h_q5 : PP G (rowW G a (i + 5) 6 (fun _ => nI 0)) H := kpF hk13 h_q5
  have h_q7 : PP G (rowW G a (i + 7) 6 (fun _ => nI 0)) H := kpF hk13 h_q7
  refine lv_dup hx hb dX2_init_60 rfl ?_
  refine lv_bipush (v := nI 6) hx hb dX2_init_61 (by decide) ?_
  refine wr_v (va_runI (As := [.int (nI 6)]) (rest := [.ref (a (i + 9)), .ref (a i)]) FX (c_X4_init l G a b0 hab (i + 9) 6 (by decide)) (cwI 1 hts gX2_init_X4_init rfl rfl rfl (hts (.initialized RX4) (List.mem_of_getElem? (i := 6) (by decide +kernel))) (hts (.methodLink RX2 13 yX4_init) (List.mem_of_getElem? (i := 14) (by decide +kernel))) (hts (.instanceMethod yX4_init) (List.mem_of_getElem? (i := 15) (by decide +kernel))) rfl (by decide +kernel) ⟨Nat.le_of_ble_eq_true rfl, Nat.le_of_ble_eq_true rfl⟩) (preS hK hNW ⟨hZ, h_q9⟩) rfl rfl hl.1 rfl (lv_room (Nat.le_of_ble_eq_true rfl)) dX2_init_63 ⟨Nat.le_of_ble_eq_true rfl, Nat.le_of_ble_eq_true rfl⟩) hS (rng_sub (by omega)) (fun _ H locs _ hP9 hk14 hS => ?_)
  have hZ := hP9.1
  have h_q9 : PP G (rowW G a (i + 9) 6 (fun _ => nI 0)) H := hP9.2
  have h_o : PP G ([(a i, .inr (2, [.ref (a (i + 1)), .ref (a (i + 3)), .ref (a (i + 5)), .ref (a (i + 7)), .null, .null, .null, .int (nI 0), .int (nI 0), .int (nI 0)]))]) H := kp hk14 h_o (dj_cons (rng_no ha (by omega)) (dj_nil))
  have h_q1 : PP G (rowW G a (i + 1) 6 (fun _ => nI 0)) H := kp hk14 h_q1 (dj_cons (rng_no ha (by omega)) (dj_cons (rng_no ha (by omega)) (dj_nil)))
  have h_q3 : PP G (rowW G a (i + 3) 6 (fun _ => nI 0)) H := kp hk14 h_q3 (dj_cons (rng_no ha (by omega)) (dj_cons (rng_no ha (by omega)) (dj_nil)))
  have h_q5 : PP G (rowW G a (i + 5) 6 (fun _ => nI 0)) H := kp hk14 h_q5 (dj_cons (rng_no ha (by omega)) (dj_cons (rng_no ha (by omega)) (dj_nil)))
  have h_q7 : PP G (rowW G a (i + 7) 6 (fun _ => nI 0)) H := kp hk14 h_q7 (dj_cons (rng_no ha (by omega)) (dj_cons (rng_no ha (by omega)) (dj_nil)))
  refine pp_putF (ci := 2) (v := .ref (a (i + 9))) (ty := .object "GateLedger$Row") (C := RX2) (T := TX2) (N := 10) hx hb hts inX2_init_2 tyX2 tyX2_ok nmX2 hown hK h_o hS (rng_in (by omega)) rfl 4 (by decide) (hts (.fieldLink RX2 29 "GateLedger$Maker" "carriesAhead" "LGateLedger$Row;") (List.mem_of_getElem? (i := 11) (by decide +kernel))) (fun _ h9 => h9) rfl hin9 rfl (by decide +kernel) rfl rfl (Nat.le_of_ble_eq_true rfl) dX2_init_66 (fun H locs hP9 hk15 hz9 hS => ?_)
  have h_o : PP G ([(a i, .inr (2, [.ref (a (i + 1)), .ref (a (i + 3)), .ref (a (i + 5)), .ref (a (i + 7)), .ref (a (i + 9)), .null, .null, .int (nI 0), .int (nI 0), .int (nI 0)]))]) H := hP9
  have h_q1 : PP G (rowW G a (i + 1) 6 (fun _ => nI 0)) H := kp hk15 h_q1 (dj_cons (ne_a ha (by omega)) (dj_cons (ne_a ha (by omega)) (dj_nil)))
  have h_q3 : PP G (rowW G a (i + 3) 6 (fun _ => nI 0)) H := kp hk15 h_q3 (dj_cons (ne_a ha (by omega)) (dj_cons (ne_a ha (by omega)) (dj_nil)))
  have h_q5 : PP G (rowW G a (i + 5) 6 (fun _ => nI 0)) H := kp hk15 h_q5 (dj_cons (ne_a ha (by omega)) (dj_cons (ne_a ha (by omega)) (dj_nil)))
  have h_q7 : PP G (rowW G a (i + 7) 6 (fun _ => nI 0)) H := kp hk15 h_q7 (dj_cons (ne_a ha (by omega)) (dj_cons (ne_a ha (by omega)) (dj_nil)))
  have h_q9 : PP G (rowW G a (i + 9) 6 (fun _ => nI 0)) H := kp hk15 h_q9 (dj_cons (ne_a ha (by omega)) (dj_cons (ne_a ha (by omega)) (dj_nil)))
  have hZ := hz9.trans hZ
  refine lv_aload_n hx hb dX2_init_69 rfl (lv_at hl 0 rfl) ?_
  refine pp_new (a := a) (b0 := b0) (ci := 4) (fs := [.null]) (C := RX4) (T := TX4) (N := 1) hx hb hts inX2_init_4 tyX4 tyX4_ok hown (hts (.classLink RX2 9 RX4) (List.mem_of_getElem? (i := 4) (by decide +kernel))) (hts (.instantiable RX4 1) (List.mem_of_getElem? (i := 5) (by decide +kernel))) (hts (.initialized RX4) (List.mem_of_getElem? (i := 6) (by decide +kernel))) hK rfl (fun j hj => by rcases (show j = 0 by omega) with rfl <;> rfl) hab hZ (j1 := i + 12) (by omega) hS (Nat.le_of_ble_eq_true rfl) (Nat.le_of_ble_eq_true rfl) dX2_init_70 (fun H hP9 hk16 hZ hS => ?_)
  have h_q11 : PP G ([(a (i + 11), .inr (4, [.null]))]) H := hP9
  have h_o : PP G ([(a i, .inr (2, [.ref (a (i + 1)), .ref (a (i + 3)), .ref (a (i + 5)), .ref (a (i + 7)), .ref (a (i + 9)), .null, .null, .int (nI 0), .int (nI 0), .int (nI 0)]))]) H := kpF hk16 h_o
  have h_q1 : PP G (rowW G a (i + 1) 6 (fun _ => nI 0)) H := kpF hk16 h_q1
  have h_q3 : PP G (rowW G a (i + 3) 6 (fun _ => nI 0)) H := kpF hk16 h_q3
  have h_q5 : PP G (rowW G a (i + 5) 6 (fun _ => nI 0)) H := kpF hk16 h_q5
  have h_q7 : PP G (rowW G a (i + 7) 6 (fun _ => nI 0)) H := kpF hk16 h_q7
  have h_q9 : PP G (rowW G a (i + 9) 6 (fun _ => nI 0)) H := kpF hk16 h_q9
  refine lv_dup hx hb dX2_init_73 rfl ?_
  refine lv_bipush (v := nI 16) hx hb dX2_init_74 (by decide) ?_
  refine wr_v (va_runI (As := [.int (nI 16)]) (rest := [.ref (a (i + 11)), .ref (a i)]) FX (c_X4_init l G a b0 hab (i + 11) 16 (by decide)) (cwI 1 hts gX2_init_X4_init rfl rfl rfl (hts (.initialized RX4) (List.mem_of_getElem? (i := 6) (by decide +kernel))) (hts (.methodLink RX2 13 yX4_init) (List.mem_of_getElem? (i := 14) (by decide +kernel))) (hts (.instanceMethod yX4_init) (List.mem_of_getElem? (i := 15) (by decide +kernel))) rfl (by decide +kernel) ⟨Nat.le_of_ble_eq_true rfl, Nat.le_of_ble_eq_true rfl⟩) (preS hK hNW ⟨hZ, h_q11⟩) rfl rfl hl.1 rfl (lv_room (Nat.le_of_ble_eq_true rfl)) dX2_init_76 ⟨Nat.le_of_ble_eq_true rfl, Nat.le_of_ble_eq_true rfl⟩) hS (rng_sub (by omega)) (fun _ H locs _ hP9 hk17 hS => ?_)
  have hZ := hP9.1
  have h_q11 : PP G (rowW G a (i + 11) 16 (fun _ => nI 0)) H := hP9.2
  have h_o : PP G ([(a i, .inr (2, [.ref (a (i + 1)), .ref (a (i + 3)), .ref (a (i + 5)), .ref (a (i + 7)), .ref (a (i + 9)), .null, .null, .int (nI 0), .int (nI 0), .int (nI 0)]))]) H := kp hk17 h_o (dj_cons (rng_no ha (by omega)) (dj_nil))
  have h_q1 : PP G (rowW G a (i + 1) 6 (fun _ => nI 0)) H := kp hk17 h_q1 (dj_cons (rng_no ha (by omega)) (dj_cons (rng_no ha (by omega)) (dj_nil)))
  have h_q3 : PP G (rowW G a (i + 3) 6 (fun _ => nI 0)) H := kp hk17 h_q3 (dj_cons (rng_no ha (by omega)) (dj_cons (rng_no ha (by omega)) (dj_nil)))
  have h_q5 : PP G (rowW G a (i + 5) 6 (fun _ => nI 0)) H := kp hk17 h_q5 (dj_cons (rng_no ha (by omega)) (dj_cons (rng_no ha (by omega)) (dj_nil)))
  have h_q7 : PP G (rowW G a (i + 7) 6 (fun _ => nI 0)) H := kp hk17 h_q7 (dj_cons (rng_no ha (by omega)) (dj_cons (rng_no ha (by omega)) (dj_nil)))
  have h_q9 : PP G (rowW G a (i + 9) 6 (fun _ => nI 0)) H := kp hk17 h_q9 (dj_cons (rng_no ha (by omega)) (dj_cons (rng_no ha (by omega)) (dj_nil)))
  refine pp_putF (ci := 2) (v := .ref (a (i + 11))) (ty := .object "GateLedger$Row") (C := RX2) (T := TX2) (N := 10) hx hb hts inX2_init_2 tyX2 tyX2_ok nmX2 hown hK h_o hS (rng_in (by omega)) rfl 5 (by decide) (hts (.fieldLink RX2 32 "GateLedger$Maker" "products" "LGateLedger$Row;") (List.mem_of_getElem? (i := 12) (by decide +kernel))) (fun _ h9 => h9) rfl hin9 rfl (by decide +kernel) rfl rfl (Nat.le_of_ble_eq_true rfl) dX2_init_79 (fun H locs hP9 hk18 hz9 hS => ?_)
  have h_o : PP G ([(a i, .inr (2, [.ref (a (i + 1)), .ref (a (i + 3)), .ref (a (i + 5)), .ref (a (i + 7)), .ref (a (i + 9)), .ref (a (i + 11)), .null, .int (nI 0), .int (nI 0), .int (nI 0)]))]) H := hP9
  have h_q1 : PP G (rowW G a (i + 1) 6 (fun _ => nI 0)) H := kp hk18 h_q1 (dj_cons (ne_a ha (by omega)) (dj_cons (ne_a ha (by omega)) (dj_nil)))
  have h_q3 : PP G (rowW G a (i + 3) 6 (fun _ => nI 0)) H := kp hk18 h_q3 (dj_cons (ne_a ha (by omega)) (dj_cons (ne_a ha (by omega)) (dj_nil)))
  have h_q5 : PP G (rowW G a (i + 5) 6 (fun _ => nI 0)) H := kp hk18 h_q5 (dj_cons (ne_a ha (by omega)) (dj_cons (ne_a ha (by omega)) (dj_nil)))
  have h_q7 : PP G (rowW G a (i + 7) 6 (fun _ => nI 0)) H := kp hk18 h_q7 (dj_cons (ne_a ha (by omega)) (dj_cons (ne_a ha (by omega)) (dj_nil)))
  have h_q9 : PP G (rowW G a (i + 9) 6 (fun _ => nI 0)) H := kp hk18 h_q9 (dj_cons (ne_a ha (by omega)) (dj_cons (ne_a ha (by omega)) (dj_nil)))
  have h_q11 : PP G (rowW G a (i + 11) 16 (fun _ => nI 0)) H := kp hk18 h_q11 (dj_cons (ne_a ha (by omega)) (dj_cons (ne_a ha (by omega)) (dj_nil)))
  have hZ := hz9.trans hZ
  refine lv_aload_n hx hb dX2_init_82 rfl (lv_at hl 0 rfl) ?_
  refine pp_new (a := a) (b0 := b0) (ci := 4) (fs := [.null]) (C := RX4) (T := TX4) (N := 1) hx hb hts inX2_init_4 tyX4 tyX4_ok hown (hts (.classLink RX2 9 RX4) (List.mem_of_getElem? (i := 4) (by decide +kernel))) (hts (.instantiable RX4 1) (List.mem_of_getElem? (i := 5) (by decide +kernel))) (hts (.initialized RX4) (List.mem_of_getElem? (i := 6) (by decide +kernel))) hK rfl (fun j hj => by rcases (show j = 0 by omega) with rfl <;> rfl) hab hZ (j1 := i + 14) (by omega) hS (Nat.le_of_ble_eq_true rfl) (Nat.le_of_ble_eq_true rfl) dX2_init_83 (fun H hP9 hk19 hZ hS => ?_)
  have h_q13 : PP G ([(a (i + 13), .inr (4, [.null]))]) H := hP9
  have h_o : PP G ([(a i, .inr (2, [.ref (a (i + 1)), .ref (a (i + 3)), .ref (a (i + 5)), .ref (a (i + 7)), .ref (a (i + 9)), .ref (a (i + 11)), .null, .int (nI 0), .int (nI 0), .int (nI 0)]))]) H := kpF hk19 h_o
  have h_q1 : PP G (rowW G a (i + 1) 6 (fun _ => nI 0)) H := kpF hk19 h_q1
  have h_q3 : PP G (rowW G a (i + 3) 6 (fun _ => nI 0)) H := kpF hk19 h_q3
  have h_q5 : PP G (rowW G a (i + 5) 6 (fun _ => nI 0)) H := kpF hk19 h_q5
  have h_q7 : PP G (rowW G a (i + 7) 6 (fun _ => nI 0)) H := kpF hk19 h_q7
  have h_q9 : PP G (rowW G a (i + 9) 6 (fun _ => nI 0)) H := kpF hk19 h_q9
  have h_q11 : PP G (rowW G a (i + 11) 16 (fun _ => nI 0)) H := kpF hk19 h_q11
  refine lv_dup hx hb dX2_init_86 rfl ?_
  refine lv_iconst (v := nI 5) hx hb dX2_init_87 (by decide) ?_
  refine wr_v (va_runI (As := [.int (nI 5)]) (rest := [.ref (a (i + 13)), .ref (a i)]) FX (c_X4_init l G a b0 hab (i + 13) 5 (by decide)) (cwI 1 hts gX2_init_X4_init rfl rfl rfl (hts (.initialized RX4) (List.mem_of_getElem? (i := 6) (by decide +kernel))) (hts (.methodLink RX2 13 yX4_init) (List.mem_of_getElem? (i := 14) (by decide +kernel))) (hts (.instanceMethod yX4_init) (List.mem_of_getElem? (i := 15) (by decide +kernel))) rfl (by decide +kernel) ⟨Nat.le_of_ble_eq_true rfl, Nat.le_of_ble_eq_true rfl⟩) (preS hK hNW ⟨hZ, h_q13⟩) rfl rfl hl.1 rfl (lv_room (Nat.le_of_ble_eq_true rfl)) dX2_init_88 ⟨Nat.le_of_ble_eq_true rfl, Nat.le_of_ble_eq_true rfl⟩) hS (rng_sub (by omega)) (fun _ H locs _ hP9 hk20 hS => ?_)
  have hZ := hP9.1
  have h_q13 : PP G (rowW G a (i + 13) 5 (fun _ => nI 0)) H := hP9.2
  have h_o : PP G ([(a i, .inr (2, [.ref (a (i + 1)), .ref (a (i + 3)), .ref (a (i + 5)), .ref (a (i + 7)), .ref (a (i + 9)), .ref (a (i + 11)), .null, .int (nI 0), .int (nI 0), .int (nI 0)]))]) H := kp hk20 h_o (dj_cons (rng_no ha (by omega)) (dj_nil))
  have h_q1 : PP G (rowW G a (i + 1) 6 (fun _ => nI 0)) H := kp hk20 h_q1 (dj_cons (rng_no ha (by omega)) (dj_cons (rng_no ha (by omega)) (dj_nil)))
  have h_q3 : PP G (rowW G a (i + 3) 6 (fun _ => nI 0)) H := kp hk20 h_q3 (dj_cons (rng_no ha (by omega)) (dj_cons (rng_no ha (by omega)) (dj_nil)))
  have h_q5 : PP G (rowW G a (i + 5) 6 (fun _ => nI 0)) H := kp hk20 h_q5 (dj_cons (rng_no ha (by omega)) (dj_cons (rng_no ha (by omega)) (dj_nil)))
  have h_q7 : PP G (rowW G a (i + 7) 6 (fun _ => nI 0)) H := kp hk20 h_q7 (dj_cons (rng_no ha (by omega)) (dj_cons (rng_no ha (by omega)) (dj_nil)))
  have h_q9 : PP G (rowW G a (i + 9) 6 (fun _ => nI 0)) H := kp hk20 h_q9 (dj_cons (rng_no ha (by omega)) (dj_cons (rng_no ha (by omega)) (dj_nil)))
  have h_q11 : PP G (rowW G a (i + 11) 16 (fun _ => nI 0)) H := kp hk20 h_q11 (dj_cons (rng_no ha (by omega)) (dj_cons (rng_no ha (by omega)) (dj_nil)))
  refine pp_putF (ci := 2) (v := .ref (a (i + 13))) (ty := .object "GateLedger$Row") (C := RX2) (T := TX2) (N := 10) hx hb hts inX2_init_2 tyX2 tyX2_ok nmX2 hown hK h_o hS (rng_in (by omega)) rfl 6 (by decide) (hts (.fieldLink RX2 35 "GateLedger$Maker" "line" "LGateLedger$Row;") (List.mem_of_getElem? (i := 13) (by decide +kernel))) (fun _ h9 => h9) rfl hin9 rfl (by decide +kernel) rfl rfl (Nat.le_of_ble_eq_true rfl) dX2_init_91 (fun H locs hP9 hk21 hz9 hS => ?_)
  have h_o : PP G ([(a i, .inr (2, [.ref (a (i + 1)), .ref (a (i + 3)), .ref (a (i + 5)), .ref (a (i + 7)), .ref (a (i + 9)), .ref (a (i + 11)), .ref (a (i + 13)), .int (nI 0), .int (nI 0), .int (nI 0)]))]) H := hP9
  have h_q1 : PP G (rowW G a (i + 1) 6 (fun _ => nI 0)) H := kp hk21 h_q1 (dj_cons (ne_a ha (by omega)) (dj_cons (ne_a ha (by omega)) (dj_nil)))
  have h_q3 : PP G (rowW G a (i + 3) 6 (fun _ => nI 0)) H := kp hk21 h_q3 (dj_cons (ne_a ha (by omega)) (dj_cons (ne_a ha (by omega)) (dj_nil)))
  have h_q5 : PP G (rowW G a (i + 5) 6 (fun _ => nI 0)) H := kp hk21 h_q5 (dj_cons (ne_a ha (by omega)) (dj_cons (ne_a ha (by omega)) (dj_nil)))
  have h_q7 : PP G (rowW G a (i + 7) 6 (fun _ => nI 0)) H := kp hk21 h_q7 (dj_cons (ne_a ha (by omega)) (dj_cons (ne_a ha (by omega)) (dj_nil)))
  have h_q9 : PP G (rowW G a (i + 9) 6 (fun _ => nI 0)) H := kp hk21 h_q9 (dj_cons (ne_a ha (by omega)) (dj_cons (ne_a ha (by omega)) (dj_nil)))
  have h_q11 : PP G (rowW G a (i + 11) 16 (fun _ => nI 0)) H := kp hk21 h_q11 (dj_cons (ne_a ha (by omega)) (dj_cons (ne_a ha (by omega)) (dj_nil)))
  have h_q13 : PP G (rowW G a (i + 13) 5 (fun _ => nI 0)) H := kp hk21 h_q13 (dj_cons (ne_a ha (by omega)) (dj_cons (ne_a ha (by omega)) (dj_nil)))
  have hZ := hz9.trans hZ
  refine wid (k := 14) (n := 58) (Nat.le_of_ble_eq_true rfl) (Nat.le_of_ble_eq_true rfl) ?_
  exact en_wv () hx hb hr hlocks hS trivial ⟨hZ, P_app h_o (P_app h_q1 (P_app h_q3 (P_app h_q5 (P_app h_q7 (P_app h_q9 (P_app h_q11 h_q13))))))⟩ dX2_init_94
