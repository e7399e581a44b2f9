set_option maxHeartbeats 4000000 in
set_option maxRecDepth 100000 in
/-- Row.add -/
theorem c_X4_add (l : Launch) (G : GG) (a : Nat → Nat) (ha : Inj a) (i n : Nat) (f : Nat → Int32) (k : Nat) (v : Int32) (hk : k < n) (hn : n < 2 ^ 31) : Met l yX4_add wsX4_add ({ frames := 1, cells := 0, slots := 0, locals := 22 } : Room) (PcB G [.ref (a i), .int (nI k), .int v] (fun H => PP G (rowW G a i n f) H)) (QV (fun _ : Unit => True) (fun _ H => PP G (rowW G a i n (upd f k (f k + v))) H) (rng a i 2)) 0 0 (rng a i 2) := by
  refine Met.ofW (cc := cX4_add) (maxL := 3) (ret := none) (by decide) rfl ?_
  intro p e s m args below meth c s₁ B hml hv
  obtain ⟨rfl, hB, hK, hNW⟩ := hv
  have hx := B.exec
  have hb := B.bytes
  have hr := B.returns
  have hts := atoms_spec (ws := wsX4_add) B.pre
  have hown : s.vm.findClass RX4 = some m.cls := findClass_of_methodNamed B.named
  have hlocks := B.notSynchronized
  have FX : CallFix p m c cX4_add 3 s ([.ref (a i), .int (nI k), .int v] : List Value).toArray wsX4_add RX4 := ⟨hx, hb, hml, hown, hts⟩
  have hl := lv_entry ([.ref (a i), .int (nI k), .int v]) (n := 3) (Nat.le_of_ble_eq_true rfl)
  rw [lg_entry_eq]
  generalize (lg_sl ([.ref (a i), .int (nI k), .int v]) ++ List.replicate (3 - (lg_sl ([.ref (a i), .int (nI k), .int v])).length) Slot.unset).toArray = ls at hl ⊢
  have hl : lv_has ls 3 [(0, .ref (a i)), (1, .int (nI k)), (2, .int v)] := hl
  have h_r := hB
  have hS : va_S (rng a i 2) s.heap s.heap [] := va_S.rf
  refine lv_aload_n hx hb dX4_add_0 rfl (lv_at hl 0 rfl) ?_
  refine lv_iload_n hx hb dX4_add_1 rfl (lv_at hl 1 rfl) ?_
  refine lv_aload_n hx hb dX4_add_2 rfl (lv_at hl 0 rfl) ?_
  refine lv_iload_n hx hb dX4_add_3 rfl (lv_at hl 1 rfl) ?_
  refine ro_i (va_runV (As := [.int (nI k)]) (rest := [.int (nI k), .ref (a i)]) FX (c_X4_at l G a i n f (nI k) hn) (cwV 1 hts gX4_add_X4_at rfl rfl rfl (by decide +kernel) ⟨Nat.le_of_ble_eq_true rfl, Nat.le_of_ble_eq_true rfl⟩) (preV hK hNW (va_P.sub h_r [0, 1] rfl) (va_recv hK h_r (ci := 4) (q0 := 0) rfl rfl)) rfl rfl hl.1 rfl (lv_room (Nat.le_of_ble_eq_true rfl)) dX4_add_4 ⟨Nat.le_of_ble_eq_true rfl, Nat.le_of_ble_eq_true rfl⟩) ?_
  refine lv_as (y := f k) (rowAt_in hk hn) ?_
  refine lv_iload_n hx hb dX4_add_7 rfl (lv_at hl 2 rfl) ?_
  refine lv_iadd hx hb dX4_add_8 ?_
  refine wr_v (va_runV (As := [.int (nI k), .int ((f k) + v)]) (rest := []) FX (c_X4_put l G a ha i n f (nI k) ((f k) + v) hn) (cwV 2 hts gX4_add_X4_put rfl rfl rfl (by decide +kernel) ⟨Nat.le_of_ble_eq_true rfl, Nat.le_of_ble_eq_true rfl⟩) (preV hK hNW h_r (va_recv hK h_r (ci := 4) (q0 := 0) rfl rfl)) rfl rfl hl.1 rfl (lv_room (Nat.le_of_ble_eq_true rfl)) dX4_add_9 ⟨Nat.le_of_ble_eq_true rfl, Nat.le_of_ble_eq_true rfl⟩) hS (rng_sub (by omega)) (fun _ H locs _ hP9 hk1 hS => ?_)
  rw [rowPut_in hk hn] at hP9
  have h_r : PP G (rowW G a i n (upd f k (f k + v))) H := hP9
  exact en_wv () hx hb hr hlocks hS (trivial) (h_r) dX4_add_12
set_option maxRecDepth 20000 in
theorem inX4_wipe_4 : ∀ w ∈ u_ws RX4 TX4 1, w ∈ wsX4_wipe := by decide +kernel
set_option maxHeartbeats 4000000 in
set_option maxRecDepth 100000 in
/-- Row.wipe -/
theorem c_X4_wipe (l : Launch) (G : GG) (a : Nat → Nat) (ha : Inj a) (i n : Nat) (f : Nat → Int32) (hn : n < 2 ^ 31) : Met l yX4_wipe wsX4_wipe ({ frames := 0, cells := 0, slots := 0, locals := 0 } : Room) (PcB G [.ref (a i)] (fun H => PP G (rowW G a i n f) H)) (QV (fun g : Nat → Int32 => ∀ j, j < n → g j = 0) (fun g H => PP G (rowW G a i n g) H) (rng a i 2)) 0 0 (rng a i 2) := by
  refine Met.ofW (cc := cX4_wipe) (maxL := 2) (ret := none) (by decide) rfl ?_
  intro p e s m args below meth c s₁ B hml hv
  obtain ⟨rfl, hB, hK, hNW⟩ := hv
  have hx := B.exec
  have hb := B.bytes
  have hr := B.returns
  have hts := atoms_spec (ws := wsX4_wipe) B.pre
  have hown : s.vm.findClass RX4 = some m.cls := findClass_of_methodNamed B.named
  have hlocks := B.notSynchronized
  have FX : CallFix p m c cX4_wipe 2 s ([.ref (a i)] : List Value).toArray wsX4_wipe RX4 := ⟨hx, hb, hml, hown, hts⟩
  have hl := lv_entry ([.ref (a i)]) (n := 2) (Nat.le_of_ble_eq_true rfl)
  rw [lg_entry_eq]
  generalize (lg_sl ([.ref (a i)]) ++ List.replicate (2 - (lg_sl ([.ref (a i)])).length) Slot.unset).toArray = ls at hl ⊢
  have hl : lv_has ls 2 [(0, .ref (a i))] := hl
  have h_o : PP G ([(a i, .inr (4, [.ref (a (i + 1))]))]) s.heap := va_P.sub hB [0] rfl
  have h_c : PP G ([(a (i + 1), .inl (gI G, n, .inl f))]) s.heap := va_P.sub hB [1] rfl
  have hS : va_S (rng a i 2) s.heap s.heap [] := va_S.rf
  refine lv_iconst (v := nI 0) hx hb dX4_wipe_0 (by decide) ?_
  refine lv_istore_n (lv' := [(1, .int (nI 0)), (0, .ref (a i))]) hx hb dX4_wipe_1 rfl hl (by decide) rfl (fun ls hl => ?_)
  refine lv_loop2 2 (fun (k : Nat) (g : Nat → Int32) => n - k) (fun (k : Nat) (g : Nat → Int32) (H : Heap) (locs : List Loc) (ls : Array Slot) => (PP G ([(a i, .inr (4, [.ref (a (i + 1))]))]) H) ∧ (PP G ([(a (i + 1), .inl (gI G, n, .inl g))]) H) ∧ (va_S (rng a i 2) s.heap H locs) ∧ (lv_has ls 2 [(0, .ref (a i)), (1, .int (nI k))]) ∧ (k ≤ n) ∧ (∀ j, j < k → g j = (fun _ => 0) j)) (fun _ _ => []) (fun k g H locs ls hI ih => ?_) 0 f ⟨h_o, h_c, hS, lv_sub hl [1, 0] rfl, by omega, fun j h => absurd h (Nat.not_lt_zero j)⟩ rfl
  obtain ⟨h_o, h_c, hS, hl, hk, hg⟩ := hI
  have ih1 := @ih
  clear ih
  refine lv_iload_n hx hb dX4_wipe_2 rfl (lv_at hl 1 rfl) ?_
  refine lv_aload_n hx hb dX4_wipe_3 rfl (lv_at hl 0 rfl) ?_
  refine va_get (D := G.1) (ci := 4) (v := .ref (a (i + 1))) (C := RX4) (T := TX4) (N := 1) hx hb hts inX4_wipe_4 hown hK h_o 0 rfl rfl 0 (by decide) (hts (.fieldLink RX4 7 "GateLedger$Row" "cells" "[I") (List.mem_of_getElem? (i := 1) (by decide +kernel))) (fun _ h9 => h9) rfl dX4_wipe_4 ?_
  refine va_alen hx hb hK h_c 0 0 rfl rfl (v := nI n) rfl dX4_wipe_7 ?_
  refine lv_icmp_ge (tgt := 24) hx hb dX4_wipe_8 (by decide) (fun c8 => ?_) (fun c8 => ?_)
  · skip
    have c8 := cv_le (by omega) (by omega) c8
    have ek : k = n := by omega
    subst ek
    exact en_wv g hx hb hr hlocks hS (hg) (P_app h_o h_c) dX4_wipe_24
  · skip
    have c8 := cv_nle (by omega) (by omega) c8
    refine lv_aload_n hx hb dX4_wipe_11 rfl (lv_at hl 0 rfl) ?_
    refine va_get (D := G.1) (ci := 4) (v := .ref (a (i + 1))) (C := RX4) (T := TX4) (N := 1) hx hb hts inX4_wipe_4 hown hK h_o 0 rfl rfl 0 (by decide) (hts (.fieldLink RX4 7 "GateLedger$Row" "cells" "[I") (List.mem_of_getElem? (i := 1) (by decide +kernel))) (fun _ h9 => h9) rfl dX4_wipe_12 ?_
    refine lv_iload_n hx hb dX4_wipe_15 rfl (lv_at hl 1 rfl) ?_
    refine lv_iconst (v := nI 0) hx hb dX4_wipe_16 (by decide) ?_
    refine pp_iast hx hb hK h_c hS (rng_in (by omega)) (vp_in_nI (by omega) (by omega)) dX4_wipe_17 (fun H locs hP9 hk2 _ hS => ?_)
    rw [nI_clamp (by omega)] at hP9
    have h_c : PP G ([(a (i + 1), .inl (gI G, n, .inl (upd g k (nI 0))))]) H := hP9
    have h_o : PP G ([(a i, .inr (4, [.ref (a (i + 1))]))]) H := kp hk2 h_o (dj_cons (ne_a ha (by omega)) (dj_nil))
    refine lv_iinc (v := nI (k + 1)) (lv' := [(1, .int (nI (k + 1))), (0, .ref (a i))]) hx hb dX4_wipe_18 hl (k := 1) rfl (by first | exact nI_add _ 1 | decide) (by decide) rfl (fun ls hl => ?_)
    refine lv_goto (tgt := 2) hx hb dX4_wipe_21 (by decide) ?_
    exact ih1 (k + 1) (upd g k (nI 0)) _ _ _ ⟨h_o, h_c, hS, lv_sub hl [1, 0] rfl, by omega, upd_fill (v := fun _ => 0) hg rfl⟩ (by show n - (k + 1) < n - k; omega)
set_option maxRecDepth 20000 in
theorem inX4_copyFrom_4 : ∀ w ∈ u_ws RX4 TX4 1, w ∈ wsX4_copyFrom := by decide +kernel
set_option maxHeartbeats 4000000 in
set_option maxRecDepth 100000 in
/-- Row.copyFrom -/
theorem c_X4_copyFrom (l : Launch) (G : GG) (a : Nat → Nat) (ha : Inj a) (i j n : Nat) (f f2 : Nat → Int32) (hij : i + 2 ≤ j ∨ j + 2 ≤ i) (hn : n < 2 ^ 31) : Met l yX4_copyFrom wsX4_copyFrom ({ frames := 1, cells := 0, slots := 0, locals := 21 } : Room) (PcB G [.ref (a i), .ref (a j)] (fun H => PP G (rowW G a i n f) H ∧ PP G (rowW G a j n f2) H)) (QV (fun g : Nat → Int32 => ∀ r, r < n → g r = f2 r) (fun g H => PP G (rowW G a i n g) H) (rng a i 2)) 0 0 (rng a i 2) := by
  refine Met.ofW (cc := cX4_copyFrom) (maxL := 3) (ret := none) (by decide) rfl ?_
  intro p e s m args below meth c s₁ B hml hv
  obtain ⟨rfl, hB, hK, hNW⟩ := hv
  have hx := B.exec
  have hb := B.bytes
  have hr := B.returns
  have hts := atoms_spec (ws := wsX4_copyFrom) B.pre
  have hown : s.vm.findClass RX4 = some m.cls := findClass_of_methodNamed B.named
  have hlocks := B.notSynchronized
  have FX : CallFix p m c cX4_copyFrom 3 s ([.ref (a i), .ref (a j)] : List Value).toArray wsX4_copyFrom RX4 := ⟨hx, hb, hml, hown, hts⟩
  have hl := lv_entry ([.ref (a i), .ref (a j)]) (n := 3) (Nat.le_of_ble_eq_true rfl)
  rw [lg_entry_eq]
  generalize (lg_sl ([.ref (a i), .ref (a j)]) ++ List.replicate (3 - (lg_sl ([.ref (a i), .ref (a j)])).length) Slot.unset).toArray = ls at hl ⊢
  have hl : lv_has ls 3 [(0, .ref (a i)), (1, .ref (a j))] := hl
  obtain ⟨hB, h_r2⟩ := hB
  have h_o : PP G ([(a i, .inr (4, [.ref (a (i + 1))]))]) s.heap := va_P.sub hB [0] rfl
  have h_c : PP G ([(a (i + 1), .inl (gI G, n, .inl f))]) s.heap := va_P.sub hB [1] rfl
  have hdj : dj (rng a i 2) (rowW G a j n f2) := dj_rng ha rowW_in (by omega)
  have hS : va_S (rng a i 2) s.heap s.heap [] := va_S.rf
  refine lv_iconst (v := nI 0) hx hb dX4_copyFrom_0 (by decide) ?_
  refine lv_istore_n (lv' := [(2, .int (nI 0)), (0, .ref (a i)), (1, .ref (a j))]) hx hb dX4_copyFrom_1 rfl hl (by decide) rfl (fun ls hl => ?_)
  refine lv_loop2 2 (fun (k : Nat) (g : Nat → Int32) => n - k) (fun (k : Nat) (g : Nat → Int32) (H : Heap) (locs : List Loc) (ls : Array Slot) => (PP G ([(a i, .inr (4, [.ref (a (i + 1))]))]) H) ∧ (PP G ([(a (i + 1), .inl (gI G, n, .inl g))]) H) ∧ (va_S (rng a i 2) s.heap H locs) ∧ (lv_has ls 3 [(0, .ref (a i)), (1, .ref (a j)), (2, .int (nI k))]) ∧ (k ≤ n) ∧ (∀ r, r < k → g r = f2 r)) (fun _ _ => []) (fun k g H locs ls hI ih => ?_) 0 f ⟨h_o, h_c, hS, lv_sub hl [1, 2, 0] rfl, by omega, fun j h => absurd h (Nat.not_lt_zero j)⟩ rfl
  obtain ⟨h_o, h_c, hS, hl, hk, hg⟩ := hI
  have ih1 := @ih
  clear ih
  refine lv_iload_n hx hb dX4_copyFrom_2 rfl (lv_at hl 2 rfl) ?_
  refine lv_aload_n hx hb dX4_copyFrom_3 rfl (lv_at hl 0 rfl) ?_
  refine va_get (D := G.1) (ci := 4) (v := .ref (a (i + 1))) (C := RX4) (T := TX4) (N := 1) hx hb hts inX4_copyFrom_4 hown hK h_o 0 rfl rfl 0 (by decide) (hts (.fieldLink RX4 7 "GateLedger$Row" "cells" "[I") (List.mem_of_getElem? (i := 1) (by decide +kernel))) (fun _ h9 => h9) rfl dX4_copyFrom_4 ?_
  refine va_alen hx hb hK h_c 0 0 rfl rfl (v := nI n) rfl dX4_copyFrom_7 ?_
  refine lv_icmp_ge (tgt := 28) hx hb dX4_copyFrom_8 (by decide) (fun c8 => ?_) (fun c8 => ?_)
  · skip
    have c8 := cv_le (by omega) (by omega) c8
    have ek : k = n := by omega
    subst ek
    exact en_wv g hx hb hr hlocks hS (hg) (P_app h_o h_c) dX4_copyFrom_28
  · skip
    have c8 := cv_nle (by omega) (by omega) c8
    refine lv_aload_n hx hb dX4_copyFrom_11 rfl (lv_at hl 0 rfl) ?_
    refine va_get (D := G.1) (ci := 4) (v := .ref (a (i + 1))) (C := RX4) (T := TX4) (N := 1) hx hb hts inX4_copyFrom_4 hown hK h_o 0 rfl rfl 0 (by decide) (hts (.fieldLink RX4 7 "GateLedger$Row" "cells" "[I") (List.mem_of_getElem? (i := 1) (by decide +kernel))) (fun _ h9 => h9) rfl dX4_copyFrom_12 ?_
    refine lv_iload_n hx hb dX4_copyFrom_15 rfl (lv_at hl 2 rfl) ?_
    refine lv_aload_n hx hb dX4_copyFrom_16 rfl (lv_at hl 1 rfl) ?_
    refine lv_iload_n hx hb dX4_copyFrom_17 rfl (lv_at hl 2 rfl) ?_
    refine ro_i (va_runV (As := [.int (nI k)]) (rest := [.int (nI k), .ref (a (i + 1))]) FX (c_X4_at l G a j n f2 (nI k) hn) (cwV 1 hts gX4_copyFrom_X4_at rfl rfl rfl (by decide +kernel) ⟨Nat.le_of_ble_eq_true rfl, Nat.le_of_ble_eq_true rfl⟩) (preV hK hNW (va_P.sub (ro hS h_r2 hdj) [0, 1] rfl) (va_recv hK (ro hS h_r2 hdj) (ci := 4) (q0 := 0) rfl rfl)) rfl rfl hl.1 rfl (lv_room (Nat.le_of_ble_eq_true rfl)) dX4_copyFrom_18 ⟨Nat.le_of_ble_eq_true rfl, Nat.le_of_ble_eq_true rfl⟩) ?_
    refine lv_as (y := f2 k) (rowAt_in c8 hn) ?_
    refine pp_iast hx hb hK h_c hS (rng_in (by omega)) (vp_in_nI (by omega) (by omega)) dX4_copyFrom_21 (fun H locs hP9 hk2 _ hS => ?_)
    rw [nI_clamp (by omega)] at hP9
    have h_c : PP G ([(a (i + 1), .inl (gI G, n, .inl (upd g k (f2 k))))]) H := hP9
    have h_o : PP G ([(a i, .inr (4, [.ref (a (i + 1))]))]) H := kp hk2 h_o (dj_cons (ne_a ha (by omega)) (dj_nil))
    refine lv_iinc (v := nI (k + 1)) (lv' := [(2, .int (nI (k + 1))), (0, .ref (a i)), (1, .ref (a j))]) hx hb dX4_copyFrom_22 hl (k := 2) rfl (by first | exact nI_add _ 1 | decide) (by decide) rfl (fun ls hl => ?_)
    refine lv_goto (tgt := 2) hx hb dX4_copyFrom_25 (by decide) ?_
    exact ih1 (k + 1) (upd g k (f2 k)) _ _ _ ⟨h_o, h_c, hS, lv_sub hl [1, 2, 0] rfl, by omega, upd_fill hg rfl⟩ (by show n - (k + 1) < n - k; omega)
set_option maxRecDepth 20000 in
theorem inX3_add_3 : ∀ w ∈ u_ws RX3 TX3 8, w ∈ wsX3_add := by decide +kernel
set_option maxHeartbeats 4000000 in
set_option maxRecDepth 100000 in
/-- Net.add: a gate more -/
theorem c_X3_add (l : Launch) (G : GG) (a : Nat → Nat) (ha : Inj a) (j : Nat) (N : NT) (kd f sc : Nat) (hg : nG N < 120) : Met l yX3_add wsX3_add ({ frames := 1, cells := 0, slots := 0, locals := 22 } : Room) (PcB G [.ref (a j), .int (nI kd), .int (nI f), .int (nI sc)] (fun H => PP G (netW G a j N) H)) (QI (fun (r : Int32) (_ : Unit) => r = nI (nG N)) (fun _ H => PP G (netW G a j (addG N kd f sc)) H) (rng a j 11)) 0 0 (rng a j 11) := by
  refine Met.ofW (cc := cX3_add) (maxL := 5) (ret := (some .int)) (by decide) rfl ?_
  intro p e s m args below meth c s₁ B hml hv
  obtain ⟨rfl, hB, hK, hNW⟩ := hv
  have hx := B.exec
  have hb := B.bytes
  have hr := B.returns
  have hts := atoms_spec (ws := wsX3_add) B.pre
  have hown : s.vm.findClass RX3 = some m.cls := findClass_of_methodNamed B.named
  have hlocks := B.notSynchronized
  have FX : CallFix p m c cX3_add 5 s ([.ref (a j), .int (nI kd), .int (nI f), .int (nI sc)] : List Value).toArray wsX3_add RX3 := ⟨hx, hb, hml, hown, hts⟩
  have hl := lv_entry ([.ref (a j), .int (nI kd), .int (nI f), .int (nI sc)]) (n := 5) (Nat.le_of_ble_eq_true rfl)
  rw [lg_entry_eq]
  generalize (lg_sl ([.ref (a j), .int (nI kd), .int (nI f), .int (nI sc)]) ++ List.replicate (5 - (lg_sl ([.ref (a j), .int (nI kd), .int (nI f), .int (nI sc)])).length) Slot.unset).toArray = ls at hl ⊢
  have hl : lv_has ls 5 [(0, .ref (a j)), (1, .int (nI kd)), (2, .int (nI f)), (3, .int (nI sc))] := hl
  have h_o : PP G ([(a j, .inr (3, [.ref (a (j + 1)), .ref (a (j + 3)), .ref (a (j + 5)), .ref (a (j + 7)), .ref (a (j + 9)), .int (nI (nG N)), .int (nI (nIn N)), .int (nI (nO N))]))]) s.heap := va_P.sub hB [0] rfl
  have h_k : PP G (rowW G a (j + 1) 120 (fun z => nI (nK N z))) s.heap := va_P.sub hB [1, 2] rfl
  have h_f : PP G (rowW G a (j + 3) 120 (fun z => nI (nF N z))) s.heap := va_P.sub hB [3, 4] rfl
  have h_s : PP G (rowW G a (j + 5) 120 (fun z => nI (nS N z))) s.heap := va_P.sub hB [5, 6] rfl
  have h_t : PP G (rowW G a (j + 7) 120 (nT N)) s.heap := va_P.sub hB [7, 8] rfl
  have h_u : PP G (rowW G a (j + 9) 16 (fun z => nI (nU N z))) s.heap := va_P.sub hB [9, 10] rfl
  have hS : va_S (rng a j 11) s.heap s.heap [] := va_S.rf
  refine lv_aload_n hx hb dX3_add_0 rfl (lv_at hl 0 rfl) ?_
  refine va_get (D := G.1) (ci := 3) (v := .int (nI (nG N))) (C := RX3) (T := TX3) (N := 8) hx hb hts inX3_add_3 hown hK h_o 0 rfl rfl 5 (by decide) (hts (.fieldLink RX3 32 "GateLedger$Net" "gateTotal" "I") (List.mem_of_getElem? (i := 1) (by decide +kernel))) (fun _ h9 => h9) rfl dX3_add_1 ?_
  refine lv_istore (lv' := [(4, .int (nI (nG N))), (0, .ref (a j)), (1, .int (nI kd)), (2, .int (nI f)), (3, .int (nI sc))]) hx hb dX3_add_4 hl (by decide) rfl (fun ls hl => ?_)
  refine lv_aload_n hx hb dX3_add_6 rfl (lv_at hl 1 rfl) ?_
  refine va_get (D := G.1) (ci := 3) (v := .ref (a (j + 1))) (C := RX3) (T := TX3) (N := 8) hx hb hts inX3_add_3 hown hK h_o 0 rfl rfl 0 (by decide) (hts (.fieldLink RX3 14 "GateLedger$Net" "kinds" "LGateLedger$Row;") (List.mem_of_getElem? (i := 2) (by decide +kernel))) (fun _ h9 => h9) rfl dX3_add_7 ?_
  refine lv_iload hx hb dX3_add_10 (lv_at hl 0 rfl) ?_
  refine lv_iload_n hx hb dX3_add_12 rfl (lv_at hl 2 rfl) ?_
  refine wr_v (va_runV (As := [.int (nI (nG N)), .int (nI kd)]) (rest := []) FX (c_X4_put l G a ha (j + 1) 120 (fun z => nI (nK N z)) (nI (nG N)) (nI kd) (by decide)) (cwV 2 hts gX3_add_X4_put rfl rfl rfl (by decide +kernel) ⟨Nat.le_of_ble_eq_true rfl, Nat.le_of_ble_eq_true rfl⟩) (preV hK hNW h_k (va_recv hK h_k (ci := 4) (q0 := 0) rfl rfl)) rfl rfl hl.1 rfl (lv_room (Nat.le_of_ble_eq_true rfl)) dX3_add_13 ⟨Nat.le_of_ble_eq_true rfl, Nat.le_of_ble_eq_true rfl⟩) hS (rng_sub (by omega)) (fun _ H locs _ hP9 hk1 hS => ?_)
  rw [rowPut_in (by omega) (by decide)] at hP9
  rw [upd_un] at hP9
  have h_k : PP G (rowW G a (j + 1) 120 (fun z => nI (un (nK N) (nG N) kd z))) H := hP9
  have h_o : PP G ([(a j, .inr (3, [.ref (a (j + 1)), .ref (a (j + 3)), .ref (a (j + 5)), .ref (a (j + 7)), .ref (a (j + 9)), .int (nI (nG N)), .int (nI (nIn N)), .int (nI (nO N))]))]) H := kp hk1 h_o (dj_cons (rng_no ha (by omega)) (dj_nil))
  have h_f : PP G (rowW G a (j + 3) 120 (fun z => nI (nF N z))) H := kp hk1 h_f (dj_cons (rng_no ha (by omega)) (dj_cons (rng_no ha (by omega)) (dj_nil)))
  have h_s : PP G (rowW G a (j + 5) 120 (fun z => nI (nS N z))) H := kp hk1 h_s (dj_cons (rng_no ha (by omega)) (dj_cons (rng_no ha (by omega)) (dj_nil)))
  have h_t : PP G (rowW G a (j + 7) 120 (nT N)) H := kp hk1 h_t (dj_cons (rng_no ha (by omega)) (dj_cons (rng_no ha (by omega)) (dj_nil)))
  have h_u : PP G (rowW G a (j + 9) 16 (fun z => nI (nU N z))) H := kp hk1 h_u (dj_cons (rng_no ha (by omega)) (dj_cons (rng_no ha (by omega)) (dj_nil)))
  refine lv_aload_n hx hb dX3_add_16 rfl (lv_at hl 1 rfl) ?_
  refine va_get (D := G.1) (ci := 3) (v := .ref (a (j + 3))) (C := RX3) (T := TX3) (N := 8) hx hb hts inX3_add_3 hown hK h_o 0 rfl rfl 1 (by decide) (hts (.fieldLink RX3 20 "GateLedger$Net" "firsts" "LGateLedger$Row;") (List.mem_of_getElem? (i := 3) (by decide +kernel))) (fun _ h9 => h9) rfl dX3_add_17 ?_
  refine lv_iload hx hb dX3_add_20 (lv_at hl 0 rfl) ?_
  refine lv_iload_n hx hb dX3_add_22 rfl (lv_at hl 3 rfl) ?_
  refine wr_v (va_runV (As := [.int (nI (nG N)), .int (nI f)]) (rest := []) FX (c_X4_put l G a ha (j + 3) 120 (fun z => nI (nF N z)) (nI (nG N)) (nI f) (by decide)) (cwV 2 hts gX3_add_X4_put rfl rfl rfl (by decide +kernel) ⟨Nat.le_of_ble_eq_true rfl, Nat.le_of_ble_eq_true rfl⟩) (preV hK hNW h_f (va_recv hK h_f (ci := 4) (q0 := 0) rfl rfl)) rfl rfl hl.1 rfl (lv_room (Nat.le_of_ble_eq_true rfl)) dX3_add_23 ⟨Nat.le_of_ble_eq_true rfl, Nat.le_of_ble_eq_true rfl⟩) hS (rng_sub (by omega)) (fun _ H locs _ hP9 hk3 hS => ?_)
  rw [rowPut_in (by omega) (by decide)] at hP9
  rw [upd_un] at hP9
  have h_f : PP G (rowW G a (j + 3) 120 (fun z => nI (un (nF N) (nG N) f z))) H := hP9
  have h_o : PP G ([(a j, .inr (3, [.ref (a (j + 1)), .ref (a (j + 3)), .ref (a (j + 5)), .ref (a (j + 7)), .ref (a (j + 9)), .int (nI (nG N)), .int (nI (nIn N)), .int (nI (nO N))]))]) H := kp hk3 h_o (dj_cons (rng_no ha (by omega)) (dj_nil))
  have h_k : PP G (rowW G a (j + 1) 120 (fun z => nI (un (nK N) (nG N) kd z))) H := kp hk3 h_k (dj_cons (rng_no ha (by omega)) (dj_cons (rng_no ha (by omega)) (dj_nil)))
  have h_s : PP G (rowW G a (j + 5) 120 (fun z => nI (nS N z))) H := kp hk3 h_s (dj_cons (rng_no ha (by omega)) (dj_cons (rng_no ha (by omega)) (dj_nil)))
  have h_t : PP G (rowW G a (j + 7) 120 (nT N)) H := kp hk3 h_t (dj_cons (rng_no ha (by omega)) (dj_cons (rng_no ha (by omega)) (dj_nil)))
  have h_u : PP G (rowW G a (j + 9) 16 (fun z => nI (nU N z))) H := kp hk3 h_u (dj_cons (rng_no ha (by omega)) (dj_cons (rng_no ha (by omega)) (dj_nil)))
  refine lv_aload_n hx hb dX3_add_26 rfl (lv_at hl 1 rfl) ?_
  refine va_get (D := G.1) (ci := 3) (v := .ref (a (j + 5))) (C := RX3) (T := TX3) (N := 8) hx hb hts inX3_add_3 hown hK h_o 0 rfl rfl 2 (by decide) (hts (.fieldLink RX3 23 "GateLedger$Net" "seconds" "LGateLedger$Row;") (List.mem_of_getElem? (i := 4) (by decide +kernel))) (fun _ h9 => h9) rfl dX3_add_27 ?_
  refine lv_iload hx hb dX3_add_30 (lv_at hl 0 rfl) ?_
  refine lv_iload_n hx hb dX3_add_32 rfl (lv_at hl 4 rfl) ?_
  refine wr_v (va_runV (As := [.int (nI (nG N)), .int (nI sc)]) (rest := []) FX (c_X4_put l G a ha (j + 5) 120 (fun z => nI (nS N z)) (nI (nG N)) (nI sc) (by decide)) (cwV 2 hts gX3_add_X4_put rfl rfl rfl (by decide +kernel) ⟨Nat.le_of_ble_eq_true rfl, Nat.le_of_ble_eq_true rfl⟩) (preV hK hNW h_s (va_recv hK h_s (ci := 4) (q0 := 0) rfl rfl)) rfl rfl hl.1 rfl (lv_room (Nat.le_of_ble_eq_true rfl)) dX3_add_33 ⟨Nat.le_of_ble_eq_true rfl, Nat.le_of_ble_eq_true rfl⟩) hS (rng_sub (by omega)) (fun _ H locs _ hP9 hk5 hS => ?_)
  rw [rowPut_in (by omega) (by decide)] at hP9
  rw [upd_un] at hP9
  have h_s : PP G (rowW G a (j + 5) 120 (fun z => nI (un (nS N) (nG N) sc z))) H := hP9
  have h_o : PP G ([(a j, .inr (3, [.ref (a (j + 1)), .ref (a (j + 3)), .ref (a (j + 5)), .ref (a (j + 7)), .ref (a (j + 9)), .int (nI (nG N)), .int (nI (nIn N)), .int (nI (nO N))]))]) H := kp hk5 h_o (dj_cons (rng_no ha (by omega)) (dj_nil))
  have h_k : PP G (rowW G a (j + 1) 120 (fun z => nI (un (nK N) (nG N) kd z))) H := kp hk5 h_k (dj_cons (rng_no ha (by omega)) (dj_cons (rng_no ha (by omega)) (dj_nil)))
  have h_f : PP G (rowW G a (j + 3) 120 (fun z => nI (un (nF N) (nG N) f z))) H := kp hk5 h_f (dj_cons (rng_no ha (by omega)) (dj_cons (rng_no ha (by omega)) (dj_nil)))
  have h_t : PP G (rowW G a (j + 7) 120 (nT N)) H := kp hk5 h_t (dj_cons (rng_no ha (by omega)) (dj_cons (rng_no ha (by omega)) (dj_nil)))
  have h_u : PP G (rowW G a (j + 9) 16 (fun z => nI (nU N z))) H := kp hk5 h_u (dj_cons (rng_no ha (by omega)) (dj_cons (rng_no ha (by omega)) (dj_nil)))
  refine lv_aload_n hx hb dX3_add_36 rfl (lv_at hl 1 rfl) ?_
  refine va_get (D := G.1) (ci := 3) (v := .ref (a (j + 7))) (C := RX3) (T := TX3) (N := 8) hx hb hts inX3_add_3 hown hK h_o 0 rfl rfl 3 (by decide) (hts (.fieldLink RX3 26 "GateLedger$Net" "stuckBits" "LGateLedger$Row;") (List.mem_of_getElem? (i := 5) (by decide +kernel))) (fun _ h9 => h9) rfl dX3_add_37 ?_
  refine lv_iload hx hb dX3_add_40 (lv_at hl 0 rfl) ?_
  refine lv_iconst (v := -1) hx hb dX3_add_42 (by decide) ?_
  refine wr_v (va_runV (As := [.int (nI (nG N)), .int (-1)]) (rest := []) FX (c_X4_put l G a ha (j + 7) 120 (nT N) (nI (nG N)) (-1) (by decide)) (cwV 2 hts gX3_add_X4_put rfl rfl rfl (by decide +kernel) ⟨Nat.le_of_ble_eq_true rfl, Nat.le_of_ble_eq_true rfl⟩) (preV hK hNW h_t (va_recv hK h_t (ci := 4) (q0 := 0) rfl rfl)) rfl rfl hl.1 rfl (lv_room (Nat.le_of_ble_eq_true rfl)) dX3_add_43 ⟨Nat.le_of_ble_eq_true rfl, Nat.le_of_ble_eq_true rfl⟩) hS (rng_sub (by omega)) (fun _ H locs _ hP9 hk7 hS => ?_)
  rw [rowPut_in (by omega) (by decide)] at hP9
  have h_t : PP G (rowW G a (j + 7) 120 (upd (nT N) (nG N) (-1))) H := hP9
  have h_o : PP G ([(a j, .inr (3, [.ref (a (j + 1)), .ref (a (j + 3)), .ref (a (j + 5)), .ref (a (j + 7)), .ref (a (j + 9)), .int (nI (nG N)), .int (nI (nIn N)), .int (nI (nO N))]))]) H := kp hk7 h_o (dj_cons (rng_no ha (by omega)) (dj_nil))
  have h_k : PP G (rowW G a (j + 1) 120 (fun z => nI (un (nK N) (nG N) kd z))) H := kp hk7 h_k (dj_cons (rng_no ha (by omega)) (dj_cons (rng_no ha (by omega)) (dj_nil)))
  have h_f : PP G (rowW G a (j + 3) 120 (fun z => nI (un (nF N) (nG N) f z))) H := kp hk7 h_f (dj_cons (rng_no ha (by omega)) (dj_cons (rng_no ha (by omega)) (dj_nil)))
  have h_s : PP G (rowW G a (j + 5) 120 (fun z => nI (un (nS N) (nG N) sc z))) H := kp hk7 h_s (dj_cons (rng_no ha (by omega)) (dj_cons (rng_no ha (by omega)) (dj_nil)))
  have h_u : PP G (rowW G a (j + 9) 16 (fun z => nI (nU N z))) H := kp hk7 h_u (dj_cons (rng_no ha (by omega)) (dj_cons (rng_no ha (by omega)) (dj_nil)))
  refine lv_aload_n hx hb dX3_add_46 rfl (lv_at hl 1 rfl) ?_
  refine lv_dup hx hb dX3_add_47 rfl ?_
  refine va_get (D := G.1) (ci := 3) (v := .int (nI (nG N))) (C := RX3) (T := TX3) (N := 8) hx hb hts inX3_add_3 hown hK h_o 0 rfl rfl 5 (by decide) (hts (.fieldLink RX3 32 "GateLedger$Net" "gateTotal" "I") (List.mem_of_getElem? (i := 1) (by decide +kernel))) (fun _ h9 => h9) rfl dX3_add_48 ?_
  refine lv_iconst (v := nI 1) hx hb dX3_add_51 (by decide) ?_
  refine lv_iadd hx hb dX3_add_52 ?_
  refine lv_as (nI_add _ _) ?_
  refine pp_put (ci := 3) (v := .int (nI ((nG N) + 1))) (ty := .int) (C := RX3) (T := TX3) (N := 8) hx hb hts inX3_add_3 tyX3 tyX3_ok nmX3 hown hK h_o hS (rng_in (by omega)) rfl 5 (by decide) (hts (.fieldLink RX3 32 "GateLedger$Net" "gateTotal" "I") (List.mem_of_getElem? (i := 1) (by decide +kernel))) (fun _ h9 => h9) rfl (by decide +kernel) rfl rfl (Nat.le_of_ble_eq_true rfl) dX3_add_53 (fun H locs hP9 hk9 _ hS => ?_)
  have h_o : PP G ([(a j, .inr (3, [.ref (a (j + 1)), .ref (a (j + 3)), .ref (a (j + 5)), .ref (a (j + 7)), .ref (a (j + 9)), .int (nI ((nG N) + 1)), .int (nI (nIn N)), .int (nI (nO N))]))]) H := hP9
  have h_k : PP G (rowW G a (j + 1) 120 (fun z => nI (un (nK N) (nG N) kd z))) H := kp hk9 h_k (dj_cons (ne_a ha (by omega)) (dj_cons (ne_a ha (by omega)) (dj_nil)))
  have h_f : PP G (rowW G a (j + 3) 120 (fun z => nI (un (nF N) (nG N) f z))) H := kp hk9 h_f (dj_cons (ne_a ha (by omega)) (dj_cons (ne_a ha (by omega)) (dj_nil)))
  have h_s : PP G (rowW G a (j + 5) 120 (fun z => nI (un (nS N) (nG N) sc z))) H := kp hk9 h_s (dj_cons (ne_a ha (by omega)) (dj_cons (ne_a ha (by omega)) (dj_nil)))
  have h_t : PP G (rowW G a (j + 7) 120 (upd (nT N) (nG N) (-1))) H := kp hk9 h_t (dj_cons (ne_a ha (by omega)) (dj_cons (ne_a ha (by omega)) (dj_nil)))
  have h_u : PP G (rowW G a (j + 9) 16 (fun z => nI (nU N z))) H := kp hk9 h_u (dj_cons (ne_a ha (by omega)) (dj_cons (ne_a ha (by omega)) (dj_nil)))
  refine lv_iload hx hb dX3_add_56 (lv_at hl 0 rfl) ?_
  exact en_wi () hx hb hr hlocks hS (rfl) (P_app h_o (P_app h_k (P_app h_f (P_app h_s (P_app h_t h_u))))) dX3_add_58
set_option maxRecDepth 20000 in
theorem inX3_setStuckBit_3 : ∀ w ∈ u_ws RX3 TX3 8, w ∈ wsX3_setStuckBit := by decide +kernel
set_option maxHeartbeats 4000000 in
set_option maxRecDepth 100000 in
/-- Net.setStuckBit -/
theorem c_X3_setStuckBit (l : Launch) (G : GG) (a : Nat → Nat) (ha : Inj a) (j : Nat) (N : NT) (k : Nat) (b : Int32) (hk : k < 120) : Met l yX3_setStuckBit wsX3_setStuckBit ({ frames := 1, cells := 0, slots := 0, locals := 22 } : Room) (PcB G [.ref (a j), .int (nI k), .int b] (fun H => PP G (netW G a j N) H)) (QV (fun _ : Unit => True) (fun _ H => PP G (netW G a j (stkN N k b)) H) (rng a j 11)) 0 0 (rng a j 11) := by
  refine Met.ofW (cc := cX3_setStuckBit) (maxL := 3) (ret := none) (by decide) rfl ?_
  intro p e s m args below meth c s₁ B hml hv
  obtain ⟨rfl, hB, hK, hNW⟩ := hv
  have hx := B.exec
  have hb := B.bytes
  have hr := B.returns
  have hts := atoms_spec (ws := wsX3_setStuckBit) B.pre
  have hown : s.vm.findClass RX3 = some m.cls := findClass_of_methodNamed B.named
  have hlocks := B.notSynchronized
  have FX : CallFix p m c cX3_setStuckBit 3 s ([.ref (a j), .int (nI k), .int b] : List Value).toArray wsX3_setStuckBit RX3 := ⟨hx, hb, hml, hown, hts⟩
  have hl := lv_entry ([.ref (a j), .int (nI k), .int b]) (n := 3) (Nat.le_of_ble_eq_true rfl)
  rw [lg_entry_eq]
  generalize (lg_sl ([.ref (a j), .int (nI k), .int b]) ++ List.replicate (3 - (lg_sl ([.ref (a j), .int (nI k), .int b])).length) Slot.unset).toArray = ls at hl ⊢
  have hl : lv_has ls 3 [(0, .ref (a j)), (1, .int (nI k)), (2, .int b)] := hl
  have h_o : PP G ([(a j, .inr (3, [.ref (a (j + 1)), .ref (a (j + 3)), .ref (a (j + 5)), .ref (a (j + 7)), .ref (a (j + 9)), .int (nI (nG N)), .int (nI (nIn N)), .int (nI (nO N))]))]) s.heap := va_P.sub hB [0] rfl
  have h_k : PP G (rowW G a (j + 1) 120 (fun z => nI (nK N z))) s.heap := va_P.sub hB [1, 2] rfl
  have h_f : PP G (rowW G a (j + 3) 120 (fun z => nI (nF N z))) s.heap := va_P.sub hB [3, 4] rfl
  have h_s : PP G (rowW G a (j + 5) 120 (fun z => nI (nS N z))) s.heap := va_P.sub hB [5, 6] rfl
  have h_t : PP G (rowW G a (j + 7) 120 (nT N)) s.heap := va_P.sub hB [7, 8] rfl
  have h_u : PP G (rowW G a (j + 9) 16 (fun z => nI (nU N z))) s.heap := va_P.sub hB [9, 10] rfl
  have hS : va_S (rng a j 11) s.heap s.heap [] := va_S.rf
  refine lv_aload_n hx hb dX3_setStuckBit_0 rfl (lv_at hl 0 rfl) ?_
  refine va_get (D := G.1) (ci := 3) (v := .ref (a (j + 7))) (C := RX3) (T := TX3) (N := 8) hx hb hts inX3_setStuckBit_3 hown hK h_o 0 rfl rfl 3 (by decide) (hts (.fieldLink RX3 26 "GateLedger$Net" "stuckBits" "LGateLedger$Row;") (List.mem_of_getElem? (i := 1) (by decide +kernel))) (fun _ h9 => h9) rfl dX3_setStuckBit_1 ?_
  refine lv_iload_n hx hb dX3_setStuckBit_4 rfl (lv_at hl 1 rfl) ?_
  refine lv_iload_n hx hb dX3_setStuckBit_5 rfl (lv_at hl 2 rfl) ?_
  refine wr_v (va_runV (As := [.int (nI k), .int b]) (rest := []) FX (c_X4_put l G a ha (j + 7) 120 (nT N) (nI k) b (by decide)) (cwV 2 hts gX3_setStuckBit_X4_put rfl rfl rfl (by decide +kernel) ⟨Nat.le_of_ble_eq_true rfl, Nat.le_of_ble_eq_true rfl⟩) (preV hK hNW h_t (va_recv hK h_t (ci := 4) (q0 := 0) rfl rfl)) rfl rfl hl.1 rfl (lv_room (Nat.le_of_ble_eq_true rfl)) dX3_setStuckBit_6 ⟨Nat.le_of_ble_eq_true rfl, Nat.le_of_ble_eq_true rfl⟩) hS (rng_sub (by omega)) (fun _ H locs _ hP9 hk1 hS => ?_)
  rw [rowPut_in (by omega) (by decide)] at hP9
  have h_t : PP G (rowW G a (j + 7) 120 (upd (nT N) k b)) H := hP9
  have h_o : PP G ([(a j, .inr (3, [.ref (a (j + 1)), .ref (a (j + 3)), .ref (a (j + 5)), .ref (a (j + 7)), .ref (a (j + 9)), .int (nI (nG N)), .int (nI (nIn N)), .int (nI (nO N))]))]) H := kp hk1 h_o (dj_cons (rng_no ha (by omega)) (dj_nil))
  have h_k : PP G (rowW G a (j + 1) 120 (fun z => nI (nK N z))) H := kp hk1 h_k (dj_cons (rng_no ha (by omega)) (dj_cons (rng_no ha (by omega)) (dj_nil)))
  have h_f : PP G (rowW G a (j + 3) 120 (fun z => nI (nF N z))) H := kp hk1 h_f (dj_cons (rng_no ha (by omega)) (dj_cons (rng_no ha (by omega)) (dj_nil)))
  have h_s : PP G (rowW G a (j + 5) 120 (fun z => nI (nS N z))) H := kp hk1 h_s (dj_cons (rng_no ha (by omega)) (dj_cons (rng_no ha (by omega)) (dj_nil)))
  have h_u : PP G (rowW G a (j + 9) 16 (fun z => nI (nU N z))) H := kp hk1 h_u (dj_cons (rng_no ha (by omega)) (dj_cons (rng_no ha (by omega)) (dj_nil)))
  exact en_wv () hx hb hr hlocks hS (trivial) (P_app h_o (P_app h_k (P_app h_f (P_app h_s (P_app h_t h_u))))) dX3_setStuckBit_9
set_option maxRecDepth 20000 in
theorem inX3_addOut_3 : ∀ w ∈ u_ws RX3 TX3 8, w ∈ wsX3_addOut := by decide +kernel
set_option maxHeartbeats 4000000 in
set_option maxRecDepth 100000 in
/-- Net.addOut -/
theorem c_X3_addOut (l : Launch) (G : GG) (a : Nat → Nat) (ha : Inj a) (j : Nat) (N : NT) (k : Nat) (ho : nO N < 16) : Met l yX3_addOut wsX3_addOut ({ frames := 1, cells := 0, slots := 0, locals := 22 } : Room) (PcB G [.ref (a j), .int (nI k)] (fun H => PP G (netW G a j N) H)) (QI (fun (r : Int32) (_ : Unit) => r = nI (nO N)) (fun _ H => PP G (netW G a j (addO N k)) H) (rng a j 11)) 0 0 (rng a j 11) := by
  refine Met.ofW (cc := cX3_addOut) (maxL := 3) (ret := (some .int)) (by decide) rfl ?_
  intro p e s m args below meth c s₁ B hml hv
  obtain ⟨rfl, hB, hK, hNW⟩ := hv
  have hx := B.exec
  have hb := B.bytes
  have hr := B.returns
  have hts := atoms_spec (ws := wsX3_addOut) B.pre
  have hown : s.vm.findClass RX3 = some m.cls := findClass_of_methodNamed B.named
  have hlocks := B.notSynchronized
  have FX : CallFix p m c cX3_addOut 3 s ([.ref (a j), .int (nI k)] : List Value).toArray wsX3_addOut RX3 := ⟨hx, hb, hml, hown, hts⟩
  have hl := lv_entry ([.ref (a j), .int (nI k)]) (n := 3) (Nat.le_of_ble_eq_true rfl)
  rw [lg_entry_eq]
  generalize (lg_sl ([.ref (a j), .int (nI k)]) ++ List.replicate (3 - (lg_sl ([.ref (a j), .int (nI k)])).length) Slot.unset).toArray = ls at hl ⊢
  have hl : lv_has ls 3 [(0, .ref (a j)), (1, .int (nI k))] := hl
  have h_o : PP G ([(a j, .inr (3, [.ref (a (j + 1)), .ref (a (j + 3)), .ref (a (j + 5)), .ref (a (j + 7)), .ref (a (j + 9)), .int (nI (nG N)), .int (nI (nIn N)), .int (nI (nO N))]))]) s.heap := va_P.sub hB [0] rfl
  have h_k : PP G (rowW G a (j + 1) 120 (fun z => nI (nK N z))) s.heap := va_P.sub hB [1, 2] rfl
  have h_f : PP G (rowW G a (j + 3) 120 (fun z => nI (nF N z))) s.heap := va_P.sub hB [3, 4] rfl
  have h_s : PP G (rowW G a (j + 5) 120 (fun z => nI (nS N z))) s.heap := va_P.sub hB [5, 6] rfl
  have h_t : PP G (rowW G a (j + 7) 120 (nT N)) s.heap := va_P.sub hB [7, 8] rfl
  have h_u : PP G (rowW G a (j + 9) 16 (fun z => nI (nU N z))) s.heap := va_P.sub hB [9, 10] rfl
  have hS : va_S (rng a j 11) s.heap s.heap [] := va_S.rf
  refine lv_aload_n hx hb dX3_addOut_0 rfl (lv_at hl 0 rfl) ?_
  refine va_get (D := G.1) (ci := 3) (v := .int (nI (nO N))) (C := RX3) (T := TX3) (N := 8) hx hb hts inX3_addOut_3 hown hK h_o 0 rfl rfl 7 (by decide) (hts (.fieldLink RX3 39 "GateLedger$Net" "outTotal" "I") (List.mem_of_getElem? (i := 1) (by decide +kernel))) (fun _ h9 => h9) rfl dX3_addOut_1 ?_
  refine lv_istore_n (lv' := [(2, .int (nI (nO N))), (0, .ref (a j)), (1, .int (nI k))]) hx hb dX3_addOut_4 rfl hl (by decide) rfl (fun ls hl => ?_)
  refine lv_aload_n hx hb dX3_addOut_5 rfl (lv_at hl 1 rfl) ?_
  refine va_get (D := G.1) (ci := 3) (v := .ref (a (j + 9))) (C := RX3) (T := TX3) (N := 8) hx hb hts inX3_addOut_3 hown hK h_o 0 rfl rfl 4 (by decide) (hts (.fieldLink RX3 29 "GateLedger$Net" "outs" "LGateLedger$Row;") (List.mem_of_getElem? (i := 2) (by decide +kernel))) (fun _ h9 => h9) rfl dX3_addOut_6 ?_
  refine lv_iload_n hx hb dX3_addOut_9 rfl (lv_at hl 0 rfl) ?_
  refine lv_iload_n hx hb dX3_addOut_10 rfl (lv_at hl 2 rfl) ?_
  refine wr_v (va_runV (As := [.int (nI (nO N)), .int (nI k)]) (rest := []) FX (c_X4_put l G a ha (j + 9) 16 (fun z => nI (nU N z)) (nI (nO N)) (nI k) (by decide)) (cwV 2 hts gX3_addOut_X4_put rfl rfl rfl (by decide +kernel) ⟨Nat.le_of_ble_eq_true rfl, Nat.le_of_ble_eq_true rfl⟩) (preV hK hNW h_u (va_recv hK h_u (ci := 4) (q0 := 0) rfl rfl)) rfl rfl hl.1 rfl (lv_room (Nat.le_of_ble_eq_true rfl)) dX3_addOut_11 ⟨Nat.le_of_ble_eq_true rfl, Nat.le_of_ble_eq_true rfl⟩) hS (rng_sub (by omega)) (fun _ H locs _ hP9 hk1 hS => ?_)
  rw [rowPut_in (by omega) (by decide)] at hP9
  rw [upd_un] at hP9
  have h_u : PP G (rowW G a (j + 9) 16 (fun z => nI (un (nU N) (nO N) k z))) H := hP9
  have h_o : PP G ([(a j, .inr (3, [.ref (a (j + 1)), .ref (a (j + 3)), .ref (a (j + 5)), .ref (a (j + 7)), .ref (a (j + 9)), .int (nI (nG N)), .int (nI (nIn N)), .int (nI (nO N))]))]) H := kp hk1 h_o (dj_cons (rng_no ha (by omega)) (dj_nil))
  have h_k : PP G (rowW G a (j + 1) 120 (fun z => nI (nK N z))) H := kp hk1 h_k (dj_cons (rng_no ha (by omega)) (dj_cons (rng_no ha (by omega)) (dj_nil)))
  have h_f : PP G (rowW G a (j + 3) 120 (fun z => nI (nF N z))) H := kp hk1 h_f (dj_cons (rng_no ha (by omega)) (dj_cons (rng_no ha (by omega)) (dj_nil)))
  have h_s : PP G (rowW G a (j + 5) 120 (fun z => nI (nS N z))) H := kp hk1 h_s (dj_cons (rng_no ha (by omega)) (dj_cons (rng_no ha (by omega)) (dj_nil)))
  have h_t : PP G (rowW G a (j + 7) 120 (nT N)) H := kp hk1 h_t (dj_cons (rng_no ha (by omega)) (dj_cons (rng_no ha (by omega)) (dj_nil)))
  refine lv_aload_n hx hb dX3_addOut_14 rfl (lv_at hl 1 rfl) ?_
  refine lv_dup hx hb dX3_addOut_15 rfl ?_
  refine va_get (D := G.1) (ci := 3) (v := .int (nI (nO N))) (C := RX3) (T := TX3) (N := 8) hx hb hts inX3_addOut_3 hown hK h_o 0 rfl rfl 7 (by decide) (hts (.fieldLink RX3 39 "GateLedger$Net" "outTotal" "I") (List.mem_of_getElem? (i := 1) (by decide +kernel))) (fun _ h9 => h9) rfl dX3_addOut_16 ?_
  refine lv_iconst (v := nI 1) hx hb dX3_addOut_19 (by decide) ?_
  refine lv_iadd hx hb dX3_addOut_20 ?_
  refine lv_as (nI_add _ _) ?_
  refine pp_put (ci := 3) (v := .int (nI ((nO N) + 1))) (ty := .int) (C := RX3) (T := TX3) (N := 8) hx hb hts inX3_addOut_3 tyX3 tyX3_ok nmX3 hown hK h_o hS (rng_in (by omega)) rfl 7 (by decide) (hts (.fieldLink RX3 39 "GateLedger$Net" "outTotal" "I") (List.mem_of_getElem? (i := 1) (by decide +kernel))) (fun _ h9 => h9) rfl (by decide +kernel) rfl rfl (Nat.le_of_ble_eq_true rfl) dX3_addOut_21 (fun H locs hP9 hk3 _ hS => ?_)
  have h_o : PP G ([(a j, .inr (3, [.ref (a (j + 1)), .ref (a (j + 3)), .ref (a (j + 5)), .ref (a (j + 7)), .ref (a (j + 9)), .int (nI (nG N)), .int (nI (nIn N)), .int (nI ((nO N) + 1))]))]) H := hP9
  have h_k : PP G (rowW G a (j + 1) 120 (fun z => nI (nK N z))) H := kp hk3 h_k (dj_cons (ne_a ha (by omega)) (dj_cons (ne_a ha (by omega)) (dj_nil)))
  have h_f : PP G (rowW G a (j + 3) 120 (fun z => nI (nF N z))) H := kp hk3 h_f (dj_cons (ne_a ha (by omega)) (dj_cons (ne_a ha (by omega)) (dj_nil)))
  have h_s : PP G (rowW G a (j + 5) 120 (fun z => nI (nS N z))) H := kp hk3 h_s (dj_cons (ne_a ha (by omega)) (dj_cons (ne_a ha (by omega)) (dj_nil)))
  have h_t : PP G (rowW G a (j + 7) 120 (nT N)) H := kp hk3 h_t (dj_cons (ne_a ha (by omega)) (dj_cons (ne_a ha (by omega)) (dj_nil)))
  have h_u : PP G (rowW G a (j + 9) 16 (fun z => nI (un (nU N) (nO N) k z))) H := kp hk3 h_u (dj_cons (ne_a ha (by omega)) (dj_cons (ne_a ha (by omega)) (dj_nil)))
  refine lv_iload_n hx hb dX3_addOut_24 rfl (lv_at hl 0 rfl) ?_
  exact en_wi () hx hb hr hlocks hS (rfl) (P_app h_o (P_app h_k (P_app h_f (P_app h_s (P_app h_t h_u))))) dX3_addOut_25
set_option maxRecDepth 20000 in
theorem inX3_removeAll_3 : ∀ w ∈ u_ws RX3 TX3 8, w ∈ wsX3_removeAll := by decide +kernel
set_option maxHeartbeats 4000000 in
set_option maxRecDepth 100000 in
/-- Net.removeAll -/
theorem c_X3_removeAll (l : Launch) (G : GG) (a : Nat → Nat) (ha : Inj a) (j : Nat) (N : NT)  : Met l yX3_removeAll wsX3_removeAll ({ frames := 0, cells := 0, slots := 0, locals := 0 } : Room) (PcB G [.ref (a j)] (fun H => PP G (netW G a j N) H)) (QV (fun _ : Unit => True) (fun _ H => PP G (netW G a j (clrN N)) H) (rng a j 11)) 0 0 (rng a j 11) := by
  refine Met.ofW (cc := cX3_removeAll) (maxL := 1) (ret := none) (by decide) rfl ?_
  intro p e s m args below meth c s₁ B hml hv
  obtain ⟨rfl, hB, hK, hNW⟩ := hv
  have hx := B.exec
  have hb := B.bytes
  have hr := B.returns
  have hts := atoms_spec (ws := wsX3_removeAll) B.pre
  have hown : s.vm.findClass RX3 = some m.cls := findClass_of_methodNamed B.named
  have hlocks := B.notSynchronized
  have FX : CallFix p m c cX3_removeAll 1 s ([.ref (a j)] : List Value).toArray wsX3_removeAll RX3 := ⟨hx, hb, hml, hown, hts⟩
  have hl := lv_entry ([.ref (a j)]) (n := 1) (Nat.le_of_ble_eq_true rfl)
  rw [lg_entry_eq]
  generalize (lg_sl ([.ref (a j)]) ++ List.replicate (1 - (lg_sl ([.ref (a j)])).length) Slot.unset).toArray = ls at hl ⊢
  have hl : lv_has ls 1 [(0, .ref (a j))] := hl
  have h_o : PP G ([(a j, .inr (3, [.ref (a (j + 1)), .ref (a (j + 3)), .ref (a (j + 5)), .ref (a (j + 7)), .ref (a (j + 9)), .int (nI (nG N)), .int (nI (nIn N)), .int (nI (nO N))]))]) s.heap := va_P.sub hB [0] rfl
  have h_k : PP G (rowW G a (j + 1) 120 (fun z => nI (nK N z))) s.heap := va_P.sub hB [1, 2] rfl
  have h_f : PP G (rowW G a (j + 3) 120 (fun z => nI (nF N z))) s.heap := va_P.sub hB [3, 4] rfl
  have h_s : PP G (rowW G a (j + 5) 120 (fun z => nI (nS N z))) s.heap := va_P.sub hB [5, 6] rfl
  have h_t : PP G (rowW G a (j + 7) 120 (nT N)) s.heap := va_P.sub hB [7, 8] rfl
  have h_u : PP G (rowW G a (j + 9) 16 (fun z => nI (nU N z))) s.heap := va_P.sub hB [9, 10] rfl
  have hS : va_S (rng a j 11) s.heap s.heap [] := va_S.rf
  refine lv_aload_n hx hb dX3_removeAll_0 rfl (lv_at hl 0 rfl) ?_
  refine lv_iconst (v := nI 0) hx hb dX3_removeAll_1 (by decide) ?_
  refine pp_put (ci := 3) (v := .int (nI 0)) (ty := .int) (C := RX3) (T := TX3) (N := 8) hx hb hts inX3_removeAll_3 tyX3 tyX3_ok nmX3 hown hK h_o hS (rng_in (by omega)) rfl 5 (by decide) (hts (.fieldLink RX3 32 "GateLedger$Net" "gateTotal" "I") (List.mem_of_getElem? (i := 1) (by decide +kernel))) (fun _ h9 => h9) rfl (by decide +kernel) rfl rfl (Nat.le_of_ble_eq_true rfl) dX3_removeAll_2 (fun H locs hP9 hk1 _ hS => ?_)
  have h_o : PP G ([(a j, .inr (3, [.ref (a (j + 1)), .ref (a (j + 3)), .ref (a (j + 5)), .ref (a (j + 7)), .ref (a (j + 9)), .int (nI 0), .int (nI (nIn N)), .int (nI (nO N))]))]) H := hP9
  have h_k : PP G (rowW G a (j + 1) 120 (fun z => nI (nK N z))) H := kp hk1 h_k (dj_cons (ne_a ha (by omega)) (dj_cons (ne_a ha (by omega)) (dj_nil)))
  have h_f : PP G (rowW G a (j + 3) 120 (fun z => nI (nF N z))) H := kp hk1 h_f (dj_cons (ne_a ha (by omega)) (dj_cons (ne_a ha (by omega)) (dj_nil)))
  have h_s : PP G (rowW G a (j + 5) 120 (fun z => nI (nS N z))) H := kp hk1 h_s (dj_cons (ne_a ha (by omega)) (dj_cons (ne_a ha (by omega)) (dj_nil)))
  have h_t : PP G (rowW G a (j + 7) 120 (nT N)) H := kp hk1 h_t (dj_cons (ne_a ha (by omega)) (dj_cons (ne_a ha (by omega)) (dj_nil)))
  have h_u : PP G (rowW G a (j + 9) 16 (fun z => nI (nU N z))) H := kp hk1 h_u (dj_cons (ne_a ha (by omega)) (dj_cons (ne_a ha (by omega)) (dj_nil)))
  refine lv_aload_n hx hb dX3_removeAll_5 rfl (lv_at hl 0 rfl) ?_
  refine lv_iconst (v := nI 0) hx hb dX3_removeAll_6 (by decide) ?_
  refine pp_put (ci := 3) (v := .int (nI 0)) (ty := .int) (C := RX3) (T := TX3) (N := 8) hx hb hts inX3_removeAll_3 tyX3 tyX3_ok nmX3 hown hK h_o hS (rng_in (by omega)) rfl 6 (by decide) (hts (.fieldLink RX3 36 "GateLedger$Net" "inputTotal" "I") (List.mem_of_getElem? (i := 2) (by decide +kernel))) (fun _ h9 => h9) rfl (by decide +kernel) rfl rfl (Nat.le_of_ble_eq_true rfl) dX3_removeAll_7 (fun H locs hP9 hk2 _ hS => ?_)
  have h_o : PP G ([(a j, .inr (3, [.ref (a (j + 1)), .ref (a (j + 3)), .ref (a (j + 5)), .ref (a (j + 7)), .ref (a (j + 9)), .int (nI 0), .int (nI 0), .int (nI (nO N))]))]) H := hP9
  have h_k : PP G (rowW G a (j + 1) 120 (fun z => nI (nK N z))) H := kp hk2 h_k (dj_cons (ne_a ha (by omega)) (dj_cons (ne_a ha (by omega)) (dj_nil)))
  have h_f : PP G (rowW G a (j + 3) 120 (fun z => nI (nF N z))) H := kp hk2 h_f (dj_cons (ne_a ha (by omega)) (dj_cons (ne_a ha (by omega)) (dj_nil)))
  have h_s : PP G (rowW G a (j + 5) 120 (fun z => nI (nS N z))) H := kp hk2 h_s (dj_cons (ne_a ha (by omega)) (dj_cons (ne_a ha (by omega)) (dj_nil)))
  have h_t : PP G (rowW G a (j + 7) 120 (nT N)) H := kp hk2 h_t (dj_cons (ne_a ha (by omega)) (dj_cons (ne_a ha (by omega)) (dj_nil)))
  have h_u : PP G (rowW G a (j + 9) 16 (fun z => nI (nU N z))) H := kp hk2 h_u (dj_cons (ne_a ha (by omega)) (dj_cons (ne_a ha (by omega)) (dj_nil)))
  refine lv_aload_n hx hb dX3_removeAll_10 rfl (lv_at hl 0 rfl) ?_
  refine lv_iconst (v := nI 0) hx hb dX3_removeAll_11 (by decide) ?_
  refine pp_put (ci := 3) (v := .int (nI 0)) (ty := .int) (C := RX3) (T := TX3) (N := 8) hx hb hts inX3_removeAll_3 tyX3 tyX3_ok nmX3 hown hK h_o hS (rng_in (by omega)) rfl 7 (by decide) (hts (.fieldLink RX3 39 "GateLedger$Net" "outTotal" "I") (List.mem_of_getElem? (i := 3) (by decide +kernel))) (fun _ h9 => h9) rfl (by decide +kernel) rfl rfl (Nat.le_of_ble_eq_true rfl) dX3_removeAll_12 (fun H locs hP9 hk3 _ hS => ?_)
  have h_o : PP G ([(a j, .inr (3, [.ref (a (j + 1)), .ref (a (j + 3)), .ref (a (j + 5)), .ref (a (j + 7)), .ref (a (j + 9)), .int (nI 0), .int (nI 0), .int (nI 0)]))]) H := hP9
  have h_k : PP G (rowW G a (j + 1) 120 (fun z => nI (nK N z))) H := kp hk3 h_k (dj_cons (ne_a ha (by omega)) (dj_cons (ne_a ha (by omega)) (dj_nil)))
  have h_f : PP G (rowW G a (j + 3) 120 (fun z => nI (nF N z))) H := kp hk3 h_f (dj_cons (ne_a ha (by omega)) (dj_cons (ne_a ha (by omega)) (dj_nil)))
  have h_s : PP G (rowW G a (j + 5) 120 (fun z => nI (nS N z))) H := kp hk3 h_s (dj_cons (ne_a ha (by omega)) (dj_cons (ne_a ha (by omega)) (dj_nil)))
  have h_t : PP G (rowW G a (j + 7) 120 (nT N)) H := kp hk3 h_t (dj_cons (ne_a ha (by omega)) (dj_cons (ne_a ha (by omega)) (dj_nil)))
  have h_u : PP G (rowW G a (j + 9) 16 (fun z => nI (nU N z))) H := kp hk3 h_u (dj_cons (ne_a ha (by omega)) (dj_cons (ne_a ha (by omega)) (dj_nil)))
  exact en_wv () hx hb hr hlocks hS (trivial) (P_app h_o (P_app h_k (P_app h_f (P_app h_s (P_app h_t h_u))))) dX3_removeAll_15
set_option maxRecDepth 20000 in
theorem inX3_addInput_3 : ∀ w ∈ u_ws RX3 TX3 8, w ∈ wsX3_addInput := by decide +kernel
set_option maxHeartbeats 4000000 in
set_option maxRecDepth 100000 in
/-- Net.addInput -/
theorem c_X3_addInput (l : Launch) (G : GG) (a : Nat → Nat) (ha : Inj a) (j : Nat) (N : NT) (hg : nG N < 120) : Met l yX3_addInput wsX3_addInput ({ frames := 2, cells := 0, slots := 0, locals := 46 } : Room) (PcB G [.ref (a j)] (fun H => PP G (netW G a j N) H)) (QI (fun (r : Int32) (_ : Unit) => r = nI (nG N)) (fun _ H => PP G (netW G a j (addI N)) H) (rng a j 11)) 0 0 (rng a j 11) := by
  refine Met.ofW (cc := cX3_addInput) (maxL := 1) (ret := (some .int)) (by decide) rfl ?_
  intro p e s m args below meth c s₁ B hml hv
  obtain ⟨rfl, hB, hK, hNW⟩ := hv
  have hx := B.exec
  have hb := B.bytes
  have hr := B.returns
  have hts := atoms_spec (ws := wsX3_addInput) B.pre
  have hown : s.vm.findClass RX3 = some m.cls := findClass_of_methodNamed B.named
  have hlocks := B.notSynchronized
  have FX : CallFix p m c cX3_addInput 1 s ([.ref (a j)] : List Value).toArray wsX3_addInput RX3 := ⟨hx, hb, hml, hown, hts⟩
  have hl := lv_entry ([.ref (a j)]) (n := 1) (Nat.le_of_ble_eq_true rfl)
  rw [lg_entry_eq]
  generalize (lg_sl ([.ref (a j)]) ++ List.replicate (1 - (lg_sl ([.ref (a j)])).length) Slot.unset).toArray = ls at hl ⊢
  have hl : lv_has ls 1 [(0, .ref (a j))] := hl
  have h_o := P_app1 hB
  have h_r : PP G (netR G a j N) s.heap := P_app2 hB
  have hS : va_S (rng a j 11) s.heap s.heap [] := va_S.rf
  refine lv_aload_n hx hb dX3_addInput_0 rfl (lv_at hl 0 rfl) ?_
  refine lv_dup hx hb dX3_addInput_1 rfl ?_
  refine va_get (D := G.1) (ci := 3) (v := .int (nI (nIn N))) (C := RX3) (T := TX3) (N := 8) hx hb hts inX3_addInput_3 hown hK h_o 0 rfl rfl 6 (by decide) (hts (.fieldLink RX3 36 "GateLedger$Net" "inputTotal" "I") (List.mem_of_getElem? (i := 1) (by decide +kernel))) (fun _ h9 => h9) rfl dX3_addInput_2 ?_
  refine lv_iconst (v := nI 1) hx hb dX3_addInput_5 (by decide) ?_
  refine lv_iadd hx hb dX3_addInput_6 ?_
  refine lv_as (nI_add _ _) ?_
  refine pp_put (ci := 3) (v := .int (nI ((nIn N) + 1))) (ty := .int) (C := RX3) (T := TX3) (N := 8) hx hb hts inX3_addInput_3 tyX3 tyX3_ok nmX3 hown hK h_o hS (rng_in (by omega)) rfl 6 (by decide) (hts (.fieldLink RX3 36 "GateLedger$Net" "inputTotal" "I") (List.mem_of_getElem? (i := 1) (by decide +kernel))) (fun _ h9 => h9) rfl (by decide +kernel) rfl rfl (Nat.le_of_ble_eq_true rfl) dX3_addInput_7 (fun H locs hP9 hk1 _ hS => ?_)
  have h_o : PP G ([(a j, .inr (3, [.ref (a (j + 1)), .ref (a (j + 3)), .ref (a (j + 5)), .ref (a (j + 7)), .ref (a (j + 9)), .int (nI (nG N)), .int (nI ((nIn N) + 1)), .int (nI (nO N))]))]) H := hP9
  have h_r : PP G (netR G a j N) H := kp hk1 h_r (dj_one ha (netR_in (G := G) (a := a) (j := j) (N := N)) (by omega))
  refine lv_aload_n hx hb dX3_addInput_10 rfl (lv_at hl 0 rfl) ?_
  refine lv_iconst (v := nI 4) hx hb dX3_addInput_11 (by decide) ?_
  refine lv_iconst (v := nI 0) hx hb dX3_addInput_12 (by decide) ?_
  refine lv_iconst (v := nI 0) hx hb dX3_addInput_13 (by decide) ?_
  refine wr_i (va_runV (As := [.int (nI 4), .int (nI 0), .int (nI 0)]) (rest := []) FX (c_X3_add l G a ha j (incI N) 4 0 0 hg) (cwV 3 hts gX3_addInput_X3_add rfl rfl rfl (by decide +kernel) ⟨Nat.le_of_ble_eq_true rfl, Nat.le_of_ble_eq_true rfl⟩) (preV hK hNW (P_app h_o h_r) (va_recv hK h_o (ci := 3) (q0 := 0) rfl rfl)) rfl rfl hl.1 rfl (lv_room (Nat.le_of_ble_eq_true rfl)) dX3_addInput_14 ⟨Nat.le_of_ble_eq_true rfl, Nat.le_of_ble_eq_true rfl⟩) hS (rng_sub (by omega)) (fun rr _ H locs er hP9 hk2 hS => ?_)
  have h_o : PP G (netO a j (nG N + 1) (nIn N + 1) (nO N)) H := P_app1 hP9
  have h_r : PP G (netR G a j (addI N)) H := P_app2 hP9
  exact en_wi () hx hb hr hlocks hS (er) (P_app h_o h_r) dX3_addInput_17
set_option maxHeartbeats 4000000 in
set_option maxRecDepth 100000 in
/-- Net.addJoined -/
theorem c_X3_addJoined (l : Launch) (G : GG) (a : Nat → Nat) (ha : Inj a) (j : Nat) (N : NT) (kd f sc : Nat) (y : Int32) (hkd : kd < 2 ^ 31) (hy : kd ≠ 3 → y = nI sc) (hg : nG N < 120) : Met l yX3_addJoined wsX3_addJoined ({ frames := 2, cells := 0, slots := 0, locals := 46 } : Room) (PcB G [.ref (a j), .int (nI kd), .int (nI f), .int y] (fun H => PP G (netW G a j N) H)) (QI (fun (r : Int32) (_ : Unit) => r = nI (nG N)) (fun _ H => PP G (netW G a j (addG N kd f (if kd = 3 then f else sc))) H) (rng a j 11)) 0 0 (rng a j 11) := by
  refine Met.ofW (cc := cX3_addJoined) (maxL := 4) (ret := (some .int)) (by decide) rfl ?_
  intro p e s m args below meth c s₁ B hml hv
  obtain ⟨rfl, hB, hK, hNW⟩ := hv
  have hx := B.exec
  have hb := B.bytes
  have hr := B.returns
  have hts := atoms_spec (ws := wsX3_addJoined) B.pre
  have hown : s.vm.findClass RX3 = some m.cls := findClass_of_methodNamed B.named
  have hlocks := B.notSynchronized
  have FX : CallFix p m c cX3_addJoined 4 s ([.ref (a j), .int (nI kd), .int (nI f), .int y] : List Value).toArray wsX3_addJoined RX3 := ⟨hx, hb, hml, hown, hts⟩
  have hl := lv_entry ([.ref (a j), .int (nI kd), .int (nI f), .int y]) (n := 4) (Nat.le_of_ble_eq_true rfl)
  rw [lg_entry_eq]
  generalize (lg_sl ([.ref (a j), .int (nI kd), .int (nI f), .int y]) ++ List.replicate (4 - (lg_sl ([.ref (a j), .int (nI kd), .int (nI f), .int y])).length) Slot.unset).toArray = ls at hl ⊢
  have hl : lv_has ls 4 [(0, .ref (a j)), (1, .int (nI kd)), (2, .int (nI f)), (3, .int y)] := hl
  have h_n := hB
  have hS : va_S (rng a j 11) s.heap s.heap [] := va_S.rf
  refine lv_aload_n hx hb dX3_addJoined_0 rfl (lv_at hl 0 rfl) ?_
  refine lv_iload_n hx hb dX3_addJoined_1 rfl (lv_at hl 1 rfl) ?_
  refine lv_iload_n hx hb dX3_addJoined_2 rfl (lv_at hl 2 rfl) ?_
  refine lv_iload_n hx hb dX3_addJoined_3 rfl (lv_at hl 1 rfl) ?_
  refine lv_iconst (v := nI 3) hx hb dX3_addJoined_4 (by decide) ?_
  refine lv_icmp_ne (tgt := 12) hx hb dX3_addJoined_5 (by decide) (fun c5 => ?_) (fun c5 => ?_)
  · skip
    have c5 := cv_ne hkd (by decide) c5
    have e9 := hy c5
    subst e9
    refine lv_iload_n hx hb dX3_addJoined_12 rfl (lv_at hl 3 rfl) ?_
    refine wr_i (va_runV (As := [.int (nI kd), .int (nI f), .int (nI sc)]) (rest := []) FX (c_X3_add l G a ha j N kd f sc hg) (cwV 3 hts gX3_addJoined_X3_add rfl rfl rfl (by decide +kernel) ⟨Nat.le_of_ble_eq_true rfl, Nat.le_of_ble_eq_true rfl⟩) (preV hK hNW h_n (va_recv hK h_n (ci := 3) (q0 := 0) rfl rfl)) rfl rfl hl.1 rfl (lv_room (Nat.le_of_ble_eq_true rfl)) dX3_addJoined_13 ⟨Nat.le_of_ble_eq_true rfl, Nat.le_of_ble_eq_true rfl⟩) hS (rng_sub (by omega)) (fun rr _ H locs er hP9 hk1 hS => ?_)
    have h_n : PP G (netW G a j (addG N kd f sc)) H := hP9
    exact en_wi () hx hb hr hlocks hS (er) (by show PP G (netW G a j (addG N kd f (if kd = 3 then f else sc))) _; first | (rw [if_pos c5]; exact h_n) | (rw [if_neg c5]; exact h_n)) dX3_addJoined_16
  · skip
    have c5 := cv_eq hkd (by decide) c5
    refine lv_iload_n hx hb dX3_addJoined_8 rfl (lv_at hl 2 rfl) ?_
    refine lv_goto (tgt := 13) hx hb dX3_addJoined_9 (by decide) ?_
    refine wr_i (va_runV (As := [.int (nI kd), .int (nI f), .int (nI f)]) (rest := []) FX (c_X3_add l G a ha j N kd f f hg) (cwV 3 hts gX3_addJoined_X3_add rfl rfl rfl (by decide +kernel) ⟨Nat.le_of_ble_eq_true rfl, Nat.le_of_ble_eq_true rfl⟩) (preV hK hNW h_n (va_recv hK h_n (ci := 3) (q0 := 0) rfl rfl)) rfl rfl hl.1 rfl (lv_room (Nat.le_of_ble_eq_true rfl)) dX3_addJoined_13 ⟨Nat.le_of_ble_eq_true rfl, Nat.le_of_ble_eq_true rfl⟩) hS (rng_sub (by omega)) (fun rr _ H locs er hP9 hk3 hS => ?_)
    have h_n : PP G (netW G a j (addG N kd f f)) H := hP9
    exact en_wi () hx hb hr hlocks hS (er) (by show PP G (netW G a j (addG N kd f (if kd = 3 then f else sc))) _; first | (rw [if_pos c5]; exact h_n) | (rw [if_neg c5]; exact h_n)) dX3_addJoined_16
