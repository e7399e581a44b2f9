set_option maxRecDepth 20000 in
theorem inX12_half_12 : ∀ w ∈ u_ws RX12 TX12 23, w ∈ wsX12_half := by decide +kernel
set_option maxHeartbeats 4000000 in
set_option maxRecDepth 100000 in
/-- half -/
theorem c_X12_half (l : Launch) (G : GG) (a : Nat → Nat) (ha : Inj a) (cy th : Int32) (Ns : Nat → NT) (z : Nat) (N : NT) (fs sc : FN) (p1 q1 : Nat) (hz : z < 4) (hg : nG N + 2 ≤ 120) (hFS : FS (upN Ns z N) fs sc)  : Met l yX12_half wsX12_half ({ frames := 1, cells := 0, slots := 0, locals := 25 } : Room) (PcB G [.ref (a 93), .int (nI z), .int (nI p1), .int (nI q1)] (fun H => PP G (modO a cy th) H ∧ PP G (sixW G a (upN Ns z N) fs sc) H)) (QI (fun (r : Int32) (u : FN × FN) => r = nI (nG N) ∧ FS (upN Ns z (hfN N p1 q1)) u.1 u.2) (fun u H => PP G (modO a (nI (nG N + 1)) th) H ∧ PP G (sixW G a (upN Ns z (hfN N p1 q1)) u.1 u.2) H) (rng a 93 7)) 0 0 (rng a 93 7) := by
  refine Met.ofW (cc := cX12_half) (maxL := 5) (ret := (some .int)) (by decide) rfl ?_
  intro p e s m args below meth c s₁ B hml hv
  obtain ⟨rfl, hB, hK, hNW⟩ := hv
  have hx := B.exec
  have hb := B.bytes
  have hr := B.returns
  have hts := atoms_spec (ws := wsX12_half) B.pre
  have hown : s.vm.findClass RX12 = some m.cls := findClass_of_methodNamed B.named
  have hlocks := B.notSynchronized
  have FX : CallFix p m c cX12_half 5 s ([.ref (a 93), .int (nI z), .int (nI p1), .int (nI q1)] : List Value).toArray wsX12_half RX12 := ⟨hx, hb, hml, hown, hts⟩
  have hl := lv_entry ([.ref (a 93), .int (nI z), .int (nI p1), .int (nI q1)]) (n := 5) (Nat.le_of_ble_eq_true rfl)
  rw [lg_entry_eq]
  generalize (lg_sl ([.ref (a 93), .int (nI z), .int (nI p1), .int (nI q1)]) ++ List.replicate (5 - (lg_sl ([.ref (a 93), .int (nI z), .int (nI p1), .int (nI q1)])).length) Slot.unset).toArray = ls at hl ⊢
  have hl : lv_has ls 5 [(0, .ref (a 93)), (1, .int (nI z)), (2, .int (nI p1)), (3, .int (nI q1))] := hl
  obtain ⟨h_o, h_x⟩ := hB
  have hS : va_S (rng a 93 7) s.heap s.heap [] := va_S.rf
  refine lv_aload_n hx hb dX12_half_0 rfl (lv_at hl 0 rfl) ?_
  refine lv_iload_n hx hb dX12_half_1 rfl (lv_at hl 1 rfl) ?_
  refine lv_iconst (v := nI 2) hx hb dX12_half_2 (by decide) ?_
  refine lv_iload_n hx hb dX12_half_3 rfl (lv_at hl 2 rfl) ?_
  refine lv_iload_n hx hb dX12_half_4 rfl (lv_at hl 3 rfl) ?_
  refine wr_i (va_runV (As := [.int (nI z), .int (nI 2), .int (nI p1), .int (nI q1)]) (rest := []) FX (c_X12_adds l G a ha cy th Ns z N fs sc 2 p1 q1 (nI q1) hz (by omega) hFS (by omega) (fun _ => rfl) (fun c => absurd c (by omega))) (cwV 4 hts gX12_half_X12_adds rfl rfl rfl (by decide +kernel) ⟨Nat.le_of_ble_eq_true rfl, Nat.le_of_ble_eq_true rfl⟩) (preV hK hNW (⟨h_o, h_x⟩) (va_recv hK h_o (ci := 12) (q0 := 0) rfl rfl)) rfl rfl hl.1 rfl (lv_room (Nat.le_of_ble_eq_true rfl)) dX12_half_5 ⟨Nat.le_of_ble_eq_true rfl, Nat.le_of_ble_eq_true rfl⟩) hS (rng_sub (by omega)) (fun rr v1 H locs ⟨er3, hF2⟩ hP9 hk4 hS => ?_)
  have h_x : PP G (sixW G a (upN Ns z (addG N 2 p1 q1)) v1.1 v1.2) H := hP9
  have h_o : PP G (modO a cy th) H := kp hk4 h_o (dj_cons (rng_no ha (by omega)) (dj_nil))
  refine lv_as (y := nI (nG N)) er3 ?_
  have her3 : nG (addG N 2 p1 q1) = nG N + 1 := rfl
  refine lv_istore (lv' := [(4, .int (nI (nG N))), (0, .ref (a 93)), (1, .int (nI z)), (2, .int (nI p1)), (3, .int (nI q1))]) hx hb dX12_half_8 hl (by decide) rfl (fun ls hl => ?_)
  refine lv_aload_n hx hb dX12_half_10 rfl (lv_at hl 1 rfl) ?_
  refine lv_aload_n hx hb dX12_half_11 rfl (lv_at hl 1 rfl) ?_
  refine lv_iload_n hx hb dX12_half_12 rfl (lv_at hl 2 rfl) ?_
  refine lv_iconst (v := nI 0) hx hb dX12_half_13 (by decide) ?_
  refine lv_iload_n hx hb dX12_half_14 rfl (lv_at hl 3 rfl) ?_
  refine lv_iload_n hx hb dX12_half_15 rfl (lv_at hl 4 rfl) ?_
  refine wr_i (va_runV (As := [.int (nI z), .int (nI 0), .int (nI p1), .int (nI q1)]) (rest := [.ref (a 93)]) FX (c_X12_adds l G a ha cy th Ns z (addG N 2 p1 q1) v1.1 v1.2 0 p1 q1 (nI q1) hz (by omega) hF2 (by omega) (fun _ => rfl) (fun c => absurd c (by omega))) (cwV 4 hts gX12_half_X12_adds rfl rfl rfl (by decide +kernel) ⟨Nat.le_of_ble_eq_true rfl, Nat.le_of_ble_eq_true rfl⟩) (preV hK hNW (⟨h_o, h_x⟩) (va_recv hK h_o (ci := 12) (q0 := 0) rfl rfl)) rfl rfl hl.1 rfl (lv_room (Nat.le_of_ble_eq_true rfl)) dX12_half_16 ⟨Nat.le_of_ble_eq_true rfl, Nat.le_of_ble_eq_true rfl⟩) hS (rng_sub (by omega)) (fun rr v6 H locs ⟨er8, hF7⟩ hP9 hk9 hS => ?_)
  have h_x : PP G (sixW G a (upN Ns z (addG (addG N 2 p1 q1) 0 p1 q1)) v6.1 v6.2) H := hP9
  have h_o : PP G (modO a cy th) H := kp hk9 h_o (dj_cons (rng_no ha (by omega)) (dj_nil))
  refine lv_as (y := nI (nG N + 1)) er8 ?_
  have her8 : nG (addG (addG N 2 p1 q1) 0 p1 q1) = nG N + 1 + 1 := rfl
  refine pp_put (ci := 12) (v := .int (nI (nG N + 1))) (ty := .int) (C := RX12) (T := TX12) (N := 23) hx hb hts inX12_half_12 tyX12 tyX12_ok nmX12 hown hK h_o hS (rng_in (by omega)) rfl 21 (by decide) (hts (.fieldLink RX12 97 "GateLedgerModel" "carry" "I") (List.mem_of_getElem? (i := 1) (by decide +kernel))) (fun _ h9 => h9) rfl (by decide +kernel) rfl rfl (Nat.le_of_ble_eq_true rfl) dX12_half_19 (fun H locs hP9 hk11 _ hS => ?_)
  have h_o : PP G (modO a (nI (nG N + 1)) th) H := hP9
  have h_x : PP G (sixW G a (upN Ns z (addG (addG N 2 p1 q1) 0 p1 q1)) v6.1 v6.2) H := kp hk11 h_x (dj_cons (ne_a ha (by omega)) (dj_cons (ne_a ha (by omega)) (dj_cons (ne_a ha (by omega)) (dj_cons (ne_a ha (by omega)) (dj_cons (ne_a ha (by omega)) (dj_cons (ne_a ha (by omega)) (dj_nil)))))))
  refine lv_iload hx hb dX12_half_22 (lv_at hl 0 rfl) ?_
  exact en_wi (v6.1, v6.2) hx hb hr hlocks hS (⟨rfl, hF7⟩) (⟨h_o, h_x⟩) dX12_half_24
set_option maxRecDepth 20000 in
theorem inX12_full_12 : ∀ w ∈ u_ws RX12 TX12 23, w ∈ wsX12_full := by decide +kernel
set_option maxHeartbeats 4000000 in
set_option maxRecDepth 100000 in
/-- full -/
theorem c_X12_full (l : Launch) (G : GG) (a : Nat → Nat) (ha : Inj a) (cy th : Int32) (Ns : Nat → NT) (z : Nat) (N : NT) (fs sc : FN) (p1 q1 r9 : Nat) (hz : z < 4) (hg : nG N + 5 ≤ 120) (hFS : FS (upN Ns z N) fs sc)  : Met l yX12_full wsX12_full ({ frames := 1, cells := 0, slots := 0, locals := 25 } : Room) (PcB G [.ref (a 93), .int (nI z), .int (nI p1), .int (nI q1), .int (nI r9)] (fun H => PP G (modO a cy th) H ∧ PP G (sixW G a (upN Ns z N) fs sc) H)) (QI (fun (r : Int32) (u : FN × FN) => r = nI (nG N + 1) ∧ FS (upN Ns z (fuN N p1 q1 r9)) u.1 u.2) (fun u H => PP G (modO a (nI (nG N + 4)) th) H ∧ PP G (sixW G a (upN Ns z (fuN N p1 q1 r9)) u.1 u.2) H) (rng a 93 7)) 0 0 (rng a 93 7) := by
  refine Met.ofW (cc := cX12_full) (maxL := 9) (ret := (some .int)) (by decide) rfl ?_
  intro p e s m args below meth c s₁ B hml hv
  obtain ⟨rfl, hB, hK, hNW⟩ := hv
  have hx := B.exec
  have hb := B.bytes
  have hr := B.returns
  have hts := atoms_spec (ws := wsX12_full) B.pre
  have hown : s.vm.findClass RX12 = some m.cls := findClass_of_methodNamed B.named
  have hlocks := B.notSynchronized
  have FX : CallFix p m c cX12_full 9 s ([.ref (a 93), .int (nI z), .int (nI p1), .int (nI q1), .int (nI r9)] : List Value).toArray wsX12_full RX12 := ⟨hx, hb, hml, hown, hts⟩
  have hl := lv_entry ([.ref (a 93), .int (nI z), .int (nI p1), .int (nI q1), .int (nI r9)]) (n := 9) (Nat.le_of_ble_eq_true rfl)
  rw [lg_entry_eq]
  generalize (lg_sl ([.ref (a 93), .int (nI z), .int (nI p1), .int (nI q1), .int (nI r9)]) ++ List.replicate (9 - (lg_sl ([.ref (a 93), .int (nI z), .int (nI p1), .int (nI q1), .int (nI r9)])).length) Slot.unset).toArray = ls at hl ⊢
  have hl : lv_has ls 9 [(0, .ref (a 93)), (1, .int (nI z)), (2, .int (nI p1)), (3, .int (nI q1)), (4, .int (nI r9))] := hl
  obtain ⟨h_o, h_x⟩ := hB
  have hS : va_S (rng a 93 7) s.heap s.heap [] := va_S.rf
  refine lv_aload_n hx hb dX12_full_0 rfl (lv_at hl 0 rfl) ?_
  refine lv_iload_n hx hb dX12_full_1 rfl (lv_at hl 1 rfl) ?_
  refine lv_iconst (v := nI 2) hx hb dX12_full_2 (by decide) ?_
  refine lv_iload_n hx hb dX12_full_3 rfl (lv_at hl 2 rfl) ?_
  refine lv_iload_n hx hb dX12_full_4 rfl (lv_at hl 3 rfl) ?_
  refine wr_i (va_runV (As := [.int (nI z), .int (nI 2), .int (nI p1), .int (nI q1)]) (rest := []) FX (c_X12_adds l G a ha cy th Ns z N fs sc 2 p1 q1 (nI q1) hz (by omega) hFS (by omega) (fun _ => rfl) (fun c => absurd c (by omega))) (cwV 4 hts gX12_full_X12_adds rfl rfl rfl (by decide +kernel) ⟨Nat.le_of_ble_eq_true rfl, Nat.le_of_ble_eq_true rfl⟩) (preV hK hNW (⟨h_o, h_x⟩) (va_recv hK h_o (ci := 12) (q0 := 0) rfl rfl)) rfl rfl hl.1 rfl (lv_room (Nat.le_of_ble_eq_true rfl)) dX12_full_5 ⟨Nat.le_of_ble_eq_true rfl, Nat.le_of_ble_eq_true rfl⟩) hS (rng_sub (by omega)) (fun rr v1 H locs ⟨er3, hF2⟩ hP9 hk4 hS => ?_)
  have h_x : PP G (sixW G a (upN Ns z (addG N 2 p1 q1)) v1.1 v1.2) H := hP9
  have h_o : PP G (modO a cy th) H := kp hk4 h_o (dj_cons (rng_no ha (by omega)) (dj_nil))
  refine lv_as (y := nI (nG N)) er3 ?_
  have her3 : nG (addG N 2 p1 q1) = nG N + 1 := rfl
  refine lv_istore (lv' := [(5, .int (nI (nG N))), (0, .ref (a 93)), (1, .int (nI z)), (2, .int (nI p1)), (3, .int (nI q1)), (4, .int (nI r9))]) hx hb dX12_full_8 hl (by decide) rfl (fun ls hl => ?_)
  refine lv_aload_n hx hb dX12_full_10 rfl (lv_at hl 1 rfl) ?_
  refine lv_iload_n hx hb dX12_full_11 rfl (lv_at hl 2 rfl) ?_
  refine lv_iconst (v := nI 2) hx hb dX12_full_12 (by decide) ?_
  refine lv_iload hx hb dX12_full_13 (lv_at hl 0 rfl) ?_
  refine lv_iload hx hb dX12_full_15 (lv_at hl 5 rfl) ?_
  refine wr_i (va_runV (As := [.int (nI z), .int (nI 2), .int (nI (nG N)), .int (nI r9)]) (rest := []) FX (c_X12_adds l G a ha cy th Ns z (addG N 2 p1 q1) v1.1 v1.2 2 (nG N) r9 (nI r9) hz (by omega) hF2 (by omega) (fun _ => rfl) (fun c => absurd c (by omega))) (cwV 4 hts gX12_full_X12_adds rfl rfl rfl (by decide +kernel) ⟨Nat.le_of_ble_eq_true rfl, Nat.le_of_ble_eq_true rfl⟩) (preV hK hNW (⟨h_o, h_x⟩) (va_recv hK h_o (ci := 12) (q0 := 0) rfl rfl)) rfl rfl hl.1 rfl (lv_room (Nat.le_of_ble_eq_true rfl)) dX12_full_17 ⟨Nat.le_of_ble_eq_true rfl, Nat.le_of_ble_eq_true rfl⟩) hS (rng_sub (by omega)) (fun rr v6 H locs ⟨er8, hF7⟩ hP9 hk9 hS => ?_)
  have h_x : PP G (sixW G a (upN Ns z (addG (addG N 2 p1 q1) 2 (nG N) r9)) v6.1 v6.2) H := hP9
  have h_o : PP G (modO a cy th) H := kp hk9 h_o (dj_cons (rng_no ha (by omega)) (dj_nil))
  refine lv_as (y := nI (nG N + 1)) er8 ?_
  have her8 : nG (addG (addG N 2 p1 q1) 2 (nG N) r9) = nG N + 1 + 1 := rfl
  refine lv_istore (lv' := [(6, .int (nI (nG N + 1))), (5, .int (nI (nG N))), (0, .ref (a 93)), (1, .int (nI z)), (2, .int (nI p1)), (3, .int (nI q1)), (4, .int (nI r9))]) hx hb dX12_full_20 hl (by decide) rfl (fun ls hl => ?_)
  refine lv_aload_n hx hb dX12_full_22 rfl (lv_at hl 2 rfl) ?_
  refine lv_iload_n hx hb dX12_full_23 rfl (lv_at hl 3 rfl) ?_
  refine lv_iconst (v := nI 0) hx hb dX12_full_24 (by decide) ?_
  refine lv_iload_n hx hb dX12_full_25 rfl (lv_at hl 4 rfl) ?_
  refine lv_iload_n hx hb dX12_full_26 rfl (lv_at hl 5 rfl) ?_
  refine wr_i (va_runV (As := [.int (nI z), .int (nI 0), .int (nI p1), .int (nI q1)]) (rest := []) FX (c_X12_adds l G a ha cy th Ns z (addG (addG N 2 p1 q1) 2 (nG N) r9) v6.1 v6.2 0 p1 q1 (nI q1) hz (by omega) hF7 (by omega) (fun _ => rfl) (fun c => absurd c (by omega))) (cwV 4 hts gX12_full_X12_adds rfl rfl rfl (by decide +kernel) ⟨Nat.le_of_ble_eq_true rfl, Nat.le_of_ble_eq_true rfl⟩) (preV hK hNW (⟨h_o, h_x⟩) (va_recv hK h_o (ci := 12) (q0 := 0) rfl rfl)) rfl rfl hl.1 rfl (lv_room (Nat.le_of_ble_eq_true rfl)) dX12_full_27 ⟨Nat.le_of_ble_eq_true rfl, Nat.le_of_ble_eq_true rfl⟩) hS (rng_sub (by omega)) (fun rr v11 H locs ⟨er13, hF12⟩ hP9 hk14 hS => ?_)
  have h_x : PP G (sixW G a (upN Ns z (addG (addG (addG N 2 p1 q1) 2 (nG N) r9) 0 p1 q1)) v11.1 v11.2) H := hP9
  have h_o : PP G (modO a cy th) H := kp hk14 h_o (dj_cons (rng_no ha (by omega)) (dj_nil))
  refine lv_as (y := nI (nG N + 2)) er13 ?_
  have her13 : nG (addG (addG (addG N 2 p1 q1) 2 (nG N) r9) 0 p1 q1) = nG N + 2 + 1 := rfl
  refine lv_istore (lv' := [(7, .int (nI (nG N + 2))), (6, .int (nI (nG N + 1))), (5, .int (nI (nG N))), (0, .ref (a 93)), (1, .int (nI z)), (2, .int (nI p1)), (3, .int (nI q1)), (4, .int (nI r9))]) hx hb dX12_full_30 hl (by decide) rfl (fun ls hl => ?_)
  refine lv_aload_n hx hb dX12_full_32 rfl (lv_at hl 3 rfl) ?_
  refine lv_iload_n hx hb dX12_full_33 rfl (lv_at hl 4 rfl) ?_
  refine lv_iconst (v := nI 0) hx hb dX12_full_34 (by decide) ?_
  refine lv_iload hx hb dX12_full_35 (lv_at hl 2 rfl) ?_
  refine lv_iload hx hb dX12_full_37 (lv_at hl 7 rfl) ?_
  refine wr_i (va_runV (As := [.int (nI z), .int (nI 0), .int (nI (nG N)), .int (nI r9)]) (rest := []) FX (c_X12_adds l G a ha cy th Ns z (addG (addG (addG N 2 p1 q1) 2 (nG N) r9) 0 p1 q1) v11.1 v11.2 0 (nG N) r9 (nI r9) hz (by omega) hF12 (by omega) (fun _ => rfl) (fun c => absurd c (by omega))) (cwV 4 hts gX12_full_X12_adds rfl rfl rfl (by decide +kernel) ⟨Nat.le_of_ble_eq_true rfl, Nat.le_of_ble_eq_true rfl⟩) (preV hK hNW (⟨h_o, h_x⟩) (va_recv hK h_o (ci := 12) (q0 := 0) rfl rfl)) rfl rfl hl.1 rfl (lv_room (Nat.le_of_ble_eq_true rfl)) dX12_full_39 ⟨Nat.le_of_ble_eq_true rfl, Nat.le_of_ble_eq_true rfl⟩) hS (rng_sub (by omega)) (fun rr v16 H locs ⟨er18, hF17⟩ hP9 hk19 hS => ?_)
  have h_x : PP G (sixW G a (upN Ns z (addG (addG (addG (addG N 2 p1 q1) 2 (nG N) r9) 0 p1 q1) 0 (nG N) r9)) v16.1 v16.2) H := hP9
  have h_o : PP G (modO a cy th) H := kp hk19 h_o (dj_cons (rng_no ha (by omega)) (dj_nil))
  refine lv_as (y := nI (nG N + 3)) er18 ?_
  have her18 : nG (addG (addG (addG (addG N 2 p1 q1) 2 (nG N) r9) 0 p1 q1) 0 (nG N) r9) = nG N + 3 + 1 := rfl
  refine lv_istore (lv' := [(8, .int (nI (nG N + 3))), (7, .int (nI (nG N + 2))), (6, .int (nI (nG N + 1))), (5, .int (nI (nG N))), (0, .ref (a 93)), (1, .int (nI z)), (2, .int (nI p1)), (3, .int (nI q1)), (4, .int (nI r9))]) hx hb dX12_full_42 hl (by decide) rfl (fun ls hl => ?_)
  refine lv_aload_n hx hb dX12_full_44 rfl (lv_at hl 4 rfl) ?_
  refine lv_aload_n hx hb dX12_full_45 rfl (lv_at hl 4 rfl) ?_
  refine lv_iload_n hx hb dX12_full_46 rfl (lv_at hl 5 rfl) ?_
  refine lv_iconst (v := nI 1) hx hb dX12_full_47 (by decide) ?_
  refine lv_iload hx hb dX12_full_48 (lv_at hl 1 rfl) ?_
  refine lv_iload hx hb dX12_full_50 (lv_at hl 0 rfl) ?_
  refine wr_i (va_runV (As := [.int (nI z), .int (nI 1), .int (nI (nG N + 2)), .int (nI (nG N + 3))]) (rest := [.ref (a 93)]) FX (c_X12_adds l G a ha cy th Ns z (addG (addG (addG (addG N 2 p1 q1) 2 (nG N) r9) 0 p1 q1) 0 (nG N) r9) v16.1 v16.2 1 (nG N + 2) (nG N + 3) (nI (nG N + 3)) hz (by omega) hF17 (by omega) (fun _ => rfl) (fun c => absurd c (by omega))) (cwV 4 hts gX12_full_X12_adds rfl rfl rfl (by decide +kernel) ⟨Nat.le_of_ble_eq_true rfl, Nat.le_of_ble_eq_true rfl⟩) (preV hK hNW (⟨h_o, h_x⟩) (va_recv hK h_o (ci := 12) (q0 := 0) rfl rfl)) rfl rfl hl.1 rfl (lv_room (Nat.le_of_ble_eq_true rfl)) dX12_full_52 ⟨Nat.le_of_ble_eq_true rfl, Nat.le_of_ble_eq_true rfl⟩) hS (rng_sub (by omega)) (fun rr v21 H locs ⟨er23, hF22⟩ hP9 hk24 hS => ?_)
  have h_x : PP G (sixW G a (upN Ns z (addG (addG (addG (addG (addG N 2 p1 q1) 2 (nG N) r9) 0 p1 q1) 0 (nG N) r9) 1 (nG N + 2) (nG N + 3))) v21.1 v21.2) H := hP9
  have h_o : PP G (modO a cy th) H := kp hk24 h_o (dj_cons (rng_no ha (by omega)) (dj_nil))
  refine lv_as (y := nI (nG N + 4)) er23 ?_
  have her23 : nG (addG (addG (addG (addG (addG N 2 p1 q1) 2 (nG N) r9) 0 p1 q1) 0 (nG N) r9) 1 (nG N + 2) (nG N + 3)) = nG N + 4 + 1 := rfl
  refine pp_put (ci := 12) (v := .int (nI (nG N + 4))) (ty := .int) (C := RX12) (T := TX12) (N := 23) hx hb hts inX12_full_12 tyX12 tyX12_ok nmX12 hown hK h_o hS (rng_in (by omega)) rfl 21 (by decide) (hts (.fieldLink RX12 97 "GateLedgerModel" "carry" "I") (List.mem_of_getElem? (i := 1) (by decide +kernel))) (fun _ h9 => h9) rfl (by decide +kernel) rfl rfl (Nat.le_of_ble_eq_true rfl) dX12_full_55 (fun H locs hP9 hk26 _ hS => ?_)
  have h_o : PP G (modO a (nI (nG N + 4)) th) H := hP9
  have h_x : PP G (sixW G a (upN Ns z (addG (addG (addG (addG (addG N 2 p1 q1) 2 (nG N) r9) 0 p1 q1) 0 (nG N) r9) 1 (nG N + 2) (nG N + 3))) v21.1 v21.2) H := kp hk26 h_x (dj_cons (ne_a ha (by omega)) (dj_cons (ne_a ha (by omega)) (dj_cons (ne_a ha (by omega)) (dj_cons (ne_a ha (by omega)) (dj_cons (ne_a ha (by omega)) (dj_cons (ne_a ha (by omega)) (dj_nil)))))))
  refine lv_iload hx hb dX12_full_58 (lv_at hl 2 rfl) ?_
  exact en_wi (v21.1, v21.2) hx hb hr hlocks hS (⟨rfl, hF22⟩) (⟨h_o, h_x⟩) dX12_full_60
set_option maxHeartbeats 4000000 in
set_option maxRecDepth 100000 in
/-- addsInputs -/
theorem c_X12_addsInputs (l : Launch) (G : GG) (a : Nat → Nat) (ha : Inj a) (cy th : Int32) (Ns : Nat → NT) (z : Nat) (N : NT) (fs sc : FN) (w : Nat) (hz : z < 4) (hg : nG N + 2 * w ≤ 120) (hFS : FS (upN Ns z N) fs sc)  : Met l yX12_addsInputs wsX12_addsInputs ({ frames := 1, cells := 0, slots := 0, locals := 25 } : Room) (PcB G [.ref (a 93), .int (nI z), .int (nI w)] (fun H => PP G (modO a cy th) H ∧ PP G (sixW G a (upN Ns z N) fs sc) H)) (QV (fun u : FN × FN => FS (upN Ns z (inN N (2 * w))) u.1 u.2) (fun u H => PP G (sixW G a (upN Ns z (inN N (2 * w))) u.1 u.2) H) (rng a 94 6)) 0 0 (rng a 94 6) := by
  refine Met.ofW (cc := cX12_addsInputs) (maxL := 4) (ret := none) (by decide) rfl ?_
  intro p e s m args below meth c s₁ B hml hv
  obtain ⟨rfl, hB, hK, hNW⟩ := hv
  have hx := B.exec
  have hb := B.bytes
  have hr := B.returns
  have hts := atoms_spec (ws := wsX12_addsInputs) B.pre
  have hown : s.vm.findClass RX12 = some m.cls := findClass_of_methodNamed B.named
  have hlocks := B.notSynchronized
  have FX : CallFix p m c cX12_addsInputs 4 s ([.ref (a 93), .int (nI z), .int (nI w)] : List Value).toArray wsX12_addsInputs RX12 := ⟨hx, hb, hml, hown, hts⟩
  have hl := lv_entry ([.ref (a 93), .int (nI z), .int (nI w)]) (n := 4) (Nat.le_of_ble_eq_true rfl)
  rw [lg_entry_eq]
  generalize (lg_sl ([.ref (a 93), .int (nI z), .int (nI w)]) ++ List.replicate (4 - (lg_sl ([.ref (a 93), .int (nI z), .int (nI w)])).length) Slot.unset).toArray = ls at hl ⊢
  have hl : lv_has ls 4 [(0, .ref (a 93)), (1, .int (nI z)), (2, .int (nI w))] := hl
  obtain ⟨h_o, h_x⟩ := hB
  have hS : va_S (rng a 94 6) s.heap s.heap [] := va_S.rf
  refine lv_iconst (v := nI 0) hx hb dX12_addsInputs_0 (by decide) ?_
  refine lv_istore_n (lv' := [(3, .int (nI 0)), (0, .ref (a 93)), (1, .int (nI z)), (2, .int (nI w))]) hx hb dX12_addsInputs_1 rfl hl (by decide) rfl (fun ls hl => ?_)
  refine lv_loop3 2 (fun (k : Nat) (f : FN) (g : FN) => 2 * w - k) (fun (k : Nat) (f : FN) (g : FN) (H : Heap) (locs : List Loc) (ls : Array Slot) => (PP G (sixW G a (upN Ns z (inN N k)) f g) H) ∧ (va_S (rng a 94 6) s.heap H locs) ∧ (lv_has ls 4 [(0, .ref (a 93)), (1, .int (nI z)), (2, .int (nI w)), (3, .int (nI k))]) ∧ (k ≤ 2 * w) ∧ (FS (upN Ns z (inN N k)) f g)) (fun _ _ _ => []) (fun k f g H locs ls hI ih => ?_) 0 fs sc ⟨h_x, hS, lv_sub hl [1, 2, 3, 0] rfl, by omega, hFS⟩ rfl
  obtain ⟨h_x, hS, hl, hk, hF⟩ := hI
  have ih1 := @ih
  clear ih
  have hi9 := inN_g N k
  refine lv_iload_n hx hb dX12_addsInputs_2 rfl (lv_at hl 3 rfl) ?_
  refine lv_iconst (v := nI 2) hx hb dX12_addsInputs_3 (by decide) ?_
  refine lv_iload_n hx hb dX12_addsInputs_4 rfl (lv_at hl 2 rfl) ?_
  refine lv_imul hx hb dX12_addsInputs_5 ?_
  refine lv_as (pk_mul _ _) ?_
  refine lv_icmp_ge (tgt := 24) hx hb dX12_addsInputs_6 (by decide) (fun c6 => ?_) (fun c6 => ?_)
  · skip
    have c6 := cv_le (by omega) (by omega) c6
    exact en_wv (f, g) hx hb hr hlocks hS (by rw [← show k = 2 * w by omega]; exact hF) (by rw [← show k = 2 * w by omega]; exact h_x) dX12_addsInputs_24
  · skip
    have c6 := cv_nle (by omega) (by omega) c6
    refine lv_aload_n hx hb dX12_addsInputs_9 rfl (lv_at hl 0 rfl) ?_
    refine lv_iload_n hx hb dX12_addsInputs_10 rfl (lv_at hl 1 rfl) ?_
    refine lv_iconst (v := nI 4) hx hb dX12_addsInputs_11 (by decide) ?_
    refine lv_iconst (v := -1) hx hb dX12_addsInputs_12 (by decide) ?_
    refine lv_iconst (v := -1) hx hb dX12_addsInputs_13 (by decide) ?_
    refine wr_i (va_runV (As := [.int (nI z), .int (nI 4), .int (-1), .int (-1)]) (rest := []) FX (c_X12_addsI l G a ha cy th Ns z (inN N k) f g hz (by omega) hF) (cwV 4 hts gX12_addsInputs_X12_adds rfl rfl rfl (by decide +kernel) ⟨Nat.le_of_ble_eq_true rfl, Nat.le_of_ble_eq_true rfl⟩) (preV hK hNW (⟨(ro hS h_o (dj_cons (rng_no ha (by omega)) (dj_nil))), h_x⟩) (va_recv hK (ro hS h_o (dj_cons (rng_no ha (by omega)) (dj_nil))) (ci := 12) (q0 := 0) rfl rfl)) rfl rfl hl.1 rfl (lv_room (Nat.le_of_ble_eq_true rfl)) dX12_addsInputs_14 ⟨Nat.le_of_ble_eq_true rfl, Nat.le_of_ble_eq_true rfl⟩) hS (rng_sub (by omega)) (fun rr v2 H locs ⟨er4, hF3⟩ hP9 hk5 hS => ?_)
    have h_x : PP G (sixW G a (upN Ns z (addI (inN N k))) v2.1 v2.2) H := hP9
    refine lv_pop hx hb dX12_addsInputs_17 rfl ?_
    refine lv_iinc (v := nI (k + 1)) (lv' := [(3, .int (nI (k + 1))), (0, .ref (a 93)), (1, .int (nI z)), (2, .int (nI w))]) hx hb dX12_addsInputs_18 hl (k := 3) rfl (by first | exact nI_add _ 1 | decide) (by decide) rfl (fun ls hl => ?_)
    refine lv_goto (tgt := 2) hx hb dX12_addsInputs_21 (by decide) ?_
    exact ih1 (k + 1) v2.1 v2.2 _ _ _ ⟨h_x, hS, lv_sub hl [1, 2, 3, 0] rfl, by omega, hF3⟩ (by show 2 * w - (k + 1) < 2 * w - k; omega)
