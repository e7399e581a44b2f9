set_option maxHeartbeats 4000000 in
set_option maxRecDepth 100000 in
/-- Maker.addInputs -/
theorem c_X2_addInputs (l : Launch) (G : GG) (a : Nat → Nat) (ha : Inj a) (i j : Nat) (N : NT) (w9 : Nat) (hg : nG N + 2 * w9 ≤ 120) : Met l yX2_addInputs wsX2_addInputs ({ frames := 3, cells := 0, slots := 0, locals := 66 } : Room) (PcB G [.ref (a i), .ref (a j), .int (nI w9)] (fun H => PP G (netW G a j N) H)) (QV (fun _ : Unit => True) (fun _ H => PP G (netW G a j (inN N (2 * w9))) H) (rng a j 11)) 0 0 (rng a j 11) := by
  refine Met.ofW (cc := cX2_addInputs) (maxL := 4) (ret := none) (by decide) rfl ?_
  intro p e s m args below meth c s₁ B hml hv
  obtain ⟨rfl, hB, hK, hNW⟩ := hv
  have hx := B.exec
  have hb := B.bytes
  have hr := B.returns
  have hts := atoms_spec (ws := wsX2_addInputs) B.pre
  have hown : s.vm.findClass RX2 = some m.cls := findClass_of_methodNamed B.named
  have hlocks := B.notSynchronized
  have FX : CallFix p m c cX2_addInputs 4 s ([.ref (a i), .ref (a j), .int (nI w9)] : List Value).toArray wsX2_addInputs RX2 := ⟨hx, hb, hml, hown, hts⟩
  have hl := lv_entry ([.ref (a i), .ref (a j), .int (nI w9)]) (n := 4) (Nat.le_of_ble_eq_true rfl)
  rw [lg_entry_eq]
  generalize (lg_sl ([.ref (a i), .ref (a j), .int (nI w9)]) ++ List.replicate (4 - (lg_sl ([.ref (a i), .ref (a j), .int (nI w9)])).length) Slot.unset).toArray = ls at hl ⊢
  have hl : lv_has ls 4 [(0, .ref (a i)), (1, .ref (a j)), (2, .int (nI w9))] := hl
  have h_n := hB
  have hS : va_S (rng a j 11) s.heap s.heap [] := va_S.rf
  refine lv_iconst (v := nI 0) hx hb dX2_addInputs_0 (by decide) ?_
  refine lv_istore_n (lv' := [(3, .int (nI 0)), (0, .ref (a i)), (1, .ref (a j)), (2, .int (nI w9))]) hx hb dX2_addInputs_1 rfl hl (by decide) rfl (fun ls hl => ?_)
  refine lv_loop1 2 (fun (q : Nat) => 2 * w9 - q) (fun (q : Nat) (H : Heap) (locs : List Loc) (ls : Array Slot) => (PP G (netW G a j (inN N q)) H) ∧ (va_S (rng a j 11) s.heap H locs) ∧ (lv_has ls 4 [(0, .ref (a i)), (1, .ref (a j)), (2, .int (nI w9)), (3, .int (nI q))]) ∧ (q ≤ 2 * w9)) (fun _ => []) (fun q H locs ls hI ih => ?_) 0 ⟨h_n, hS, lv_sub hl [1, 2, 3, 0] rfl, by omega⟩ rfl
  obtain ⟨h_n, hS, hl, hq⟩ := hI
  have ih1 := @ih
  clear ih
  refine lv_iload_n hx hb dX2_addInputs_2 rfl (lv_at hl 3 rfl) ?_
  refine lv_iconst (v := nI 2) hx hb dX2_addInputs_3 (by decide) ?_
  refine lv_iload_n hx hb dX2_addInputs_4 rfl (lv_at hl 2 rfl) ?_
  refine lv_imul hx hb dX2_addInputs_5 ?_
  refine lv_as (pk_mul _ _) ?_
  refine lv_icmp_ge (tgt := 20) hx hb dX2_addInputs_6 (by decide) (fun c6 => ?_) (fun c6 => ?_)
  · skip
    have c6 := cv_le (by omega) (by omega) c6
    have eq9 : q = 2 * w9 := by omega
    exact en_wv () hx hb hr hlocks hS (trivial) (eq9 ▸ h_n) dX2_addInputs_20
  · skip
    have c6 := cv_nle (by omega) (by omega) c6
    refine lv_aload_n hx hb dX2_addInputs_9 rfl (lv_at hl 1 rfl) ?_
    refine wr_i (va_runV (As := []) (rest := []) FX (c_X3_addInput l G a ha j (inN N q) (by rw [inN_g]; omega)) (cwV 0 hts gX2_addInputs_X3_addInput rfl rfl rfl (by decide +kernel) ⟨Nat.le_of_ble_eq_true rfl, Nat.le_of_ble_eq_true rfl⟩) (preV hK hNW h_n (va_recv hK h_n (ci := 3) (q0 := 0) rfl rfl)) rfl rfl hl.1 rfl (lv_room (Nat.le_of_ble_eq_true rfl)) dX2_addInputs_10 ⟨Nat.le_of_ble_eq_true rfl, Nat.le_of_ble_eq_true rfl⟩) hS (fun _ q => q) (fun rr _ H locs er hP9 hk2 hS => ?_)
    have h_n : PP G (netW G a j (inN N (q + 1))) H := hP9
    refine lv_pop hx hb dX2_addInputs_13 rfl ?_
    refine lv_iinc (v := nI (q + 1)) (lv' := [(3, .int (nI (q + 1))), (0, .ref (a i)), (1, .ref (a j)), (2, .int (nI w9))]) hx hb dX2_addInputs_14 hl (k := 3) rfl (by first | exact nI_add _ 1 | decide) (by decide) rfl (fun ls hl => ?_)
    refine lv_goto (tgt := 2) hx hb dX2_addInputs_17 (by decide) ?_
    exact ih1 (q + 1) _ _ _ ⟨h_n, hS, lv_sub hl [1, 2, 3, 0] rfl, by omega⟩ (by show 2 * w9 - (q + 1) < 2 * w9 - q; omega)
set_option maxRecDepth 20000 in
theorem inX2_addHalf_2 : ∀ w ∈ u_ws RX2 TX2 10, w ∈ wsX2_addHalf := by decide +kernel
set_option maxHeartbeats 4000000 in
set_option maxRecDepth 100000 in
/-- Maker.addHalf -/
theorem c_X2_addHalf (l : Launch) (G : GG) (a : Nat → Nat) (ha : Inj a) (i j : Nat) (hij : i + 1 ≤ j ∨ j + 11 ≤ i) (l9 s9 k9 : Int32) (N : NT) (p9 q9 : Nat) (hg : nG N < 119) : Met l yX2_addHalf wsX2_addHalf ({ frames := 3, cells := 0, slots := 0, locals := 69 } : Room) (PcB G [.ref (a i), .ref (a j), .int (nI p9), .int (nI q9)] (fun H => PP G (makO a i l9 s9 k9) H ∧ PP G (netW G a j N) H)) (QV (fun _ : Unit => True) (fun _ H => PP G (makO a i l9 (nI (nG N)) (nI (nG N + 1))) H ∧ PP G (netW G a j (hfN N p9 q9)) H) (orA (rng a i 1) (rng a j 11))) 0 0 (orA (rng a i 1) (rng a j 11)) := by
  refine Met.ofW (cc := cX2_addHalf) (maxL := 4) (ret := none) (by decide) rfl ?_
  intro p e s m args below meth c s₁ B hml hv
  obtain ⟨rfl, hB, hK, hNW⟩ := hv
  have hx := B.exec
  have hb := B.bytes
  have hr := B.returns
  have hts := atoms_spec (ws := wsX2_addHalf) B.pre
  have hown : s.vm.findClass RX2 = some m.cls := findClass_of_methodNamed B.named
  have hlocks := B.notSynchronized
  have FX : CallFix p m c cX2_addHalf 4 s ([.ref (a i), .ref (a j), .int (nI p9), .int (nI q9)] : List Value).toArray wsX2_addHalf RX2 := ⟨hx, hb, hml, hown, hts⟩
  have hl := lv_entry ([.ref (a i), .ref (a j), .int (nI p9), .int (nI q9)]) (n := 4) (Nat.le_of_ble_eq_true rfl)
  rw [lg_entry_eq]
  generalize (lg_sl ([.ref (a i), .ref (a j), .int (nI p9), .int (nI q9)]) ++ List.replicate (4 - (lg_sl ([.ref (a i), .ref (a j), .int (nI p9), .int (nI q9)])).length) Slot.unset).toArray = ls at hl ⊢
  have hl : lv_has ls 4 [(0, .ref (a i)), (1, .ref (a j)), (2, .int (nI p9)), (3, .int (nI q9))] := hl
  obtain ⟨h_o, h_n⟩ := hB
  have hS : va_S (orA (rng a i 1) (rng a j 11)) s.heap s.heap [] := va_S.rf
  refine lv_aload_n hx hb dX2_addHalf_0 rfl (lv_at hl 0 rfl) ?_
  refine lv_aload_n hx hb dX2_addHalf_1 rfl (lv_at hl 1 rfl) ?_
  refine lv_iconst (v := nI 2) hx hb dX2_addHalf_2 (by decide) ?_
  refine lv_iload_n hx hb dX2_addHalf_3 rfl (lv_at hl 2 rfl) ?_
  refine lv_iload_n hx hb dX2_addHalf_4 rfl (lv_at hl 3 rfl) ?_
  refine wr_i (va_runV (As := [.int (nI 2), .int (nI p9), .int (nI q9)]) (rest := [.ref (a i)]) FX (c_X3_addJoined l G a ha j N 2 p9 q9 (nI q9) (by decide) (fun _ => rfl) (show nG N < 120 by omega)) (cwV 3 hts gX2_addHalf_X3_addJoined rfl rfl rfl (by decide +kernel) ⟨Nat.le_of_ble_eq_true rfl, Nat.le_of_ble_eq_true rfl⟩) (preV hK hNW h_n (va_recv hK h_n (ci := 3) (q0 := 0) rfl rfl)) rfl rfl hl.1 rfl (lv_room (Nat.le_of_ble_eq_true rfl)) dX2_addHalf_5 ⟨Nat.le_of_ble_eq_true rfl, Nat.le_of_ble_eq_true rfl⟩) hS (orA_r (fun _ q => q)) (fun rr _ H locs er hP9 hk1 hS => ?_)
  have h_n : PP G (netW G a j (addG N 2 p9 q9)) H := hP9
  have h_o : PP G (makO a i l9 s9 k9) H := kp hk1 h_o (dj_cons (rng_no ha (by omega)) (dj_nil))
  refine lv_as (y := nI (nG N)) er ?_
  refine pp_put (ci := 2) (v := .int (nI (nG N))) (ty := .int) (C := RX2) (T := TX2) (N := 10) hx hb hts inX2_addHalf_2 tyX2 tyX2_ok nmX2 hown hK h_o hS (Or.inl (rng_in (by omega))) rfl 8 (by decide) (hts (.fieldLink RX2 46 "GateLedger$Maker" "sum" "I") (List.mem_of_getElem? (i := 1) (by decide +kernel))) (fun _ h9 => h9) rfl (by decide +kernel) rfl rfl (Nat.le_of_ble_eq_true rfl) dX2_addHalf_8 (fun H locs hP9 hk3 _ hS => ?_)
  have h_o : PP G ([(a i, .inr (2, [.ref (a (i + 1)), .ref (a (i + 3)), .ref (a (i + 5)), .ref (a (i + 7)), .ref (a (i + 9)), .ref (a (i + 11)), .ref (a (i + 13)), .int l9, .int (nI (nG N)), .int k9]))]) H := hP9
  have h_n : PP G (netW G a j (addG N 2 p9 q9)) H := kp hk3 h_n (dj_one ha (netW_in (G := G) (a := a) (j := j) (N := addG N 2 p9 q9)) (by omega))
  refine lv_aload_n hx hb dX2_addHalf_11 rfl (lv_at hl 0 rfl) ?_
  refine lv_aload_n hx hb dX2_addHalf_12 rfl (lv_at hl 1 rfl) ?_
  refine lv_iconst (v := nI 0) hx hb dX2_addHalf_13 (by decide) ?_
  refine lv_iload_n hx hb dX2_addHalf_14 rfl (lv_at hl 2 rfl) ?_
  refine lv_iload_n hx hb dX2_addHalf_15 rfl (lv_at hl 3 rfl) ?_
  refine wr_i (va_runV (As := [.int (nI 0), .int (nI p9), .int (nI q9)]) (rest := [.ref (a i)]) FX (c_X3_addJoined l G a ha j (addG N 2 p9 q9) 0 p9 q9 (nI q9) (by decide) (fun _ => rfl) (show nG N + 1 < 120 by omega)) (cwV 3 hts gX2_addHalf_X3_addJoined rfl rfl rfl (by decide +kernel) ⟨Nat.le_of_ble_eq_true rfl, Nat.le_of_ble_eq_true rfl⟩) (preV hK hNW h_n (va_recv hK h_n (ci := 3) (q0 := 0) rfl rfl)) rfl rfl hl.1 rfl (lv_room (Nat.le_of_ble_eq_true rfl)) dX2_addHalf_16 ⟨Nat.le_of_ble_eq_true rfl, Nat.le_of_ble_eq_true rfl⟩) hS (orA_r (fun _ q => q)) (fun rr _ H locs er hP9 hk4 hS => ?_)
  have h_n : PP G (netW G a j (addG (addG N 2 p9 q9) 0 p9 q9)) H := hP9
  have h_o : PP G ([(a i, .inr (2, [.ref (a (i + 1)), .ref (a (i + 3)), .ref (a (i + 5)), .ref (a (i + 7)), .ref (a (i + 9)), .ref (a (i + 11)), .ref (a (i + 13)), .int l9, .int (nI (nG N)), .int k9]))]) H := kp hk4 h_o (dj_cons (rng_no ha (by omega)) (dj_nil))
  refine lv_as (y := nI (nG N + 1)) er ?_
  refine pp_put (ci := 2) (v := .int (nI (nG N + 1))) (ty := .int) (C := RX2) (T := TX2) (N := 10) hx hb hts inX2_addHalf_2 tyX2 tyX2_ok nmX2 hown hK h_o hS (Or.inl (rng_in (by omega))) rfl 9 (by decide) (hts (.fieldLink RX2 56 "GateLedger$Maker" "carry" "I") (List.mem_of_getElem? (i := 2) (by decide +kernel))) (fun _ h9 => h9) rfl (by decide +kernel) rfl rfl (Nat.le_of_ble_eq_true rfl) dX2_addHalf_19 (fun H locs hP9 hk6 _ hS => ?_)
  have h_o : PP G ([(a i, .inr (2, [.ref (a (i + 1)), .ref (a (i + 3)), .ref (a (i + 5)), .ref (a (i + 7)), .ref (a (i + 9)), .ref (a (i + 11)), .ref (a (i + 13)), .int l9, .int (nI (nG N)), .int (nI (nG N + 1))]))]) H := hP9
  have h_n : PP G (netW G a j (addG (addG N 2 p9 q9) 0 p9 q9)) H := kp hk6 h_n (dj_one ha (netW_in (G := G) (a := a) (j := j) (N := addG (addG N 2 p9 q9) 0 p9 q9)) (by omega))
  exact en_wv () hx hb hr hlocks hS (trivial) (⟨h_o, h_n⟩) dX2_addHalf_22
set_option maxRecDepth 20000 in
theorem inX2_addFull_2 : ∀ w ∈ u_ws RX2 TX2 10, w ∈ wsX2_addFull := by decide +kernel
set_option maxHeartbeats 4000000 in
set_option maxRecDepth 100000 in
/-- Maker.addFull -/
theorem c_X2_addFull (l : Launch) (G : GG) (a : Nat → Nat) (ha : Inj a) (i j : Nat) (hij : i + 1 ≤ j ∨ j + 11 ≤ i) (l9 s9 k9 : Int32) (N : NT) (p9 q9 r9 : Nat) (hg : nG N < 116) : Met l yX2_addFull wsX2_addFull ({ frames := 3, cells := 0, slots := 0, locals := 69 } : Room) (PcB G [.ref (a i), .ref (a j), .int (nI p9), .int (nI q9), .int (nI r9)] (fun H => PP G (makO a i l9 s9 k9) H ∧ PP G (netW G a j N) H)) (QV (fun _ : Unit => True) (fun _ H => PP G (makO a i l9 (nI (nG N + 1)) (nI (nG N + 4))) H ∧ PP G (netW G a j (fuN N p9 q9 r9)) H) (orA (rng a i 1) (rng a j 11))) 0 0 (orA (rng a i 1) (rng a j 11)) := by
  refine Met.ofW (cc := cX2_addFull) (maxL := 8) (ret := none) (by decide) rfl ?_
  intro p e s m args below meth c s₁ B hml hv
  obtain ⟨rfl, hB, hK, hNW⟩ := hv
  have hx := B.exec
  have hb := B.bytes
  have hr := B.returns
  have hts := atoms_spec (ws := wsX2_addFull) B.pre
  have hown : s.vm.findClass RX2 = some m.cls := findClass_of_methodNamed B.named
  have hlocks := B.notSynchronized
  have FX : CallFix p m c cX2_addFull 8 s ([.ref (a i), .ref (a j), .int (nI p9), .int (nI q9), .int (nI r9)] : List Value).toArray wsX2_addFull RX2 := ⟨hx, hb, hml, hown, hts⟩
  have hl := lv_entry ([.ref (a i), .ref (a j), .int (nI p9), .int (nI q9), .int (nI r9)]) (n := 8) (Nat.le_of_ble_eq_true rfl)
  rw [lg_entry_eq]
  generalize (lg_sl ([.ref (a i), .ref (a j), .int (nI p9), .int (nI q9), .int (nI r9)]) ++ List.replicate (8 - (lg_sl ([.ref (a i), .ref (a j), .int (nI p9), .int (nI q9), .int (nI r9)])).length) Slot.unset).toArray = ls at hl ⊢
  have hl : lv_has ls 8 [(0, .ref (a i)), (1, .ref (a j)), (2, .int (nI p9)), (3, .int (nI q9)), (4, .int (nI r9))] := hl
  obtain ⟨h_o, h_n⟩ := hB
  have hS : va_S (orA (rng a i 1) (rng a j 11)) s.heap s.heap [] := va_S.rf
  refine lv_aload_n hx hb dX2_addFull_0 rfl (lv_at hl 1 rfl) ?_
  refine lv_iconst (v := nI 2) hx hb dX2_addFull_1 (by decide) ?_
  refine lv_iload_n hx hb dX2_addFull_2 rfl (lv_at hl 2 rfl) ?_
  refine lv_iload_n hx hb dX2_addFull_3 rfl (lv_at hl 3 rfl) ?_
  refine wr_i (va_runV (As := [.int (nI 2), .int (nI p9), .int (nI q9)]) (rest := []) FX (c_X3_addJoined l G a ha j N 2 p9 q9 (nI q9) (by decide) (fun _ => rfl) (show nG N < 120 by omega)) (cwV 3 hts gX2_addFull_X3_addJoined rfl rfl rfl (by decide +kernel) ⟨Nat.le_of_ble_eq_true rfl, Nat.le_of_ble_eq_true rfl⟩) (preV hK hNW h_n (va_recv hK h_n (ci := 3) (q0 := 0) rfl rfl)) rfl rfl hl.1 rfl (lv_room (Nat.le_of_ble_eq_true rfl)) dX2_addFull_4 ⟨Nat.le_of_ble_eq_true rfl, Nat.le_of_ble_eq_true rfl⟩) hS (orA_r (fun _ q => q)) (fun rr _ H locs er hP9 hk1 hS => ?_)
  have h_n : PP G (netW G a j (addG N 2 p9 q9)) H := hP9
  have h_o : PP G (makO a i l9 s9 k9) H := kp hk1 h_o (dj_cons (rng_no ha (by omega)) (dj_nil))
  refine lv_as (y := nI (nG N)) er ?_
  refine lv_istore (lv' := [(5, .int (nI (nG N))), (0, .ref (a i)), (1, .ref (a j)), (2, .int (nI p9)), (3, .int (nI q9)), (4, .int (nI r9))]) hx hb dX2_addFull_7 hl (by decide) rfl (fun ls hl => ?_)
  refine lv_aload_n hx hb dX2_addFull_9 rfl (lv_at hl 1 rfl) ?_
  refine lv_aload_n hx hb dX2_addFull_10 rfl (lv_at hl 2 rfl) ?_
  refine lv_iconst (v := nI 2) hx hb dX2_addFull_11 (by decide) ?_
  refine lv_iload hx hb dX2_addFull_12 (lv_at hl 0 rfl) ?_
  refine lv_iload hx hb dX2_addFull_14 (lv_at hl 5 rfl) ?_
  refine wr_i (va_runV (As := [.int (nI 2), .int (nI (nG N)), .int (nI r9)]) (rest := [.ref (a i)]) FX (c_X3_addJoined l G a ha j (addG N 2 p9 q9) 2 (nG N) r9 (nI r9) (by decide) (fun _ => rfl) (show nG N + 1 < 120 by omega)) (cwV 3 hts gX2_addFull_X3_addJoined rfl rfl rfl (by decide +kernel) ⟨Nat.le_of_ble_eq_true rfl, Nat.le_of_ble_eq_true rfl⟩) (preV hK hNW h_n (va_recv hK h_n (ci := 3) (q0 := 0) rfl rfl)) rfl rfl hl.1 rfl (lv_room (Nat.le_of_ble_eq_true rfl)) dX2_addFull_16 ⟨Nat.le_of_ble_eq_true rfl, Nat.le_of_ble_eq_true rfl⟩) hS (orA_r (fun _ q => q)) (fun rr _ H locs er hP9 hk3 hS => ?_)
  have h_n : PP G (netW G a j (addG (addG N 2 p9 q9) 2 (nG N) r9)) H := hP9
  have h_o : PP G (makO a i l9 s9 k9) H := kp hk3 h_o (dj_cons (rng_no ha (by omega)) (dj_nil))
  refine lv_as (y := nI (nG N + 1)) er ?_
  refine pp_put (ci := 2) (v := .int (nI (nG N + 1))) (ty := .int) (C := RX2) (T := TX2) (N := 10) hx hb hts inX2_addFull_2 tyX2 tyX2_ok nmX2 hown hK h_o hS (Or.inl (rng_in (by omega))) rfl 8 (by decide) (hts (.fieldLink RX2 46 "GateLedger$Maker" "sum" "I") (List.mem_of_getElem? (i := 1) (by decide +kernel))) (fun _ h9 => h9) rfl (by decide +kernel) rfl rfl (Nat.le_of_ble_eq_true rfl) dX2_addFull_19 (fun H locs hP9 hk5 _ hS => ?_)
  have h_o : PP G ([(a i, .inr (2, [.ref (a (i + 1)), .ref (a (i + 3)), .ref (a (i + 5)), .ref (a (i + 7)), .ref (a (i + 9)), .ref (a (i + 11)), .ref (a (i + 13)), .int l9, .int (nI (nG N + 1)), .int k9]))]) H := hP9
  have h_n : PP G (netW G a j (addG (addG N 2 p9 q9) 2 (nG N) r9)) H := kp hk5 h_n (dj_one ha (netW_in (G := G) (a := a) (j := j) (N := addG (addG N 2 p9 q9) 2 (nG N) r9)) (by omega))
  refine lv_aload_n hx hb dX2_addFull_22 rfl (lv_at hl 2 rfl) ?_
  refine lv_iconst (v := nI 0) hx hb dX2_addFull_23 (by decide) ?_
  refine lv_iload_n hx hb dX2_addFull_24 rfl (lv_at hl 3 rfl) ?_
  refine lv_iload_n hx hb dX2_addFull_25 rfl (lv_at hl 4 rfl) ?_
  refine wr_i (va_runV (As := [.int (nI 0), .int (nI p9), .int (nI q9)]) (rest := []) FX (c_X3_addJoined l G a ha j (addG (addG N 2 p9 q9) 2 (nG N) r9) 0 p9 q9 (nI q9) (by decide) (fun _ => rfl) (show nG N + 2 < 120 by omega)) (cwV 3 hts gX2_addFull_X3_addJoined rfl rfl rfl (by decide +kernel) ⟨Nat.le_of_ble_eq_true rfl, Nat.le_of_ble_eq_true rfl⟩) (preV hK hNW h_n (va_recv hK h_n (ci := 3) (q0 := 0) rfl rfl)) rfl rfl hl.1 rfl (lv_room (Nat.le_of_ble_eq_true rfl)) dX2_addFull_26 ⟨Nat.le_of_ble_eq_true rfl, Nat.le_of_ble_eq_true rfl⟩) hS (orA_r (fun _ q => q)) (fun rr _ H locs er hP9 hk6 hS => ?_)
  have h_n : PP G (netW G a j (addG (addG (addG N 2 p9 q9) 2 (nG N) r9) 0 p9 q9)) H := hP9
  have h_o : PP G ([(a i, .inr (2, [.ref (a (i + 1)), .ref (a (i + 3)), .ref (a (i + 5)), .ref (a (i + 7)), .ref (a (i + 9)), .ref (a (i + 11)), .ref (a (i + 13)), .int l9, .int (nI (nG N + 1)), .int k9]))]) H := kp hk6 h_o (dj_cons (rng_no ha (by omega)) (dj_nil))
  refine lv_as (y := nI (nG N + 2)) er ?_
  refine lv_istore (lv' := [(6, .int (nI (nG N + 2))), (5, .int (nI (nG N))), (0, .ref (a i)), (1, .ref (a j)), (2, .int (nI p9)), (3, .int (nI q9)), (4, .int (nI r9))]) hx hb dX2_addFull_29 hl (by decide) rfl (fun ls hl => ?_)
  refine lv_aload_n hx hb dX2_addFull_31 rfl (lv_at hl 3 rfl) ?_
  refine lv_iconst (v := nI 0) hx hb dX2_addFull_32 (by decide) ?_
  refine lv_iload hx hb dX2_addFull_33 (lv_at hl 1 rfl) ?_
  refine lv_iload hx hb dX2_addFull_35 (lv_at hl 6 rfl) ?_
  refine wr_i (va_runV (As := [.int (nI 0), .int (nI (nG N)), .int (nI r9)]) (rest := []) FX (c_X3_addJoined l G a ha j (addG (addG (addG N 2 p9 q9) 2 (nG N) r9) 0 p9 q9) 0 (nG N) r9 (nI r9) (by decide) (fun _ => rfl) (show nG N + 3 < 120 by omega)) (cwV 3 hts gX2_addFull_X3_addJoined rfl rfl rfl (by decide +kernel) ⟨Nat.le_of_ble_eq_true rfl, Nat.le_of_ble_eq_true rfl⟩) (preV hK hNW h_n (va_recv hK h_n (ci := 3) (q0 := 0) rfl rfl)) rfl rfl hl.1 rfl (lv_room (Nat.le_of_ble_eq_true rfl)) dX2_addFull_37 ⟨Nat.le_of_ble_eq_true rfl, Nat.le_of_ble_eq_true rfl⟩) hS (orA_r (fun _ q => q)) (fun rr _ H locs er hP9 hk8 hS => ?_)
  have h_n : PP G (netW G a j (addG (addG (addG (addG N 2 p9 q9) 2 (nG N) r9) 0 p9 q9) 0 (nG N) r9)) H := hP9
  have h_o : PP G ([(a i, .inr (2, [.ref (a (i + 1)), .ref (a (i + 3)), .ref (a (i + 5)), .ref (a (i + 7)), .ref (a (i + 9)), .ref (a (i + 11)), .ref (a (i + 13)), .int l9, .int (nI (nG N + 1)), .int k9]))]) H := kp hk8 h_o (dj_cons (rng_no ha (by omega)) (dj_nil))
  refine lv_as (y := nI (nG N + 3)) er ?_
  refine lv_istore (lv' := [(7, .int (nI (nG N + 3))), (6, .int (nI (nG N + 2))), (5, .int (nI (nG N))), (0, .ref (a i)), (1, .ref (a j)), (2, .int (nI p9)), (3, .int (nI q9)), (4, .int (nI r9))]) hx hb dX2_addFull_40 hl (by decide) rfl (fun ls hl => ?_)
  refine lv_aload_n hx hb dX2_addFull_42 rfl (lv_at hl 3 rfl) ?_
  refine lv_aload_n hx hb dX2_addFull_43 rfl (lv_at hl 4 rfl) ?_
  refine lv_iconst (v := nI 1) hx hb dX2_addFull_44 (by decide) ?_
  refine lv_iload hx hb dX2_addFull_45 (lv_at hl 1 rfl) ?_
  refine lv_iload hx hb dX2_addFull_47 (lv_at hl 0 rfl) ?_
  refine wr_i (va_runV (As := [.int (nI 1), .int (nI (nG N + 2)), .int (nI (nG N + 3))]) (rest := [.ref (a i)]) FX (c_X3_addJoined l G a ha j (addG (addG (addG (addG N 2 p9 q9) 2 (nG N) r9) 0 p9 q9) 0 (nG N) r9) 1 (nG N + 2) (nG N + 3) (nI (nG N + 3)) (by decide) (fun _ => rfl) (show nG N + 4 < 120 by omega)) (cwV 3 hts gX2_addFull_X3_addJoined rfl rfl rfl (by decide +kernel) ⟨Nat.le_of_ble_eq_true rfl, Nat.le_of_ble_eq_true rfl⟩) (preV hK hNW h_n (va_recv hK h_n (ci := 3) (q0 := 0) rfl rfl)) rfl rfl hl.1 rfl (lv_room (Nat.le_of_ble_eq_true rfl)) dX2_addFull_49 ⟨Nat.le_of_ble_eq_true rfl, Nat.le_of_ble_eq_true rfl⟩) hS (orA_r (fun _ q => q)) (fun rr _ H locs er hP9 hk10 hS => ?_)
  have h_n : PP G (netW G a j (addG (addG (addG (addG (addG N 2 p9 q9) 2 (nG N) r9) 0 p9 q9) 0 (nG N) r9) 1 (nG N + 2) (nG N + 3))) H := hP9
  have h_o : PP G ([(a i, .inr (2, [.ref (a (i + 1)), .ref (a (i + 3)), .ref (a (i + 5)), .ref (a (i + 7)), .ref (a (i + 9)), .ref (a (i + 11)), .ref (a (i + 13)), .int l9, .int (nI (nG N + 1)), .int k9]))]) H := kp hk10 h_o (dj_cons (rng_no ha (by omega)) (dj_nil))
  refine lv_as (y := nI (nG N + 4)) er ?_
  refine pp_put (ci := 2) (v := .int (nI (nG N + 4))) (ty := .int) (C := RX2) (T := TX2) (N := 10) hx hb hts inX2_addFull_2 tyX2 tyX2_ok nmX2 hown hK h_o hS (Or.inl (rng_in (by omega))) rfl 9 (by decide) (hts (.fieldLink RX2 56 "GateLedger$Maker" "carry" "I") (List.mem_of_getElem? (i := 2) (by decide +kernel))) (fun _ h9 => h9) rfl (by decide +kernel) rfl rfl (Nat.le_of_ble_eq_true rfl) dX2_addFull_52 (fun H locs hP9 hk12 _ hS => ?_)
  have h_o : PP G ([(a i, .inr (2, [.ref (a (i + 1)), .ref (a (i + 3)), .ref (a (i + 5)), .ref (a (i + 7)), .ref (a (i + 9)), .ref (a (i + 11)), .ref (a (i + 13)), .int l9, .int (nI (nG N + 1)), .int (nI (nG N + 4))]))]) H := hP9
  have h_n : PP G (netW G a j (addG (addG (addG (addG (addG N 2 p9 q9) 2 (nG N) r9) 0 p9 q9) 0 (nG N) r9) 1 (nG N + 2) (nG N + 3))) H := kp hk12 h_n (dj_one ha (netW_in (G := G) (a := a) (j := j) (N := addG (addG (addG (addG (addG N 2 p9 q9) 2 (nG N) r9) 0 p9 q9) 0 (nG N) r9) 1 (nG N + 2) (nG N + 3))) (by omega))
  exact en_wv () hx hb hr hlocks hS (trivial) (⟨h_o, h_n⟩) dX2_addFull_55
set_option maxRecDepth 20000 in
theorem inX2_makeRipple_2 : ∀ w ∈ u_ws RX2 TX2 10, w ∈ wsX2_makeRipple := by decide +kernel
set_option maxHeartbeats 4000000 in
set_option maxRecDepth 100000 in
/-- Maker.makeRipple -/
theorem c_X2_makeRipple (l : Launch) (G : GG) (a : Nat → Nat) (ha : Inj a) (i j : Nat) (hij : i + 15 ≤ j ∨ j + 11 ≤ i) (l9 s9 k9 : Int32) (N : NT) (w9 : Nat) (hw : 1 ≤ w9 ∧ w9 ≤ 6) (hg : nG N = 0) (ho : nO N = 0) : Met l yX2_makeRipple wsX2_makeRipple ({ frames := 4, cells := 0, slots := 0, locals := 96 } : Room) (PcB G [.ref (a i), .ref (a j), .int (nI w9)] (fun H => PP G (makO a i l9 s9 k9) H ∧ PP G (netW G a j N) H)) (QV (fun _ : Int32 × Int32 => True) (fun u H => PP G (makO a i l9 u.1 u.2) H ∧ PP G (netW G a j (ripN N w9)) H) (orA (rng a i 1) (rng a j 11))) 0 0 (orA (rng a i 1) (rng a j 11)) := by
  refine Met.ofW (cc := cX2_makeRipple) (maxL := 4) (ret := none) (by decide) rfl ?_
  intro p e s m args below meth c s₁ B hml hv
  obtain ⟨rfl, hB, hK, hNW⟩ := hv
  have hx := B.exec
  have hb := B.bytes
  have hr := B.returns
  have hts := atoms_spec (ws := wsX2_makeRipple) B.pre
  have hown : s.vm.findClass RX2 = some m.cls := findClass_of_methodNamed B.named
  have hlocks := B.notSynchronized
  have FX : CallFix p m c cX2_makeRipple 4 s ([.ref (a i), .ref (a j), .int (nI w9)] : List Value).toArray wsX2_makeRipple RX2 := ⟨hx, hb, hml, hown, hts⟩
  have hl := lv_entry ([.ref (a i), .ref (a j), .int (nI w9)]) (n := 4) (Nat.le_of_ble_eq_true rfl)
  rw [lg_entry_eq]
  generalize (lg_sl ([.ref (a i), .ref (a j), .int (nI w9)]) ++ List.replicate (4 - (lg_sl ([.ref (a i), .ref (a j), .int (nI w9)])).length) Slot.unset).toArray = ls at hl ⊢
  have hl : lv_has ls 4 [(0, .ref (a i)), (1, .ref (a j)), (2, .int (nI w9))] := hl
  obtain ⟨h_o, h_n⟩ := hB
  have hS : va_S (orA (rng a i 1) (rng a j 11)) s.heap s.heap [] := va_S.rf
  refine lv_aload_n hx hb dX2_makeRipple_0 rfl (lv_at hl 0 rfl) ?_
  refine lv_aload_n hx hb dX2_makeRipple_1 rfl (lv_at hl 1 rfl) ?_
  refine lv_iload_n hx hb dX2_makeRipple_2 rfl (lv_at hl 2 rfl) ?_
  refine wr_v (va_runV (As := [.ref (a j), .int (nI w9)]) (rest := []) FX (c_X2_addInputs l G a ha i j N w9 (by omega)) (cwV 2 hts gX2_makeRipple_X2_addInputs rfl rfl rfl (by decide +kernel) ⟨Nat.le_of_ble_eq_true rfl, Nat.le_of_ble_eq_true rfl⟩) (preV hK hNW h_n (va_recv hK h_o (ci := 2) (q0 := 0) rfl rfl)) rfl rfl hl.1 rfl (lv_room (Nat.le_of_ble_eq_true rfl)) dX2_makeRipple_3 ⟨Nat.le_of_ble_eq_true rfl, Nat.le_of_ble_eq_true rfl⟩) hS (orA_r (fun _ q => q)) (fun _ H locs _ hP9 hk1 hS => ?_)
  have h_n : PP G (netW G a j (inN N (2 * w9))) H := hP9
  have h_o : PP G (makO a i l9 s9 k9) H := kp hk1 h_o (dj_cons (rng_no ha (by omega)) (dj_nil))
  have hgM := inN_g N (2 * w9)
  have hoM := inN_o N (2 * w9)
  refine lv_aload_n hx hb dX2_makeRipple_6 rfl (lv_at hl 0 rfl) ?_
  refine lv_aload_n hx hb dX2_makeRipple_7 rfl (lv_at hl 1 rfl) ?_
  refine lv_iconst (v := nI 0) hx hb dX2_makeRipple_8 (by decide) ?_
  refine lv_iload_n hx hb dX2_makeRipple_9 rfl (lv_at hl 2 rfl) ?_
  refine wr_v (va_runV (As := [.ref (a j), .int (nI 0), .int (nI w9)]) (rest := []) FX (c_X2_addHalf l G a ha i j (by omega) l9 s9 k9 (inN N (2 * w9)) 0 w9 (show nG (inN N (2 * w9)) < 119 by omega)) (cwV 3 hts gX2_makeRipple_X2_addHalf rfl rfl rfl (by decide +kernel) ⟨Nat.le_of_ble_eq_true rfl, Nat.le_of_ble_eq_true rfl⟩) (preV hK hNW (⟨h_o, h_n⟩) (va_recv hK h_o (ci := 2) (q0 := 0) rfl rfl)) rfl rfl hl.1 rfl (lv_room (Nat.le_of_ble_eq_true rfl)) dX2_makeRipple_10 ⟨Nat.le_of_ble_eq_true rfl, Nat.le_of_ble_eq_true rfl⟩) hS (fun _ q => q) (fun _ H locs _ hP9 hk3 hS => ?_)
  have h_o : PP G (makO a i l9 (nI (nG (inN N (2 * w9)))) (nI (nG (inN N (2 * w9)) + 1))) H := hP9.1
  have h_n : PP G (netW G a j (hfN (inN N (2 * w9)) 0 w9)) H := hP9.2
  refine lv_aload_n hx hb dX2_makeRipple_13 rfl (lv_at hl 1 rfl) ?_
  refine lv_aload_n hx hb dX2_makeRipple_14 rfl (lv_at hl 0 rfl) ?_
  refine va_get (D := G.1) (ci := 2) (v := .int (nI (nG (inN N (2 * w9))))) (C := RX2) (T := TX2) (N := 10) hx hb hts inX2_makeRipple_2 hown hK h_o 0 rfl rfl 8 (by decide) (hts (.fieldLink RX2 46 "GateLedger$Maker" "sum" "I") (List.mem_of_getElem? (i := 1) (by decide +kernel))) (fun _ h9 => h9) rfl dX2_makeRipple_15 ?_
  refine wr_i (va_runV (As := [.int (nI (nG (inN N (2 * w9))))]) (rest := []) FX (c_X3_addOut l G a ha j (hfN (inN N (2 * w9)) 0 w9) (nG (inN N (2 * w9))) (show nO (inN N (2 * w9)) < 16 by omega)) (cwV 1 hts gX2_makeRipple_X3_addOut rfl rfl rfl (by decide +kernel) ⟨Nat.le_of_ble_eq_true rfl, Nat.le_of_ble_eq_true rfl⟩) (preV hK hNW h_n (va_recv hK h_n (ci := 3) (q0 := 0) rfl rfl)) rfl rfl hl.1 rfl (lv_room (Nat.le_of_ble_eq_true rfl)) dX2_makeRipple_18 ⟨Nat.le_of_ble_eq_true rfl, Nat.le_of_ble_eq_true rfl⟩) hS (orA_r (fun _ q => q)) (fun rr _ H locs er hP9 hk5 hS => ?_)
  have h_n : PP G (netW G a j (addO (hfN (inN N (2 * w9)) 0 w9) (nG (inN N (2 * w9))))) H := hP9
  have h_o : PP G (makO a i l9 (nI (nG (inN N (2 * w9)))) (nI (nG (inN N (2 * w9)) + 1))) H := kp hk5 h_o (dj_cons (rng_no ha (by omega)) (dj_nil))
  refine lv_pop hx hb dX2_makeRipple_21 rfl ?_
  refine lv_iconst (v := nI 1) hx hb dX2_makeRipple_22 (by decide) ?_
  refine lv_istore_n (lv' := [(3, .int (nI 1)), (0, .ref (a i)), (1, .ref (a j)), (2, .int (nI w9))]) hx hb dX2_makeRipple_23 rfl hl (by decide) rfl (fun ls hl => ?_)
  refine lv_loop2 24 (fun (q : Nat) (s8 : Int32) => w9 - q) (fun (q : Nat) (s8 : Int32) (H : Heap) (locs : List Loc) (ls : Array Slot) => (PP G (makO a i l9 s8 (nI ((rpT (inN N (2 * w9)) w9 q).2))) H) ∧ (PP G (netW G a j ((rpT (inN N (2 * w9)) w9 q).1)) H) ∧ (va_S (orA (rng a i 1) (rng a j 11)) s.heap H locs) ∧ (lv_has ls 4 [(0, .ref (a i)), (1, .ref (a j)), (2, .int (nI w9)), (3, .int (nI (q + 1)))]) ∧ (q + 1 ≤ w9)) (fun _ _ => []) (fun q s8 H locs ls hI ih => ?_) 0 (nI (nG (inN N (2 * w9)))) ⟨h_o, h_n, hS, lv_sub hl [1, 2, 3, 0] rfl, by omega⟩ rfl
  obtain ⟨h_o, h_n, hS, hl, hq⟩ := hI
  have ih7 := @ih
  clear ih
  have hG := rpT_g (inN N (2 * w9)) w9 q
  rw [inN_g, inN_o] at hG
  refine lv_iload_n hx hb dX2_makeRipple_24 rfl (lv_at hl 3 rfl) ?_
  refine lv_iload_n hx hb dX2_makeRipple_25 rfl (lv_at hl 2 rfl) ?_
  refine lv_icmp_ge (tgt := 57) hx hb dX2_makeRipple_26 (by decide) (fun c26 => ?_) (fun c26 => ?_)
  · skip
    have c26 := cv_le (by omega) (by omega) c26
    have eq9 : q = w9 - 1 := by omega
    refine lv_aload_n hx hb dX2_makeRipple_57 rfl (lv_at hl 1 rfl) ?_
    refine lv_aload_n hx hb dX2_makeRipple_58 rfl (lv_at hl 0 rfl) ?_
    refine va_get (D := G.1) (ci := 2) (v := .int (nI ((rpT (inN N (2 * w9)) w9 q).2))) (C := RX2) (T := TX2) (N := 10) hx hb hts inX2_makeRipple_2 hown hK h_o 0 rfl rfl 9 (by decide) (hts (.fieldLink RX2 56 "GateLedger$Maker" "carry" "I") (List.mem_of_getElem? (i := 2) (by decide +kernel))) (fun _ h9 => h9) rfl dX2_makeRipple_59 ?_
    refine wr_i (va_runV (As := [.int (nI ((rpT (inN N (2 * w9)) w9 q).2))]) (rest := []) FX (c_X3_addOut l G a ha j ((rpT (inN N (2 * w9)) w9 q).1) ((rpT (inN N (2 * w9)) w9 q).2) (show nO (rpT (inN N (2 * w9)) w9 q).1 < 16 by omega)) (cwV 1 hts gX2_makeRipple_X3_addOut rfl rfl rfl (by decide +kernel) ⟨Nat.le_of_ble_eq_true rfl, Nat.le_of_ble_eq_true rfl⟩) (preV hK hNW h_n (va_recv hK h_n (ci := 3) (q0 := 0) rfl rfl)) rfl rfl hl.1 rfl (lv_room (Nat.le_of_ble_eq_true rfl)) dX2_makeRipple_62 ⟨Nat.le_of_ble_eq_true rfl, Nat.le_of_ble_eq_true rfl⟩) hS (orA_r (fun _ q => q)) (fun rr _ H locs er hP9 hk8 hS => ?_)
    have h_n : PP G (netW G a j (addO ((rpT (inN N (2 * w9)) w9 q).1) ((rpT (inN N (2 * w9)) w9 q).2))) H := hP9
    have h_o : PP G (makO a i l9 s8 (nI ((rpT (inN N (2 * w9)) w9 q).2))) H := kp hk8 h_o (dj_cons (rng_no ha (by omega)) (dj_nil))
    refine lv_pop hx hb dX2_makeRipple_65 rfl ?_
    exact en_wv (s8, nI (rpT (inN N (2 * w9)) w9 q).2) hx hb hr hlocks hS (trivial) (⟨h_o, by unfold ripN; rw [← eq9]; exact h_n⟩) dX2_makeRipple_66
  · skip
    have c26 := cv_nle (by omega) (by omega) c26
    refine lv_aload_n hx hb dX2_makeRipple_29 rfl (lv_at hl 0 rfl) ?_
    refine lv_aload_n hx hb dX2_makeRipple_30 rfl (lv_at hl 1 rfl) ?_
    refine lv_iload_n hx hb dX2_makeRipple_31 rfl (lv_at hl 3 rfl) ?_
    refine lv_iload_n hx hb dX2_makeRipple_32 rfl (lv_at hl 2 rfl) ?_
    refine lv_iload_n hx hb dX2_makeRipple_33 rfl (lv_at hl 3 rfl) ?_
    refine lv_iadd hx hb dX2_makeRipple_34 ?_
    refine lv_as (nI_add _ _) ?_
    refine lv_aload_n hx hb dX2_makeRipple_35 rfl (lv_at hl 0 rfl) ?_
    refine va_get (D := G.1) (ci := 2) (v := .int (nI ((rpT (inN N (2 * w9)) w9 q).2))) (C := RX2) (T := TX2) (N := 10) hx hb hts inX2_makeRipple_2 hown hK h_o 0 rfl rfl 9 (by decide) (hts (.fieldLink RX2 56 "GateLedger$Maker" "carry" "I") (List.mem_of_getElem? (i := 2) (by decide +kernel))) (fun _ h9 => h9) rfl dX2_makeRipple_36 ?_
    refine wr_v (va_runV (As := [.ref (a j), .int (nI (q + 1)), .int (nI (w9 + (q + 1))), .int (nI ((rpT (inN N (2 * w9)) w9 q).2))]) (rest := []) FX (c_X2_addFull l G a ha i j (by omega) l9 s8 (nI ((rpT (inN N (2 * w9)) w9 q).2)) ((rpT (inN N (2 * w9)) w9 q).1) (q + 1) (w9 + (q + 1)) ((rpT (inN N (2 * w9)) w9 q).2) (show nG (rpT (inN N (2 * w9)) w9 q).1 < 116 by omega)) (cwV 4 hts gX2_makeRipple_X2_addFull rfl rfl rfl (by decide +kernel) ⟨Nat.le_of_ble_eq_true rfl, Nat.le_of_ble_eq_true rfl⟩) (preV hK hNW (⟨h_o, h_n⟩) (va_recv hK h_o (ci := 2) (q0 := 0) rfl rfl)) rfl rfl hl.1 rfl (lv_room (Nat.le_of_ble_eq_true rfl)) dX2_makeRipple_39 ⟨Nat.le_of_ble_eq_true rfl, Nat.le_of_ble_eq_true rfl⟩) hS (fun _ q => q) (fun _ H locs _ hP9 hk10 hS => ?_)
    have h_o : PP G (makO a i l9 (nI (nG (rpT (inN N (2 * w9)) w9 q).1 + 1)) (nI (nG (rpT (inN N (2 * w9)) w9 q).1 + 4))) H := hP9.1
    have h_n : PP G (netW G a j (fuN ((rpT (inN N (2 * w9)) w9 q).1) (q + 1) (w9 + (q + 1)) ((rpT (inN N (2 * w9)) w9 q).2))) H := hP9.2
    refine lv_aload_n hx hb dX2_makeRipple_42 rfl (lv_at hl 1 rfl) ?_
    refine lv_aload_n hx hb dX2_makeRipple_43 rfl (lv_at hl 0 rfl) ?_
    refine va_get (D := G.1) (ci := 2) (v := .int (nI (nG (rpT (inN N (2 * w9)) w9 q).1 + 1))) (C := RX2) (T := TX2) (N := 10) hx hb hts inX2_makeRipple_2 hown hK h_o 0 rfl rfl 8 (by decide) (hts (.fieldLink RX2 46 "GateLedger$Maker" "sum" "I") (List.mem_of_getElem? (i := 1) (by decide +kernel))) (fun _ h9 => h9) rfl dX2_makeRipple_44 ?_
    refine wr_i (va_runV (As := [.int (nI (nG (rpT (inN N (2 * w9)) w9 q).1 + 1))]) (rest := []) FX (c_X3_addOut l G a ha j (fuN ((rpT (inN N (2 * w9)) w9 q).1) (q + 1) (w9 + (q + 1)) ((rpT (inN N (2 * w9)) w9 q).2)) (nG (rpT (inN N (2 * w9)) w9 q).1 + 1) (show nO (rpT (inN N (2 * w9)) w9 q).1 < 16 by omega)) (cwV 1 hts gX2_makeRipple_X3_addOut rfl rfl rfl (by decide +kernel) ⟨Nat.le_of_ble_eq_true rfl, Nat.le_of_ble_eq_true rfl⟩) (preV hK hNW h_n (va_recv hK h_n (ci := 3) (q0 := 0) rfl rfl)) rfl rfl hl.1 rfl (lv_room (Nat.le_of_ble_eq_true rfl)) dX2_makeRipple_47 ⟨Nat.le_of_ble_eq_true rfl, Nat.le_of_ble_eq_true rfl⟩) hS (orA_r (fun _ q => q)) (fun rr _ H locs er hP9 hk12 hS => ?_)
    have h_n : PP G (netW G a j (addO (fuN ((rpT (inN N (2 * w9)) w9 q).1) (q + 1) (w9 + (q + 1)) ((rpT (inN N (2 * w9)) w9 q).2)) (nG (rpT (inN N (2 * w9)) w9 q).1 + 1))) H := hP9
    have h_o : PP G (makO a i l9 (nI (nG (rpT (inN N (2 * w9)) w9 q).1 + 1)) (nI (nG (rpT (inN N (2 * w9)) w9 q).1 + 4))) H := kp hk12 h_o (dj_cons (rng_no ha (by omega)) (dj_nil))
    refine lv_pop hx hb dX2_makeRipple_50 rfl ?_
    refine lv_iinc (v := nI (q + 1 + 1)) (lv' := [(3, .int (nI (q + 1 + 1))), (0, .ref (a i)), (1, .ref (a j)), (2, .int (nI w9))]) hx hb dX2_makeRipple_51 hl (k := 3) rfl (by first | exact nI_add _ 1 | decide) (by decide) rfl (fun ls hl => ?_)
    refine lv_goto (tgt := 24) hx hb dX2_makeRipple_54 (by decide) ?_
    exact ih7 (q + 1) (nI (nG (rpT (inN N (2 * w9)) w9 q).1 + 1)) _ _ _ ⟨h_o, h_n, hS, lv_sub hl [1, 2, 3, 0] rfl, by omega⟩ (by show w9 - (q + 1) < w9 - q; omega)
set_option maxHeartbeats 4000000 in
set_option maxRecDepth 100000 in
/-- Maker.spreadPartner -/
theorem c_X2_spreadPartner (l : Launch) (G : GG) (k n : Nat) (hk : k < 6) (hn : n < 3) : Met l yX2_spreadPartner wsX2_spreadPartner ({ frames := 0, cells := 0, slots := 0, locals := 0 } : Room) (PcB G [.int (nI k), .int (nI (2 ^ n))] (fun H => True)) (vp_Si (fun r => r = nI (if k / 2 ^ n % 2 = 1 then k / 2 ^ n * 2 ^ n else 0) - nI 1)) 0 0 (fun _ => False) := by
  refine Met.ofW (cc := cX2_spreadPartner) (maxL := 2) (ret := (some .int)) (by decide) rfl ?_
  intro p e s m args below meth c s₁ B hml hv
  obtain ⟨rfl, hB, hK, hNW⟩ := hv
  have hx := B.exec
  have hb := B.bytes
  have hr := B.returns
  have hts := atoms_spec (ws := wsX2_spreadPartner) B.pre
  have hown : s.vm.findClass RX2 = some m.cls := findClass_of_methodNamed B.named
  have hlocks := B.notSynchronized
  have FX : CallFix p m c cX2_spreadPartner 2 s ([.int (nI k), .int (nI (2 ^ n))] : List Value).toArray wsX2_spreadPartner RX2 := ⟨hx, hb, hml, hown, hts⟩
  have hl := lv_entry ([.int (nI k), .int (nI (2 ^ n))]) (n := 2) (Nat.le_of_ble_eq_true rfl)
  rw [lg_entry_eq]
  generalize (lg_sl ([.int (nI k), .int (nI (2 ^ n))]) ++ List.replicate (2 - (lg_sl ([.int (nI k), .int (nI (2 ^ n))])).length) Slot.unset).toArray = ls at hl ⊢
  have hl : lv_has ls 2 [(0, .int (nI k)), (1, .int (nI (2 ^ n)))] := hl
  refine lv_iload_n hx hb dX2_spreadPartner_0 rfl (lv_at hl 0 rfl) ?_
  refine lv_iload_n hx hb dX2_spreadPartner_1 rfl (lv_at hl 1 rfl) ?_
  refine lv_iand hx hb dX2_spreadPartner_2 ?_
  refine lv_if_ne (tgt := 10) hx hb dX2_spreadPartner_3 (by decide) (fun c3 => ?_) (fun c3 => ?_)
  · skip
    refine lv_iload_n hx hb dX2_spreadPartner_10 rfl (lv_at hl 0 rfl) ?_
    refine lv_iload_n hx hb dX2_spreadPartner_11 rfl (lv_at hl 1 rfl) ?_
    refine lv_ineg hx hb dX2_spreadPartner_12 ?_
    refine lv_iand hx hb dX2_spreadPartner_13 ?_
    refine lv_iconst (v := nI 1) hx hb dX2_spreadPartner_14 (by decide) ?_
    refine lv_isub hx hb dX2_spreadPartner_15 ?_
    exact en_i hx hb hr hlocks (by first | (rw [if_neg (fun q => by have := (sp_fact k hk n hn).1 c3; omega)]; decide) | (have h9 := (sp_fact k hk n hn).2 c3; rw [if_pos h9.1, h9.2.2.1, pk_sub h9.2.1])) dX2_spreadPartner_16
  · skip
    refine lv_iconst (v := -1) hx hb dX2_spreadPartner_6 (by decide) ?_
    refine lv_goto (tgt := 16) hx hb dX2_spreadPartner_7 (by decide) ?_
    exact en_i hx hb hr hlocks (by first | (rw [if_neg (fun q => by have := (sp_fact k hk n hn).1 c3; omega)]; decide) | (have h9 := (sp_fact k hk n hn).2 c3; rw [if_pos h9.1, h9.2.2.1, pk_sub h9.2.1])) dX2_spreadPartner_16
set_option maxRecDepth 20000 in
theorem inX2_addJoins_2 : ∀ w ∈ u_ws RX2 TX2 10, w ∈ wsX2_addJoins := by decide +kernel
set_option maxHeartbeats 4000000 in
set_option maxRecDepth 100000 in
/-- Maker.addJoins -/
theorem c_X2_addJoins (l : Launch) (G : GG) (a : Nat → Nat) (ha : Inj a) (i j : Nat) (hij : i + 15 ≤ j ∨ j + 11 ≤ i) (l9 s9 k9 : Int32) (f1 f2 f3 f4 : Nat → Int32) (S0 : JS) (q9 : Prop) [Decidable q9] (w9 n : Nat) (hw : w9 ≤ 6) (hn : n < 3) (hg : nG S0.1 + 3 * w9 ≤ 118) (hf1 : ∀ r, r < w9 → f1 r = nI (S0.2.1 r)) (hf3 : ∀ r, r < w9 → f3 r = nI (S0.2.2 r)) : Met l yX2_addJoins wsX2_addJoins ({ frames := 3, cells := 0, slots := 0, locals := 69 } : Room) (PcB G [.ref (a i), .ref (a j), .int (bI q9), .int (nI w9), .int (nI (2 ^ n))] (fun H => PP G (makO a i l9 s9 k9) H ∧ PP G (rowW G a (i + 3) 6 f1) H ∧ PP G (rowW G a (i + 5) 6 f2) H ∧ PP G (rowW G a (i + 7) 6 f3) H ∧ PP G (rowW G a (i + 9) 6 f4) H ∧ PP G (netW G a j S0.1) H)) (QV (fun u : (Nat → Int32) × (Nat → Int32) × (Nat → Int32) × (Nat → Int32) => (∀ r, r < w9 → u.1 r = nI ((joT q9 (2 ^ n) S0 w9).2.1 r)) ∧ ∀ r, r < w9 → u.2.2.1 r = nI ((joT q9 (2 ^ n) S0 w9).2.2 r)) (fun u H => PP G (makO a i l9 s9 k9) H ∧ PP G (rowW G a (i + 3) 6 u.1) H ∧ PP G (rowW G a (i + 5) 6 u.2.1) H ∧ PP G (rowW G a (i + 7) 6 u.2.2.1) H ∧ PP G (rowW G a (i + 9) 6 u.2.2.2) H ∧ PP G (netW G a j (joT q9 (2 ^ n) S0 w9).1) H) (orA (rng a (i + 3) 8) (rng a j 11))) 0 0 (orA (rng a (i + 3) 8) (rng a j 11)) := by
  refine Met.ofW (cc := cX2_addJoins) (maxL := 9) (ret := none) (by decide) rfl ?_
  intro p e s m args below meth c s₁ B hml hv
  obtain ⟨rfl, hB, hK, hNW⟩ := hv
  have hx := B.exec
  have hb := B.bytes
  have hr := B.returns
  have hts := atoms_spec (ws := wsX2_addJoins) B.pre
  have hown : s.vm.findClass RX2 = some m.cls := findClass_of_methodNamed B.named
  have hlocks := B.notSynchronized
  have FX : CallFix p m c cX2_addJoins 9 s ([.ref (a i), .ref (a j), .int (bI q9), .int (nI w9), .int (nI (2 ^ n))] : List Value).toArray wsX2_addJoins RX2 := ⟨hx, hb, hml, hown, hts⟩
  have hl := lv_entry ([.ref (a i), .ref (a j), .int (bI q9), .int (nI w9), .int (nI (2 ^ n))]) (n := 9) (Nat.le_of_ble_eq_true rfl)
  rw [lg_entry_eq]
  generalize (lg_sl ([.ref (a i), .ref (a j), .int (bI q9), .int (nI w9), .int (nI (2 ^ n))]) ++ List.replicate (9 - (lg_sl ([.ref (a i), .ref (a j), .int (bI q9), .int (nI w9), .int (nI (2 ^ n))])).length) Slot.unset).toArray = ls at hl ⊢
  have hl : lv_has ls 9 [(0, .ref (a i)), (1, .ref (a j)), (2, .int (bI q9)), (3, .int (nI w9)), (4, .int (nI (2 ^ n)))] := hl
  obtain ⟨h_o, h_p, h_pa, h_c, h_ca, h_n⟩ := hB
  have hS : va_S (orA (rng a (i + 3) 8) (rng a j 11)) s.heap s.heap [] := va_S.rf
  refine lv_aload_n hx hb dX2_addJoins_0 rfl (lv_at hl 0 rfl) ?_
  refine va_get (D := G.1) (ci := 2) (v := .ref (a (i + 5))) (C := RX2) (T := TX2) (N := 10) hx hb hts inX2_addJoins_2 hown hK h_o 0 rfl rfl 2 (by decide) (hts (.fieldLink RX2 23 "GateLedger$Maker" "passesAhead" "LGateLedger$Row;") (List.mem_of_getElem? (i := 1) (by decide +kernel))) (fun _ h9 => h9) rfl dX2_addJoins_1 ?_
  refine lv_aload_n hx hb dX2_addJoins_4 rfl (lv_at hl 0 rfl) ?_
  refine va_get (D := G.1) (ci := 2) (v := .ref (a (i + 3))) (C := RX2) (T := TX2) (N := 10) hx hb hts inX2_addJoins_2 hown hK h_o 0 rfl rfl 1 (by decide) (hts (.fieldLink RX2 20 "GateLedger$Maker" "passes" "LGateLedger$Row;") (List.mem_of_getElem? (i := 2) (by decide +kernel))) (fun _ h9 => h9) rfl dX2_addJoins_5 ?_
  refine wr_v (va_runV (As := [.ref (a (i + 3))]) (rest := []) FX (c_X4_copyFrom l G a ha (i + 5) (i + 3) 6 f2 f1 (by omega) (by decide)) (cwV 1 hts gX2_addJoins_X4_copyFrom rfl rfl rfl (by decide +kernel) ⟨Nat.le_of_ble_eq_true rfl, Nat.le_of_ble_eq_true rfl⟩) (preV hK hNW (⟨h_pa, h_p⟩) (va_recv hK h_pa (ci := 4) (q0 := 0) rfl rfl)) rfl rfl hl.1 rfl (lv_room (Nat.le_of_ble_eq_true rfl)) dX2_addJoins_8 ⟨Nat.le_of_ble_eq_true rfl, Nat.le_of_ble_eq_true rfl⟩) hS (orA_l (rng_sub (by omega))) (fun g2 H locs hg2 hP9 hk1 hS => ?_)
  have h_pa : PP G (rowW G a (i + 5) 6 g2) H := hP9
  have h_o : PP G (makO a i l9 s9 k9) H := kp hk1 h_o (dj_cons (rng_no ha (by omega)) (dj_nil))
  have h_p : PP G (rowW G a (i + 3) 6 f1) H := kp hk1 h_p (dj_cons (rng_no ha (by omega)) (dj_cons (rng_no ha (by omega)) (dj_nil)))
  have h_c : PP G (rowW G a (i + 7) 6 f3) H := kp hk1 h_c (dj_cons (rng_no ha (by omega)) (dj_cons (rng_no ha (by omega)) (dj_nil)))
  have h_ca : PP G (rowW G a (i + 9) 6 f4) H := kp hk1 h_ca (dj_cons (rng_no ha (by omega)) (dj_cons (rng_no ha (by omega)) (dj_nil)))
  have h_n : PP G (netW G a j S0.1) H := kp hk1 h_n (dj_rng ha (netW_in (G := G) (a := a) (j := j) (N := S0.1)) (by omega))
  refine lv_aload_n hx hb dX2_addJoins_11 rfl (lv_at hl 0 rfl) ?_
  refine va_get (D := G.1) (ci := 2) (v := .ref (a (i + 9))) (C := RX2) (T := TX2) (N := 10) hx hb hts inX2_addJoins_2 hown hK h_o 0 rfl rfl 4 (by decide) (hts (.fieldLink RX2 29 "GateLedger$Maker" "carriesAhead" "LGateLedger$Row;") (List.mem_of_getElem? (i := 3) (by decide +kernel))) (fun _ h9 => h9) rfl dX2_addJoins_12 ?_
  refine lv_aload_n hx hb dX2_addJoins_15 rfl (lv_at hl 0 rfl) ?_
  refine va_get (D := G.1) (ci := 2) (v := .ref (a (i + 7))) (C := RX2) (T := TX2) (N := 10) hx hb hts inX2_addJoins_2 hown hK h_o 0 rfl rfl 3 (by decide) (hts (.fieldLink RX2 26 "GateLedger$Maker" "carries" "LGateLedger$Row;") (List.mem_of_getElem? (i := 4) (by decide +kernel))) (fun _ h9 => h9) rfl dX2_addJoins_16 ?_
  refine wr_v (va_runV (As := [.ref (a (i + 7))]) (rest := []) FX (c_X4_copyFrom l G a ha (i + 9) (i + 7) 6 f4 f3 (by omega) (by decide)) (cwV 1 hts gX2_addJoins_X4_copyFrom rfl rfl rfl (by decide +kernel) ⟨Nat.le_of_ble_eq_true rfl, Nat.le_of_ble_eq_true rfl⟩) (preV hK hNW (⟨h_ca, h_c⟩) (va_recv hK h_ca (ci := 4) (q0 := 0) rfl rfl)) rfl rfl hl.1 rfl (lv_room (Nat.le_of_ble_eq_true rfl)) dX2_addJoins_19 ⟨Nat.le_of_ble_eq_true rfl, Nat.le_of_ble_eq_true rfl⟩) hS (orA_l (rng_sub (by omega))) (fun g4 H locs hg4 hP9 hk3 hS => ?_)
  have h_ca : PP G (rowW G a (i + 9) 6 g4) H := hP9
  have h_o : PP G (makO a i l9 s9 k9) H := kp hk3 h_o (dj_cons (rng_no ha (by omega)) (dj_nil))
  have h_p : PP G (rowW G a (i + 3) 6 f1) H := kp hk3 h_p (dj_cons (rng_no ha (by omega)) (dj_cons (rng_no ha (by omega)) (dj_nil)))
  have h_pa : PP G (rowW G a (i + 5) 6 g2) H := kp hk3 h_pa (dj_cons (rng_no ha (by omega)) (dj_cons (rng_no ha (by omega)) (dj_nil)))
  have h_c : PP G (rowW G a (i + 7) 6 f3) H := kp hk3 h_c (dj_cons (rng_no ha (by omega)) (dj_cons (rng_no ha (by omega)) (dj_nil)))
  have h_n : PP G (netW G a j S0.1) H := kp hk3 h_n (dj_rng ha (netW_in (G := G) (a := a) (j := j) (N := S0.1)) (by omega))
  refine lv_iconst (v := nI 0) hx hb dX2_addJoins_22 (by decide) ?_
  refine lv_istore (lv' := [(5, .int (nI 0)), (0, .ref (a i)), (1, .ref (a j)), (2, .int (bI q9)), (3, .int (nI w9)), (4, .int (nI (2 ^ n)))]) hx hb dX2_addJoins_23 hl (by decide) rfl (fun ls hl => ?_)
  refine lv_loop3 25 (fun (k : Nat) (f5 : Nat → Int32) (f6 : Nat → Int32) => w9 - k) (fun (k : Nat) (f5 : Nat → Int32) (f6 : Nat → Int32) (H : Heap) (locs : List Loc) (ls : Array Slot) => (PP G (makO a i l9 s9 k9) H) ∧ (PP G (rowW G a (i + 3) 6 f5) H) ∧ (PP G (rowW G a (i + 5) 6 g2) H) ∧ (PP G (rowW G a (i + 7) 6 f6) H) ∧ (PP G (rowW G a (i + 9) 6 g4) H) ∧ (PP G (netW G a j ((joT q9 (2 ^ n) S0 k).1)) H) ∧ (va_S (orA (rng a (i + 3) 8) (rng a j 11)) s.heap H locs) ∧ (lv_has ls 9 [(0, .ref (a i)), (1, .ref (a j)), (2, .int (bI q9)), (3, .int (nI w9)), (4, .int (nI (2 ^ n))), (5, .int (nI k))]) ∧ (k ≤ w9) ∧ (∀ r, r < w9 → f5 r = nI ((joT q9 (2 ^ n) S0 k).2.1 r)) ∧ (∀ r, r < w9 → f6 r = nI ((joT q9 (2 ^ n) S0 k).2.2 r))) (fun _ _ _ => []) (fun k f5 f6 H locs ls hI ih => ?_) 0 f1 f3 ⟨h_o, h_p, h_pa, h_c, h_ca, h_n, hS, lv_sub hl [1, 2, 3, 4, 5, 0] rfl, by omega, hf1, hf3⟩ rfl
  obtain ⟨h_o, h_p, h_pa, h_c, h_ca, h_n, hS, hl, hk, hf5, hf6⟩ := hI
  have ih5 := @ih
  clear ih
  have hJ := joT_g (sp := q9) (d := 2 ^ n) (s := S0) k
  refine lv_iload hx hb dX2_addJoins_25 (lv_at hl 5 rfl) ?_
  refine lv_iload_n hx hb dX2_addJoins_27 rfl (lv_at hl 3 rfl) ?_
  refine lv_icmp_ge (tgt := 142) hx hb dX2_addJoins_28 (by decide) (fun c28 => ?_) (fun c28 => ?_)
  · skip
    have c28 := cv_le (by omega) (by omega) c28
    have ek : k = w9 := by omega
    exact en_wv (f5, g2, f6, g4) hx hb hr hlocks hS (⟨ek ▸ hf5, ek ▸ hf6⟩) (⟨h_o, h_p, h_pa, h_c, h_ca, ek ▸ h_n⟩) dX2_addJoins_142
  · skip
    have c28 := cv_nle (by omega) (by omega) c28
    have hjl := jp_le (sp := q9) (d := 2 ^ n) (k := k) Nat.one_le_two_pow
    have hp2 := pow_case (n := n) (by omega)
    refine lv_lab1 50 (fun (jv : Int32) (H : Heap) (locs : List Loc) (ls : Array Slot) => (PP G (makO a i l9 s9 k9) H) ∧ (PP G (rowW G a (i + 3) 6 f5) H) ∧ (PP G (rowW G a (i + 5) 6 g2) H) ∧ (PP G (rowW G a (i + 7) 6 f6) H) ∧ (PP G (rowW G a (i + 9) 6 g4) H) ∧ (PP G (netW G a j ((joT q9 (2 ^ n) S0 k).1)) H) ∧ (va_S (orA (rng a (i + 3) 8) (rng a j 11)) s.heap H locs) ∧ (lv_has ls 9 [(0, .ref (a i)), (1, .ref (a j)), (2, .int (bI q9)), (3, .int (nI w9)), (4, .int (nI (2 ^ n))), (5, .int (nI k))]) ∧ ((jp q9 (2 ^ n) k = 0 ∧ jv < 0) ∨ (jp q9 (2 ^ n) k ≠ 0 ∧ jv = nI (jp q9 (2 ^ n) k - 1)))) (fun (jv : Int32) => [.int jv]) (fun jv H locs ls hI => ?_) (fun lab6 => ?_)
    · skip
      obtain ⟨h_o, h_p, h_pa, h_c, h_ca, h_n, hS, hl, hj⟩ := hI
      refine lv_istore (lv' := [(6, .int jv), (0, .ref (a i)), (1, .ref (a j)), (2, .int (bI q9)), (3, .int (nI w9)), (4, .int (nI (2 ^ n))), (5, .int (nI k))]) hx hb dX2_addJoins_50 hl (by decide) rfl (fun ls hl => ?_)
      refine lv_iload hx hb dX2_addJoins_52 (lv_at hl 0 rfl) ?_
      refine lv_if_lt (tgt := 136) hx hb dX2_addJoins_54 (by decide) (fun c54 => ?_) (fun c54 => ?_)
      · skip
        have hj9 : jp q9 (2 ^ n) k = 0 := jv_neg hj c54 (by omega)
        refine lv_iinc (v := nI (k + 1)) (lv' := [(5, .int (nI (k + 1))), (6, .int jv), (0, .ref (a i)), (1, .ref (a j)), (2, .int (bI q9)), (3, .int (nI w9)), (4, .int (nI (2 ^ n)))]) hx hb dX2_addJoins_136 hl (k := 6) rfl (by first | exact nI_add _ 1 | decide) (by decide) rfl (fun ls hl => ?_)
        refine lv_goto (tgt := 25) hx hb dX2_addJoins_139 (by decide) ?_
        exact ih5 (k + 1) f5 f6 _ _ _ ⟨h_o, h_p, h_pa, h_c, h_ca, (by rw [show joT q9 (2 ^ n) S0 (k + 1) = joT q9 (2 ^ n) S0 k from if_pos hj9]; exact h_n), hS, lv_sub hl [2, 3, 4, 5, 6, 0] rfl, by omega, fun r h => by rw [show joT q9 (2 ^ n) S0 (k + 1) = joT q9 (2 ^ n) S0 k from if_pos hj9]; exact hf5 r h, fun r h => by rw [show joT q9 (2 ^ n) S0 (k + 1) = joT q9 (2 ^ n) S0 k from if_pos hj9]; exact hf6 r h⟩ (by show w9 - (k + 1) < w9 - k; omega)
      · skip
        obtain ⟨hj9, hje⟩ := jv_pos hj c54
        rw [hje] at hl
        refine lv_aload_n hx hb dX2_addJoins_57 rfl (lv_at hl 1 rfl) ?_
        refine va_get (D := G.1) (ci := 2) (v := .ref (a (i + 5))) (C := RX2) (T := TX2) (N := 10) hx hb hts inX2_addJoins_2 hown hK h_o 0 rfl rfl 2 (by decide) (hts (.fieldLink RX2 23 "GateLedger$Maker" "passesAhead" "LGateLedger$Row;") (List.mem_of_getElem? (i := 1) (by decide +kernel))) (fun _ h9 => h9) rfl dX2_addJoins_58 ?_
        refine lv_iload hx hb dX2_addJoins_61 (lv_at hl 6 rfl) ?_
        refine ro_i (va_runV (As := [.int (nI k)]) (rest := []) FX (c_X4_at l G a (i + 5) 6 g2 (nI k) (by decide)) (cwV 1 hts gX2_addJoins_X4_at rfl rfl rfl (by decide +kernel) ⟨Nat.le_of_ble_eq_true rfl, Nat.le_of_ble_eq_true rfl⟩) (preV hK hNW (va_P.sub h_pa [0, 1] rfl) (va_recv hK h_pa (ci := 4) (q0 := 0) rfl rfl)) rfl rfl hl.1 rfl (lv_room (Nat.le_of_ble_eq_true rfl)) dX2_addJoins_63 ⟨Nat.le_of_ble_eq_true rfl, Nat.le_of_ble_eq_true rfl⟩) ?_
        refine lv_as (y := nI (S0.2.1 k)) ((rowAt_in (by omega) (by decide)).trans ((hg2 _ (by omega)).trans (hf1 _ (by omega)))) ?_
        refine lv_istore (lv' := [(7, .int (nI (S0.2.1 k))), (6, .int (nI (jp q9 (2 ^ n) k - 1))), (0, .ref (a i)), (1, .ref (a j)), (2, .int (bI q9)), (3, .int (nI w9)), (4, .int (nI (2 ^ n))), (5, .int (nI k))]) hx hb dX2_addJoins_66 hl (by decide) rfl (fun ls hl => ?_)
        refine lv_aload_n hx hb dX2_addJoins_68 rfl (lv_at hl 3 rfl) ?_
        refine lv_iconst (v := nI 0) hx hb dX2_addJoins_69 (by decide) ?_
        refine lv_iload hx hb dX2_addJoins_70 (lv_at hl 0 rfl) ?_
        refine lv_aload_n hx hb dX2_addJoins_72 rfl (lv_at hl 2 rfl) ?_
        refine va_get (D := G.1) (ci := 2) (v := .ref (a (i + 9))) (C := RX2) (T := TX2) (N := 10) hx hb hts inX2_addJoins_2 hown hK h_o 0 rfl rfl 4 (by decide) (hts (.fieldLink RX2 29 "GateLedger$Maker" "carriesAhead" "LGateLedger$Row;") (List.mem_of_getElem? (i := 3) (by decide +kernel))) (fun _ h9 => h9) rfl dX2_addJoins_73 ?_
        refine lv_iload hx hb dX2_addJoins_76 (lv_at hl 1 rfl) ?_
        refine ro_i (va_runV (As := [.int (nI (jp q9 (2 ^ n) k - 1))]) (rest := [.int (nI (S0.2.1 k)), .int (nI 0), .ref (a j)]) FX (c_X4_at l G a (i + 9) 6 g4 (nI (jp q9 (2 ^ n) k - 1)) (by decide)) (cwV 1 hts gX2_addJoins_X4_at rfl rfl rfl (by decide +kernel) ⟨Nat.le_of_ble_eq_true rfl, Nat.le_of_ble_eq_true rfl⟩) (preV hK hNW (va_P.sub h_ca [0, 1] rfl) (va_recv hK h_ca (ci := 4) (q0 := 0) rfl rfl)) rfl rfl hl.1 rfl (lv_room (Nat.le_of_ble_eq_true rfl)) dX2_addJoins_78 ⟨Nat.le_of_ble_eq_true rfl, Nat.le_of_ble_eq_true rfl⟩) ?_
        refine lv_as (y := nI (S0.2.2 (jp q9 (2 ^ n) k - 1))) ((rowAt_in (by omega) (by decide)).trans ((hg4 _ (by omega)).trans (hf3 _ (by omega)))) ?_
        refine wr_i (va_runV (As := [.int (nI 0), .int (nI (S0.2.1 k)), .int (nI (S0.2.2 (jp q9 (2 ^ n) k - 1)))]) (rest := []) FX (c_X3_addJoined l G a ha j ((joT q9 (2 ^ n) S0 k).1) 0 (S0.2.1 k) (S0.2.2 (jp q9 (2 ^ n) k - 1)) (nI (S0.2.2 (jp q9 (2 ^ n) k - 1))) (by decide) (fun _ => rfl) (show nG (joT q9 (2 ^ n) S0 k).1 < 120 by omega)) (cwV 3 hts gX2_addJoins_X3_addJoined rfl rfl rfl (by decide +kernel) ⟨Nat.le_of_ble_eq_true rfl, Nat.le_of_ble_eq_true rfl⟩) (preV hK hNW h_n (va_recv hK h_n (ci := 3) (q0 := 0) rfl rfl)) rfl rfl hl.1 rfl (lv_room (Nat.le_of_ble_eq_true rfl)) dX2_addJoins_81 ⟨Nat.le_of_ble_eq_true rfl, Nat.le_of_ble_eq_true rfl⟩) hS (orA_r (fun _ q => q)) (fun rr _ H locs er hP9 hk7 hS => ?_)
        have h_n : PP G (netW G a j (addG ((joT q9 (2 ^ n) S0 k).1) 0 (S0.2.1 k) (S0.2.2 (jp q9 (2 ^ n) k - 1)))) H := hP9
        have h_o : PP G (makO a i l9 s9 k9) H := kp hk7 h_o (dj_cons (rng_no ha (by omega)) (dj_nil))
        have h_p : PP G (rowW G a (i + 3) 6 f5) H := kp hk7 h_p (dj_cons (rng_no ha (by omega)) (dj_cons (rng_no ha (by omega)) (dj_nil)))
        have h_pa : PP G (rowW G a (i + 5) 6 g2) H := kp hk7 h_pa (dj_cons (rng_no ha (by omega)) (dj_cons (rng_no ha (by omega)) (dj_nil)))
        have h_c : PP G (rowW G a (i + 7) 6 f6) H := kp hk7 h_c (dj_cons (rng_no ha (by omega)) (dj_cons (rng_no ha (by omega)) (dj_nil)))
        have h_ca : PP G (rowW G a (i + 9) 6 g4) H := kp hk7 h_ca (dj_cons (rng_no ha (by omega)) (dj_cons (rng_no ha (by omega)) (dj_nil)))
        refine lv_as (y := nI (nG (joT q9 (2 ^ n) S0 k).1)) er ?_
        refine lv_istore (lv' := [(8, .int (nI (nG (joT q9 (2 ^ n) S0 k).1))), (7, .int (nI (S0.2.1 k))), (6, .int (nI (jp q9 (2 ^ n) k - 1))), (0, .ref (a i)), (1, .ref (a j)), (2, .int (bI q9)), (3, .int (nI w9)), (4, .int (nI (2 ^ n))), (5, .int (nI k))]) hx hb dX2_addJoins_84 hl (by decide) rfl (fun ls hl => ?_)
        refine lv_aload_n hx hb dX2_addJoins_86 rfl (lv_at hl 3 rfl) ?_
        refine va_get (D := G.1) (ci := 2) (v := .ref (a (i + 7))) (C := RX2) (T := TX2) (N := 10) hx hb hts inX2_addJoins_2 hown hK h_o 0 rfl rfl 3 (by decide) (hts (.fieldLink RX2 26 "GateLedger$Maker" "carries" "LGateLedger$Row;") (List.mem_of_getElem? (i := 4) (by decide +kernel))) (fun _ h9 => h9) rfl dX2_addJoins_87 ?_
        refine lv_iload hx hb dX2_addJoins_90 (lv_at hl 8 rfl) ?_
        refine lv_aload_n hx hb dX2_addJoins_92 rfl (lv_at hl 4 rfl) ?_
        refine lv_iconst (v := nI 1) hx hb dX2_addJoins_93 (by decide) ?_
        refine lv_aload_n hx hb dX2_addJoins_94 rfl (lv_at hl 3 rfl) ?_
        refine va_get (D := G.1) (ci := 2) (v := .ref (a (i + 9))) (C := RX2) (T := TX2) (N := 10) hx hb hts inX2_addJoins_2 hown hK h_o 0 rfl rfl 4 (by decide) (hts (.fieldLink RX2 29 "GateLedger$Maker" "carriesAhead" "LGateLedger$Row;") (List.mem_of_getElem? (i := 3) (by decide +kernel))) (fun _ h9 => h9) rfl dX2_addJoins_95 ?_
        refine lv_iload hx hb dX2_addJoins_98 (lv_at hl 8 rfl) ?_
        refine ro_i (va_runV (As := [.int (nI k)]) (rest := [.int (nI 1), .ref (a j), .int (nI k), .ref (a (i + 7))]) FX (c_X4_at l G a (i + 9) 6 g4 (nI k) (by decide)) (cwV 1 hts gX2_addJoins_X4_at rfl rfl rfl (by decide +kernel) ⟨Nat.le_of_ble_eq_true rfl, Nat.le_of_ble_eq_true rfl⟩) (preV hK hNW (va_P.sub h_ca [0, 1] rfl) (va_recv hK h_ca (ci := 4) (q0 := 0) rfl rfl)) rfl rfl hl.1 rfl (lv_room (Nat.le_of_ble_eq_true rfl)) dX2_addJoins_100 ⟨Nat.le_of_ble_eq_true rfl, Nat.le_of_ble_eq_true rfl⟩) ?_
        refine lv_as (y := nI (S0.2.2 k)) ((rowAt_in (by omega) (by decide)).trans ((hg4 _ (by omega)).trans (hf3 _ (by omega)))) ?_
        refine lv_iload hx hb dX2_addJoins_103 (lv_at hl 0 rfl) ?_
        refine wr_i (va_runV (As := [.int (nI 1), .int (nI (S0.2.2 k)), .int (nI (nG (joT q9 (2 ^ n) S0 k).1))]) (rest := [.int (nI k), .ref (a (i + 7))]) FX (c_X3_addJoined l G a ha j (addG ((joT q9 (2 ^ n) S0 k).1) 0 (S0.2.1 k) (S0.2.2 (jp q9 (2 ^ n) k - 1))) 1 (S0.2.2 k) (nG (joT q9 (2 ^ n) S0 k).1) (nI (nG (joT q9 (2 ^ n) S0 k).1)) (by decide) (fun _ => rfl) (show nG (joT q9 (2 ^ n) S0 k).1 + 1 < 120 by omega)) (cwV 3 hts gX2_addJoins_X3_addJoined rfl rfl rfl (by decide +kernel) ⟨Nat.le_of_ble_eq_true rfl, Nat.le_of_ble_eq_true rfl⟩) (preV hK hNW h_n (va_recv hK h_n (ci := 3) (q0 := 0) rfl rfl)) rfl rfl hl.1 rfl (lv_room (Nat.le_of_ble_eq_true rfl)) dX2_addJoins_105 ⟨Nat.le_of_ble_eq_true rfl, Nat.le_of_ble_eq_true rfl⟩) hS (orA_r (fun _ q => q)) (fun rr _ H locs er hP9 hk9 hS => ?_)
        have h_n : PP G (netW G a j (addG (addG ((joT q9 (2 ^ n) S0 k).1) 0 (S0.2.1 k) (S0.2.2 (jp q9 (2 ^ n) k - 1))) 1 (S0.2.2 k) (nG (joT q9 (2 ^ n) S0 k).1))) H := hP9
        have h_o : PP G (makO a i l9 s9 k9) H := kp hk9 h_o (dj_cons (rng_no ha (by omega)) (dj_nil))
        have h_p : PP G (rowW G a (i + 3) 6 f5) H := kp hk9 h_p (dj_cons (rng_no ha (by omega)) (dj_cons (rng_no ha (by omega)) (dj_nil)))
        have h_pa : PP G (rowW G a (i + 5) 6 g2) H := kp hk9 h_pa (dj_cons (rng_no ha (by omega)) (dj_cons (rng_no ha (by omega)) (dj_nil)))
        have h_c : PP G (rowW G a (i + 7) 6 f6) H := kp hk9 h_c (dj_cons (rng_no ha (by omega)) (dj_cons (rng_no ha (by omega)) (dj_nil)))
        have h_ca : PP G (rowW G a (i + 9) 6 g4) H := kp hk9 h_ca (dj_cons (rng_no ha (by omega)) (dj_cons (rng_no ha (by omega)) (dj_nil)))
        refine lv_as (y := nI (nG (joT q9 (2 ^ n) S0 k).1 + 1)) er ?_
        refine wr_v (va_runV (As := [.int (nI k), .int (nI (nG (joT q9 (2 ^ n) S0 k).1 + 1))]) (rest := []) FX (c_X4_put l G a ha (i + 7) 6 f6 (nI k) (nI (nG (joT q9 (2 ^ n) S0 k).1 + 1)) (by decide)) (cwV 2 hts gX2_addJoins_X4_put rfl rfl rfl (by decide +kernel) ⟨Nat.le_of_ble_eq_true rfl, Nat.le_of_ble_eq_true rfl⟩) (preV hK hNW h_c (va_recv hK h_c (ci := 4) (q0 := 0) rfl rfl)) rfl rfl hl.1 rfl (lv_room (Nat.le_of_ble_eq_true rfl)) dX2_addJoins_108 ⟨Nat.le_of_ble_eq_true rfl, Nat.le_of_ble_eq_true rfl⟩) hS (orA_l (rng_sub (by omega))) (fun _ H locs _ hP9 hk11 hS => ?_)
        rw [rowPut_in (by omega) (by decide)] at hP9
        have h_c : PP G (rowW G a (i + 7) 6 (upd f6 k (nI (nG (joT q9 (2 ^ n) S0 k).1 + 1)))) H := hP9
        have h_o : PP G (makO a i l9 s9 k9) H := kp hk11 h_o (dj_cons (rng_no ha (by omega)) (dj_nil))
        have h_p : PP G (rowW G a (i + 3) 6 f5) H := kp hk11 h_p (dj_cons (rng_no ha (by omega)) (dj_cons (rng_no ha (by omega)) (dj_nil)))
        have h_pa : PP G (rowW G a (i + 5) 6 g2) H := kp hk11 h_pa (dj_cons (rng_no ha (by omega)) (dj_cons (rng_no ha (by omega)) (dj_nil)))
        have h_ca : PP G (rowW G a (i + 9) 6 g4) H := kp hk11 h_ca (dj_cons (rng_no ha (by omega)) (dj_cons (rng_no ha (by omega)) (dj_nil)))
        have h_n : PP G (netW G a j (addG (addG ((joT q9 (2 ^ n) S0 k).1) 0 (S0.2.1 k) (S0.2.2 (jp q9 (2 ^ n) k - 1))) 1 (S0.2.2 k) (nG (joT q9 (2 ^ n) S0 k).1))) H := kp hk11 h_n (dj_rng ha (netW_in (G := G) (a := a) (j := j) (N := addG (addG ((joT q9 (2 ^ n) S0 k).1) 0 (S0.2.1 k) (S0.2.2 (jp q9 (2 ^ n) k - 1))) 1 (S0.2.2 k) (nG (joT q9 (2 ^ n) S0 k).1))) (by omega))
        refine lv_aload_n hx hb dX2_addJoins_111 rfl (lv_at hl 3 rfl) ?_
        refine va_get (D := G.1) (ci := 2) (v := .ref (a (i + 3))) (C := RX2) (T := TX2) (N := 10) hx hb hts inX2_addJoins_2 hown hK h_o 0 rfl rfl 1 (by decide) (hts (.fieldLink RX2 20 "GateLedger$Maker" "passes" "LGateLedger$Row;") (List.mem_of_getElem? (i := 2) (by decide +kernel))) (fun _ h9 => h9) rfl dX2_addJoins_112 ?_
        refine lv_iload hx hb dX2_addJoins_115 (lv_at hl 8 rfl) ?_
        refine lv_aload_n hx hb dX2_addJoins_117 rfl (lv_at hl 4 rfl) ?_
        refine lv_iconst (v := nI 0) hx hb dX2_addJoins_118 (by decide) ?_
        refine lv_iload hx hb dX2_addJoins_119 (lv_at hl 1 rfl) ?_
        refine lv_aload_n hx hb dX2_addJoins_121 rfl (lv_at hl 3 rfl) ?_
        refine va_get (D := G.1) (ci := 2) (v := .ref (a (i + 5))) (C := RX2) (T := TX2) (N := 10) hx hb hts inX2_addJoins_2 hown hK h_o 0 rfl rfl 2 (by decide) (hts (.fieldLink RX2 23 "GateLedger$Maker" "passesAhead" "LGateLedger$Row;") (List.mem_of_getElem? (i := 1) (by decide +kernel))) (fun _ h9 => h9) rfl dX2_addJoins_122 ?_
        refine lv_iload hx hb dX2_addJoins_125 (lv_at hl 2 rfl) ?_
        refine ro_i (va_runV (As := [.int (nI (jp q9 (2 ^ n) k - 1))]) (rest := [.int (nI (S0.2.1 k)), .int (nI 0), .ref (a j), .int (nI k), .ref (a (i + 3))]) FX (c_X4_at l G a (i + 5) 6 g2 (nI (jp q9 (2 ^ n) k - 1)) (by decide)) (cwV 1 hts gX2_addJoins_X4_at rfl rfl rfl (by decide +kernel) ⟨Nat.le_of_ble_eq_true rfl, Nat.le_of_ble_eq_true rfl⟩) (preV hK hNW (va_P.sub h_pa [0, 1] rfl) (va_recv hK h_pa (ci := 4) (q0 := 0) rfl rfl)) rfl rfl hl.1 rfl (lv_room (Nat.le_of_ble_eq_true rfl)) dX2_addJoins_127 ⟨Nat.le_of_ble_eq_true rfl, Nat.le_of_ble_eq_true rfl⟩) ?_
        refine lv_as (y := nI (S0.2.1 (jp q9 (2 ^ n) k - 1))) ((rowAt_in (by omega) (by decide)).trans ((hg2 _ (by omega)).trans (hf1 _ (by omega)))) ?_
        refine wr_i (va_runV (As := [.int (nI 0), .int (nI (S0.2.1 k)), .int (nI (S0.2.1 (jp q9 (2 ^ n) k - 1)))]) (rest := [.int (nI k), .ref (a (i + 3))]) FX (c_X3_addJoined l G a ha j (addG (addG ((joT q9 (2 ^ n) S0 k).1) 0 (S0.2.1 k) (S0.2.2 (jp q9 (2 ^ n) k - 1))) 1 (S0.2.2 k) (nG (joT q9 (2 ^ n) S0 k).1)) 0 (S0.2.1 k) (S0.2.1 (jp q9 (2 ^ n) k - 1)) (nI (S0.2.1 (jp q9 (2 ^ n) k - 1))) (by decide) (fun _ => rfl) (show nG (joT q9 (2 ^ n) S0 k).1 + 2 < 120 by omega)) (cwV 3 hts gX2_addJoins_X3_addJoined rfl rfl rfl (by decide +kernel) ⟨Nat.le_of_ble_eq_true rfl, Nat.le_of_ble_eq_true rfl⟩) (preV hK hNW h_n (va_recv hK h_n (ci := 3) (q0 := 0) rfl rfl)) rfl rfl hl.1 rfl (lv_room (Nat.le_of_ble_eq_true rfl)) dX2_addJoins_130 ⟨Nat.le_of_ble_eq_true rfl, Nat.le_of_ble_eq_true rfl⟩) hS (orA_r (fun _ q => q)) (fun rr _ H locs er hP9 hk13 hS => ?_)
        have h_n : PP G (netW G a j (addG (addG (addG ((joT q9 (2 ^ n) S0 k).1) 0 (S0.2.1 k) (S0.2.2 (jp q9 (2 ^ n) k - 1))) 1 (S0.2.2 k) (nG (joT q9 (2 ^ n) S0 k).1)) 0 (S0.2.1 k) (S0.2.1 (jp q9 (2 ^ n) k - 1)))) H := hP9
        have h_o : PP G (makO a i l9 s9 k9) H := kp hk13 h_o (dj_cons (rng_no ha (by omega)) (dj_nil))
        have h_p : PP G (rowW G a (i + 3) 6 f5) H := kp hk13 h_p (dj_cons (rng_no ha (by omega)) (dj_cons (rng_no ha (by omega)) (dj_nil)))
        have h_pa : PP G (rowW G a (i + 5) 6 g2) H := kp hk13 h_pa (dj_cons (rng_no ha (by omega)) (dj_cons (rng_no ha (by omega)) (dj_nil)))
        have h_c : PP G (rowW G a (i + 7) 6 (upd f6 k (nI (nG (joT q9 (2 ^ n) S0 k).1 + 1)))) H := kp hk13 h_c (dj_cons (rng_no ha (by omega)) (dj_cons (rng_no ha (by omega)) (dj_nil)))
        have h_ca : PP G (rowW G a (i + 9) 6 g4) H := kp hk13 h_ca (dj_cons (rng_no ha (by omega)) (dj_cons (rng_no ha (by omega)) (dj_nil)))
        refine lv_as (y := nI (nG (joT q9 (2 ^ n) S0 k).1 + 2)) er ?_
        refine wr_v (va_runV (As := [.int (nI k), .int (nI (nG (joT q9 (2 ^ n) S0 k).1 + 2))]) (rest := []) FX (c_X4_put l G a ha (i + 3) 6 f5 (nI k) (nI (nG (joT q9 (2 ^ n) S0 k).1 + 2)) (by decide)) (cwV 2 hts gX2_addJoins_X4_put rfl rfl rfl (by decide +kernel) ⟨Nat.le_of_ble_eq_true rfl, Nat.le_of_ble_eq_true rfl⟩) (preV hK hNW h_p (va_recv hK h_p (ci := 4) (q0 := 0) rfl rfl)) rfl rfl hl.1 rfl (lv_room (Nat.le_of_ble_eq_true rfl)) dX2_addJoins_133 ⟨Nat.le_of_ble_eq_true rfl, Nat.le_of_ble_eq_true rfl⟩) hS (orA_l (rng_sub (by omega))) (fun _ H locs _ hP9 hk15 hS => ?_)
        rw [rowPut_in (by omega) (by decide)] at hP9
        have h_p : PP G (rowW G a (i + 3) 6 (upd f5 k (nI (nG (joT q9 (2 ^ n) S0 k).1 + 2)))) H := hP9
        have h_o : PP G (makO a i l9 s9 k9) H := kp hk15 h_o (dj_cons (rng_no ha (by omega)) (dj_nil))
        have h_pa : PP G (rowW G a (i + 5) 6 g2) H := kp hk15 h_pa (dj_cons (rng_no ha (by omega)) (dj_cons (rng_no ha (by omega)) (dj_nil)))
        have h_c : PP G (rowW G a (i + 7) 6 (upd f6 k (nI (nG (joT q9 (2 ^ n) S0 k).1 + 1)))) H := kp hk15 h_c (dj_cons (rng_no ha (by omega)) (dj_cons (rng_no ha (by omega)) (dj_nil)))
        have h_ca : PP G (rowW G a (i + 9) 6 g4) H := kp hk15 h_ca (dj_cons (rng_no ha (by omega)) (dj_cons (rng_no ha (by omega)) (dj_nil)))
        have h_n : PP G (netW G a j (addG (addG (addG ((joT q9 (2 ^ n) S0 k).1) 0 (S0.2.1 k) (S0.2.2 (jp q9 (2 ^ n) k - 1))) 1 (S0.2.2 k) (nG (joT q9 (2 ^ n) S0 k).1)) 0 (S0.2.1 k) (S0.2.1 (jp q9 (2 ^ n) k - 1)))) H := kp hk15 h_n (dj_rng ha (netW_in (G := G) (a := a) (j := j) (N := addG (addG (addG ((joT q9 (2 ^ n) S0 k).1) 0 (S0.2.1 k) (S0.2.2 (jp q9 (2 ^ n) k - 1))) 1 (S0.2.2 k) (nG (joT q9 (2 ^ n) S0 k).1)) 0 (S0.2.1 k) (S0.2.1 (jp q9 (2 ^ n) k - 1)))) (by omega))
        refine lv_iinc (v := nI (k + 1)) (lv' := [(5, .int (nI (k + 1))), (8, .int (nI (nG (joT q9 (2 ^ n) S0 k).1))), (7, .int (nI (S0.2.1 k))), (6, .int (nI (jp q9 (2 ^ n) k - 1))), (0, .ref (a i)), (1, .ref (a j)), (2, .int (bI q9)), (3, .int (nI w9)), (4, .int (nI (2 ^ n)))]) hx hb dX2_addJoins_136 hl (k := 8) rfl (by first | exact nI_add _ 1 | decide) (by decide) rfl (fun ls hl => ?_)
        refine lv_goto (tgt := 25) hx hb dX2_addJoins_139 (by decide) ?_
        exact ih5 (k + 1) (upd f5 k (nI (nG (joT q9 (2 ^ n) S0 k).1 + 2))) (upd f6 k (nI (nG (joT q9 (2 ^ n) S0 k).1 + 1))) _ _ _ ⟨h_o, h_p, h_pa, h_c, h_ca, (by rw [show joT q9 (2 ^ n) S0 (k + 1) = _ from jst_y hj9]; exact h_n), hS, lv_sub hl [4, 5, 6, 7, 8, 0] rfl, by omega, fun r h => by rw [show joT q9 (2 ^ n) S0 (k + 1) = _ from jst_y hj9]; exact upd_unr hf5 r h, fun r h => by rw [show joT q9 (2 ^ n) S0 (k + 1) = _ from jst_y hj9]; exact upd_unr hf6 r h⟩ (by show w9 - (k + 1) < w9 - k; omega)
    refine lv_iload_n hx hb dX2_addJoins_31 rfl (lv_at hl 2 rfl) ?_
    refine lv_if_eq (tgt := 45) hx hb dX2_addJoins_32 (by decide) (fun c32 => ?_) (fun c32 => ?_)
    · skip
      have c32 := bI_0.mp c32
      refine lv_iload hx hb dX2_addJoins_45 (lv_at hl 5 rfl) ?_
      refine lv_iload hx hb dX2_addJoins_47 (lv_at hl 4 rfl) ?_
      refine lv_isub hx hb dX2_addJoins_49 ?_
      exact lab6 (nI k - nI (2 ^ n)) _ _ _ ⟨h_o, h_p, h_pa, h_c, h_ca, h_n, hS, lv_sub hl [0, 1, 2, 3, 4, 5] rfl, jv_ju c32 (by omega) (by omega)⟩
    · skip
      have c32 := bI_1 c32
      refine lv_iload hx hb dX2_addJoins_35 (lv_at hl 5 rfl) ?_
      refine lv_iload hx hb dX2_addJoins_37 (lv_at hl 4 rfl) ?_
      refine ro_i (va_runS (As := [.int (nI k), .int (nI (2 ^ n))]) (rest := []) FX (c_X2_spreadPartner l G k n (by omega) hn) (va_cwS 2 hts gX2_addJoins_X2_spreadPartner rfl rfl rfl (by decide +kernel) ⟨Nat.le_of_ble_eq_true rfl, Nat.le_of_ble_eq_true rfl⟩) (preS hK hNW trivial) rfl rfl hl.1 rfl (lv_room (Nat.le_of_ble_eq_true rfl)) dX2_addJoins_39 ⟨Nat.le_of_ble_eq_true rfl, Nat.le_of_ble_eq_true rfl⟩) ?_
      refine lv_goto (tgt := 50) hx hb dX2_addJoins_42 (by decide) ?_
      exact lab6 (nI (if k / 2 ^ n % 2 = 1 then k / 2 ^ n * 2 ^ n else 0) - nI 1) _ _ _ ⟨h_o, h_p, h_pa, h_c, h_ca, h_n, hS, lv_sub hl [0, 1, 2, 3, 4, 5] rfl, jv_sp c32 (by omega)⟩
set_option maxRecDepth 20000 in
theorem inX2_makeJoining_2 : ∀ w ∈ u_ws RX2 TX2 10, w ∈ wsX2_makeJoining := by decide +kernel
set_option maxHeartbeats 4000000 in
set_option maxRecDepth 100000 in
/-- Maker.makeJoining -/
theorem c_X2_makeJoining (l : Launch) (G : GG) (a : Nat → Nat) (ha : Inj a) (i j : Nat) (hij : i + 15 ≤ j ∨ j + 11 ≤ i) (l9 s9 k9 : Int32) (f0 f1 f2 f3 f4 : Nat → Int32) (N : NT) (q9 : Prop) [Decidable q9] (w9 : Nat) (hw : 1 ≤ w9 ∧ w9 ≤ 6) (hg : nG N = 0) (ho : nO N = 0) : Met l yX2_makeJoining wsX2_makeJoining ({ frames := 4, cells := 0, slots := 0, locals := 97 } : Room) (PcB G [.ref (a i), .ref (a j), .int (bI q9), .int (nI w9)] (fun H => PP G (makO a i l9 s9 k9) H ∧ PP G (rowW G a (i + 1) 6 f0) H ∧ PP G (rowW G a (i + 3) 6 f1) H ∧ PP G (rowW G a (i + 5) 6 f2) H ∧ PP G (rowW G a (i + 7) 6 f3) H ∧ PP G (rowW G a (i + 9) 6 f4) H ∧ PP G (netW G a j N) H)) (QV (fun _ : Int32 × Int32 × (Nat → Int32) × (Nat → Int32) × (Nat → Int32) × (Nat → Int32) × (Nat → Int32) => True) (fun u H => PP G (makO a i l9 u.1 u.2.1) H ∧ PP G (rowW G a (i + 1) 6 u.2.2.1) H ∧ PP G (rowW G a (i + 3) 6 u.2.2.2.1) H ∧ PP G (rowW G a (i + 5) 6 u.2.2.2.2.1) H ∧ PP G (rowW G a (i + 7) 6 u.2.2.2.2.2.1) H ∧ PP G (rowW G a (i + 9) 6 u.2.2.2.2.2.2) H ∧ PP G (netW G a j (joiN q9 N w9)) H) (orA (rng a i 11) (rng a j 11))) 0 0 (orA (rng a i 11) (rng a j 11)) := by
  refine Met.ofW (cc := cX2_makeJoining) (maxL := 5) (ret := none) (by decide) rfl ?_
  intro p e s m args below meth c s₁ B hml hv
  obtain ⟨rfl, hB, hK, hNW⟩ := hv
  have hx := B.exec
  have hb := B.bytes
  have hr := B.returns
  have hts := atoms_spec (ws := wsX2_makeJoining) B.pre
  have hown : s.vm.findClass RX2 = some m.cls := findClass_of_methodNamed B.named
  have hlocks := B.notSynchronized
  have FX : CallFix p m c cX2_makeJoining 5 s ([.ref (a i), .ref (a j), .int (bI q9), .int (nI w9)] : List Value).toArray wsX2_makeJoining RX2 := ⟨hx, hb, hml, hown, hts⟩
  have hl := lv_entry ([.ref (a i), .ref (a j), .int (bI q9), .int (nI w9)]) (n := 5) (Nat.le_of_ble_eq_true rfl)
  rw [lg_entry_eq]
  generalize (lg_sl ([.ref (a i), .ref (a j), .int (bI q9), .int (nI w9)]) ++ List.replicate (5 - (lg_sl ([.ref (a i), .ref (a j), .int (bI q9), .int (nI w9)])).length) Slot.unset).toArray = ls at hl ⊢
  have hl : lv_has ls 5 [(0, .ref (a i)), (1, .ref (a j)), (2, .int (bI q9)), (3, .int (nI w9))] := hl
  obtain ⟨h_o, h_u, h_p, h_pa, h_c, h_ca, h_n⟩ := hB
  have hS : va_S (orA (rng a i 11) (rng a j 11)) s.heap s.heap [] := va_S.rf
  refine lv_aload_n hx hb dX2_makeJoining_0 rfl (lv_at hl 0 rfl) ?_
  refine lv_aload_n hx hb dX2_makeJoining_1 rfl (lv_at hl 1 rfl) ?_
  refine lv_iload_n hx hb dX2_makeJoining_2 rfl (lv_at hl 3 rfl) ?_
  refine wr_v (va_runV (As := [.ref (a j), .int (nI w9)]) (rest := []) FX (c_X2_addInputs l G a ha i j N w9 (by omega)) (cwV 2 hts gX2_makeJoining_X2_addInputs rfl rfl rfl (by decide +kernel) ⟨Nat.le_of_ble_eq_true rfl, Nat.le_of_ble_eq_true rfl⟩) (preV hK hNW h_n (va_recv hK h_o (ci := 2) (q0 := 0) rfl rfl)) rfl rfl hl.1 rfl (lv_room (Nat.le_of_ble_eq_true rfl)) dX2_makeJoining_3 ⟨Nat.le_of_ble_eq_true rfl, Nat.le_of_ble_eq_true rfl⟩) hS (orA_r (fun _ q => q)) (fun _ H locs _ hP9 hk1 hS => ?_)
  have h_n : PP G (netW G a j (inN N (2 * w9))) H := hP9
  have h_o : PP G (makO a i l9 s9 k9) H := kp hk1 h_o (dj_cons (rng_no ha (by omega)) (dj_nil))
  have h_u : PP G (rowW G a (i + 1) 6 f0) H := kp hk1 h_u (dj_cons (rng_no ha (by omega)) (dj_cons (rng_no ha (by omega)) (dj_nil)))
  have h_p : PP G (rowW G a (i + 3) 6 f1) H := kp hk1 h_p (dj_cons (rng_no ha (by omega)) (dj_cons (rng_no ha (by omega)) (dj_nil)))
  have h_pa : PP G (rowW G a (i + 5) 6 f2) H := kp hk1 h_pa (dj_cons (rng_no ha (by omega)) (dj_cons (rng_no ha (by omega)) (dj_nil)))
  have h_c : PP G (rowW G a (i + 7) 6 f3) H := kp hk1 h_c (dj_cons (rng_no ha (by omega)) (dj_cons (rng_no ha (by omega)) (dj_nil)))
  have h_ca : PP G (rowW G a (i + 9) 6 f4) H := kp hk1 h_ca (dj_cons (rng_no ha (by omega)) (dj_cons (rng_no ha (by omega)) (dj_nil)))
  have hgM := inN_g N (2 * w9)
  have hoM := inN_o N (2 * w9)
  refine lv_iconst (v := nI 0) hx hb dX2_makeJoining_6 (by decide) ?_
  refine lv_istore (lv' := [(4, .int (nI 0)), (0, .ref (a i)), (1, .ref (a j)), (2, .int (bI q9)), (3, .int (nI w9))]) hx hb dX2_makeJoining_7 hl (by decide) rfl (fun ls hl => ?_)
  refine lv_loop6 9 (fun (k : Nat) (f5 : Nat → Int32) (f6 : Nat → Int32) (f7 : Nat → Int32) (s8 : Int32) (k8 : Int32) => w9 - k) (fun (k : Nat) (f5 : Nat → Int32) (f6 : Nat → Int32) (f7 : Nat → Int32) (s8 : Int32) (k8 : Int32) (H : Heap) (locs : List Loc) (ls : Array Slot) => (PP G (makO a i l9 s8 k8) H) ∧ (PP G (rowW G a (i + 1) 6 f5) H) ∧ (PP G (rowW G a (i + 3) 6 f6) H) ∧ (PP G (rowW G a (i + 5) 6 f2) H) ∧ (PP G (rowW G a (i + 7) 6 f7) H) ∧ (PP G (rowW G a (i + 9) 6 f4) H) ∧ (PP G (netW G a j (heT (inN N (2 * w9)) w9 k)) H) ∧ (va_S (orA (rng a i 11) (rng a j 11)) s.heap H locs) ∧ (lv_has ls 5 [(0, .ref (a i)), (1, .ref (a j)), (2, .int (bI q9)), (3, .int (nI w9)), (4, .int (nI k))]) ∧ (k ≤ w9) ∧ (∀ r, r < k → f5 r = nI (nG (inN N (2 * w9)) + 2 * r)) ∧ (∀ r, r < k → f6 r = nI (nG (inN N (2 * w9)) + 2 * r)) ∧ (∀ r, r < k → f7 r = nI (nG (inN N (2 * w9)) + 2 * r + 1))) (fun _ _ _ _ _ _ => []) (fun k f5 f6 f7 s8 k8 H locs ls hI ih => ?_) 0 f0 f1 f3 s9 k9 ⟨h_o, h_u, h_p, h_pa, h_c, h_ca, h_n, hS, lv_sub hl [1, 2, 3, 4, 0] rfl, by omega, fun r h => absurd h (Nat.not_lt_zero r), fun r h => absurd h (Nat.not_lt_zero r), fun r h => absurd h (Nat.not_lt_zero r)⟩ rfl
  obtain ⟨h_o, h_u, h_p, h_pa, h_c, h_ca, h_n, hS, hl, hk, hu, hp, hc⟩ := hI
  have ih3 := @ih
  clear ih
  have hE := heT_g (inN N (2 * w9)) w9 k
  refine lv_iload hx hb dX2_makeJoining_9 (lv_at hl 4 rfl) ?_
  refine lv_iload_n hx hb dX2_makeJoining_11 rfl (lv_at hl 3 rfl) ?_
  refine lv_icmp_ge (tgt := 71) hx hb dX2_makeJoining_12 (by decide) (fun c12 => ?_) (fun c12 => ?_)
  · skip
    have c12 := cv_le (by omega) (by omega) c12
    refine lv_iconst (v := nI 1) hx hb dX2_makeJoining_71 (by decide) ?_
    refine lv_istore (lv' := [(4, .int (nI 1)), (0, .ref (a i)), (1, .ref (a j)), (2, .int (bI q9)), (3, .int (nI w9))]) hx hb dX2_makeJoining_72 hl (by decide) rfl (fun ls hl => ?_)
    refine lv_loop5 74 (fun (n : Nat) (f8 : Nat → Int32) (f9 : Nat → Int32) (g8 : Nat → Int32) (g9 : Nat → Int32) => 3 - n) (fun (n : Nat) (f8 : Nat → Int32) (f9 : Nat → Int32) (g8 : Nat → Int32) (g9 : Nat → Int32) (H : Heap) (locs : List Loc) (ls : Array Slot) => (PP G (makO a i l9 s8 k8) H) ∧ (PP G (rowW G a (i + 1) 6 f5) H) ∧ (PP G (rowW G a (i + 3) 6 f8) H) ∧ (PP G (rowW G a (i + 5) 6 g8) H) ∧ (PP G (rowW G a (i + 7) 6 f9) H) ∧ (PP G (rowW G a (i + 9) 6 g9) H) ∧ (PP G (netW G a j ((jdT q9 w9 ((heT (inN N (2 * w9)) w9 w9), (fun k => nG (inN N (2 * w9)) + 2 * k), (fun k => nG (inN N (2 * w9)) + 2 * k + 1)) n).1)) H) ∧ (va_S (orA (rng a i 11) (rng a j 11)) s.heap H locs) ∧ (lv_has ls 5 [(0, .ref (a i)), (1, .ref (a j)), (2, .int (bI q9)), (3, .int (nI w9)), (4, .int (nI (2 ^ n)))]) ∧ (n ≤ 3 ∧ (n = 0 ∨ 2 ^ n < 2 * w9)) ∧ (∀ r, r < w9 → f8 r = nI ((jdT q9 w9 ((heT (inN N (2 * w9)) w9 w9), (fun k => nG (inN N (2 * w9)) + 2 * k), (fun k => nG (inN N (2 * w9)) + 2 * k + 1)) n).2.1 r)) ∧ (∀ r, r < w9 → f9 r = nI ((jdT q9 w9 ((heT (inN N (2 * w9)) w9 w9), (fun k => nG (inN N (2 * w9)) + 2 * k), (fun k => nG (inN N (2 * w9)) + 2 * k + 1)) n).2.2 r))) (fun _ _ _ _ _ => []) (fun n f8 f9 g8 g9 H locs ls hI ih => ?_) 0 f6 f7 f2 f4 ⟨h_o, h_u, h_p, h_pa, h_c, h_ca, (show k = w9 by omega) ▸ h_n, hS, lv_sub hl [1, 2, 3, 4, 0] rfl, by omega, fun r h => hp r (by omega), fun r h => hc r (by omega)⟩ rfl
    obtain ⟨h_o, h_u, h_p, h_pa, h_c, h_ca, h_n, hS, hl, hn, hf8, hf9⟩ := hI
    have ih4 := @ih
    clear ih
    have hp2 := pow_case (n := n) hn.1
    have hJ := jdT_g (sp := q9) (w := w9) (s := ((heT (inN N (2 * w9)) w9 w9), (fun k => nG (inN N (2 * w9)) + 2 * k), (fun k => nG (inN N (2 * w9)) + 2 * k + 1))) n
    refine lv_iload hx hb dX2_makeJoining_74 (lv_at hl 4 rfl) ?_
    refine lv_iload_n hx hb dX2_makeJoining_76 rfl (lv_at hl 3 rfl) ?_
    refine lv_icmp_ge (tgt := 98) hx hb dX2_makeJoining_77 (by decide) (fun c77 => ?_) (fun c77 => ?_)
    · skip
      have c77 := cv_le (by omega) (by omega) c77
      have en : n = rdN w9 := rd_eq hw hn.1 c77 hn.2
      have hJO : nO (jdT q9 w9 ((heT (inN N (2 * w9)) w9 w9), (fun k => nG (inN N (2 * w9)) + 2 * k), (fun k => nG (inN N (2 * w9)) + 2 * k + 1)) n).1 = nO (inN N (2 * w9)) := hJ.2.2.trans (heT_g (inN N (2 * w9)) w9 w9).2
      have hJG : nG (jdT q9 w9 ((heT (inN N (2 * w9)) w9 w9), (fun k => nG (inN N (2 * w9)) + 2 * k), (fun k => nG (inN N (2 * w9)) + 2 * k + 1)) n).1 ≤ 82 := by have e9 : nG (heT (inN N (2 * w9)) w9 w9) = nG (inN N (2 * w9)) + 2 * w9 := (heT_g (inN N (2 * w9)) w9 w9).1; have hq : 3 * w9 * n ≤ 3 * w9 * 3 := Nat.mul_le_mul_left _ (by omega); have hJ2 : nG (jdT q9 w9 ((heT (inN N (2 * w9)) w9 w9), (fun k => nG (inN N (2 * w9)) + 2 * k), (fun k => nG (inN N (2 * w9)) + 2 * k + 1)) n).1 ≤ nG (heT (inN N (2 * w9)) w9 w9) + 3 * w9 * n := hJ.2.1; omega
      refine lv_aload_n hx hb dX2_makeJoining_98 rfl (lv_at hl 1 rfl) ?_
      refine lv_aload_n hx hb dX2_makeJoining_99 rfl (lv_at hl 0 rfl) ?_
      refine va_get (D := G.1) (ci := 2) (v := .ref (a (i + 1))) (C := RX2) (T := TX2) (N := 10) hx hb hts inX2_makeJoining_2 hown hK h_o 0 rfl rfl 0 (by decide) (hts (.fieldLink RX2 16 "GateLedger$Maker" "unlikes" "LGateLedger$Row;") (List.mem_of_getElem? (i := 1) (by decide +kernel))) (fun _ h9 => h9) rfl dX2_makeJoining_100 ?_
      refine lv_iconst (v := nI 0) hx hb dX2_makeJoining_103 (by decide) ?_
      refine ro_i (va_runV (As := [.int (nI 0)]) (rest := [.ref (a j)]) FX (c_X4_at l G a (i + 1) 6 f5 (nI 0) (by decide)) (cwV 1 hts gX2_makeJoining_X4_at rfl rfl rfl (by decide +kernel) ⟨Nat.le_of_ble_eq_true rfl, Nat.le_of_ble_eq_true rfl⟩) (preV hK hNW (va_P.sub h_u [0, 1] rfl) (va_recv hK h_u (ci := 4) (q0 := 0) rfl rfl)) rfl rfl hl.1 rfl (lv_room (Nat.le_of_ble_eq_true rfl)) dX2_makeJoining_104 ⟨Nat.le_of_ble_eq_true rfl, Nat.le_of_ble_eq_true rfl⟩) ?_
      refine lv_as (y := nI (nG (inN N (2 * w9)) + 2 * 0)) ((rowAt_in (by omega) (by decide)).trans (hu _ (by omega))) ?_
      refine wr_i (va_runV (As := [.int (nI (nG (inN N (2 * w9)) + 2 * 0))]) (rest := []) FX (c_X3_addOut l G a ha j ((jdT q9 w9 ((heT (inN N (2 * w9)) w9 w9), (fun k => nG (inN N (2 * w9)) + 2 * k), (fun k => nG (inN N (2 * w9)) + 2 * k + 1)) n).1) (nG (inN N (2 * w9)) + 2 * 0) (show nO (jdT q9 w9 ((heT (inN N (2 * w9)) w9 w9), (fun k => nG (inN N (2 * w9)) + 2 * k), (fun k => nG (inN N (2 * w9)) + 2 * k + 1)) n).1 < 16 by omega)) (cwV 1 hts gX2_makeJoining_X3_addOut rfl rfl rfl (by decide +kernel) ⟨Nat.le_of_ble_eq_true rfl, Nat.le_of_ble_eq_true rfl⟩) (preV hK hNW h_n (va_recv hK h_n (ci := 3) (q0 := 0) rfl rfl)) rfl rfl hl.1 rfl (lv_room (Nat.le_of_ble_eq_true rfl)) dX2_makeJoining_107 ⟨Nat.le_of_ble_eq_true rfl, Nat.le_of_ble_eq_true rfl⟩) hS (orA_r (fun _ q => q)) (fun rr _ H locs er hP9 hk5 hS => ?_)
      have h_n : PP G (netW G a j (addO ((jdT q9 w9 ((heT (inN N (2 * w9)) w9 w9), (fun k => nG (inN N (2 * w9)) + 2 * k), (fun k => nG (inN N (2 * w9)) + 2 * k + 1)) n).1) (nG (inN N (2 * w9)) + 2 * 0))) H := hP9
      have h_o : PP G (makO a i l9 s8 k8) H := kp hk5 h_o (dj_cons (rng_no ha (by omega)) (dj_nil))
      have h_u : PP G (rowW G a (i + 1) 6 f5) H := kp hk5 h_u (dj_cons (rng_no ha (by omega)) (dj_cons (rng_no ha (by omega)) (dj_nil)))
      have h_p : PP G (rowW G a (i + 3) 6 f8) H := kp hk5 h_p (dj_cons (rng_no ha (by omega)) (dj_cons (rng_no ha (by omega)) (dj_nil)))
      have h_pa : PP G (rowW G a (i + 5) 6 g8) H := kp hk5 h_pa (dj_cons (rng_no ha (by omega)) (dj_cons (rng_no ha (by omega)) (dj_nil)))
      have h_c : PP G (rowW G a (i + 7) 6 f9) H := kp hk5 h_c (dj_cons (rng_no ha (by omega)) (dj_cons (rng_no ha (by omega)) (dj_nil)))
      have h_ca : PP G (rowW G a (i + 9) 6 g9) H := kp hk5 h_ca (dj_cons (rng_no ha (by omega)) (dj_cons (rng_no ha (by omega)) (dj_nil)))
      refine lv_pop hx hb dX2_makeJoining_110 rfl ?_
      refine lv_iconst (v := nI 1) hx hb dX2_makeJoining_111 (by decide) ?_
      refine lv_istore (lv' := [(4, .int (nI 1)), (0, .ref (a i)), (1, .ref (a j)), (2, .int (bI q9)), (3, .int (nI w9))]) hx hb dX2_makeJoining_112 hl (by decide) rfl (fun ls hl => ?_)
      refine lv_loop1 114 (fun (z : Nat) => w9 - z) (fun (z : Nat) (H : Heap) (locs : List Loc) (ls : Array Slot) => (PP G (makO a i l9 s8 k8) H) ∧ (PP G (rowW G a (i + 1) 6 f5) H) ∧ (PP G (rowW G a (i + 3) 6 f8) H) ∧ (PP G (rowW G a (i + 5) 6 g8) H) ∧ (PP G (rowW G a (i + 7) 6 f9) H) ∧ (PP G (rowW G a (i + 9) 6 g9) H) ∧ (PP G (netW G a j (ojT (jdT q9 w9 ((heT (inN N (2 * w9)) w9 w9), (fun k => nG (inN N (2 * w9)) + 2 * k), (fun k => nG (inN N (2 * w9)) + 2 * k + 1)) n).1 (fun k => nG (inN N (2 * w9)) + 2 * k) (jdT q9 w9 ((heT (inN N (2 * w9)) w9 w9), (fun k => nG (inN N (2 * w9)) + 2 * k), (fun k => nG (inN N (2 * w9)) + 2 * k + 1)) n).2.2 z)) H) ∧ (va_S (orA (rng a i 11) (rng a j 11)) s.heap H locs) ∧ (lv_has ls 5 [(0, .ref (a i)), (1, .ref (a j)), (2, .int (bI q9)), (3, .int (nI w9)), (4, .int (nI (z + 1)))]) ∧ (z + 1 ≤ w9)) (fun _ => []) (fun z H locs ls hI ih => ?_) 0 ⟨h_o, h_u, h_p, h_pa, h_c, h_ca, h_n, hS, lv_sub hl [1, 2, 3, 4, 0] rfl, by omega⟩ rfl
      obtain ⟨h_o, h_u, h_p, h_pa, h_c, h_ca, h_n, hS, hl, hz⟩ := hI
      have ih7 := @ih
      clear ih
      have hO := ojT_g (M := (jdT q9 w9 ((heT (inN N (2 * w9)) w9 w9), (fun k => nG (inN N (2 * w9)) + 2 * k), (fun k => nG (inN N (2 * w9)) + 2 * k + 1)) n).1) (X := (fun k => nG (inN N (2 * w9)) + 2 * k)) (C := (jdT q9 w9 ((heT (inN N (2 * w9)) w9 w9), (fun k => nG (inN N (2 * w9)) + 2 * k), (fun k => nG (inN N (2 * w9)) + 2 * k + 1)) n).2.2) z
      refine lv_iload hx hb dX2_makeJoining_114 (lv_at hl 4 rfl) ?_
      refine lv_iload_n hx hb dX2_makeJoining_116 rfl (lv_at hl 3 rfl) ?_
      refine lv_icmp_ge (tgt := 156) hx hb dX2_makeJoining_117 (by decide) (fun c117 => ?_) (fun c117 => ?_)
      · skip
        have c117 := cv_le (by omega) (by omega) c117
        have ez : z = w9 - 1 := by omega
        refine lv_aload_n hx hb dX2_makeJoining_156 rfl (lv_at hl 1 rfl) ?_
        refine lv_aload_n hx hb dX2_makeJoining_157 rfl (lv_at hl 0 rfl) ?_
        refine va_get (D := G.1) (ci := 2) (v := .ref (a (i + 7))) (C := RX2) (T := TX2) (N := 10) hx hb hts inX2_makeJoining_2 hown hK h_o 0 rfl rfl 3 (by decide) (hts (.fieldLink RX2 26 "GateLedger$Maker" "carries" "LGateLedger$Row;") (List.mem_of_getElem? (i := 4) (by decide +kernel))) (fun _ h9 => h9) rfl dX2_makeJoining_158 ?_
        refine lv_iload_n hx hb dX2_makeJoining_161 rfl (lv_at hl 3 rfl) ?_
        refine lv_iconst (v := nI 1) hx hb dX2_makeJoining_162 (by decide) ?_
        refine lv_isub hx hb dX2_makeJoining_163 ?_
        refine lv_as (pk_sub (by omega)) ?_
        refine ro_i (va_runV (As := [.int (nI (w9 - 1))]) (rest := [.ref (a j)]) FX (c_X4_at l G a (i + 7) 6 f9 (nI (w9 - 1)) (by decide)) (cwV 1 hts gX2_makeJoining_X4_at rfl rfl rfl (by decide +kernel) ⟨Nat.le_of_ble_eq_true rfl, Nat.le_of_ble_eq_true rfl⟩) (preV hK hNW (va_P.sub h_c [0, 1] rfl) (va_recv hK h_c (ci := 4) (q0 := 0) rfl rfl)) rfl rfl hl.1 rfl (lv_room (Nat.le_of_ble_eq_true rfl)) dX2_makeJoining_164 ⟨Nat.le_of_ble_eq_true rfl, Nat.le_of_ble_eq_true rfl⟩) ?_
        refine lv_as (y := nI ((jdT q9 w9 ((heT (inN N (2 * w9)) w9 w9), (fun k => nG (inN N (2 * w9)) + 2 * k), (fun k => nG (inN N (2 * w9)) + 2 * k + 1)) n).2.2 (w9 - 1))) ((rowAt_in (by omega) (by decide)).trans (hf9 _ (by omega))) ?_
        refine wr_i (va_runV (As := [.int (nI ((jdT q9 w9 ((heT (inN N (2 * w9)) w9 w9), (fun k => nG (inN N (2 * w9)) + 2 * k), (fun k => nG (inN N (2 * w9)) + 2 * k + 1)) n).2.2 (w9 - 1)))]) (rest := []) FX (c_X3_addOut l G a ha j (ojT (jdT q9 w9 ((heT (inN N (2 * w9)) w9 w9), (fun k => nG (inN N (2 * w9)) + 2 * k), (fun k => nG (inN N (2 * w9)) + 2 * k + 1)) n).1 (fun k => nG (inN N (2 * w9)) + 2 * k) (jdT q9 w9 ((heT (inN N (2 * w9)) w9 w9), (fun k => nG (inN N (2 * w9)) + 2 * k), (fun k => nG (inN N (2 * w9)) + 2 * k + 1)) n).2.2 z) ((jdT q9 w9 ((heT (inN N (2 * w9)) w9 w9), (fun k => nG (inN N (2 * w9)) + 2 * k), (fun k => nG (inN N (2 * w9)) + 2 * k + 1)) n).2.2 (w9 - 1)) (show nO (ojT (jdT q9 w9 ((heT (inN N (2 * w9)) w9 w9), (fun k => nG (inN N (2 * w9)) + 2 * k), (fun k => nG (inN N (2 * w9)) + 2 * k + 1)) n).1 (fun k => nG (inN N (2 * w9)) + 2 * k) (jdT q9 w9 ((heT (inN N (2 * w9)) w9 w9), (fun k => nG (inN N (2 * w9)) + 2 * k), (fun k => nG (inN N (2 * w9)) + 2 * k + 1)) n).2.2 z) < 16 by omega)) (cwV 1 hts gX2_makeJoining_X3_addOut rfl rfl rfl (by decide +kernel) ⟨Nat.le_of_ble_eq_true rfl, Nat.le_of_ble_eq_true rfl⟩) (preV hK hNW h_n (va_recv hK h_n (ci := 3) (q0 := 0) rfl rfl)) rfl rfl hl.1 rfl (lv_room (Nat.le_of_ble_eq_true rfl)) dX2_makeJoining_167 ⟨Nat.le_of_ble_eq_true rfl, Nat.le_of_ble_eq_true rfl⟩) hS (orA_r (fun _ q => q)) (fun rr _ H locs er hP9 hk8 hS => ?_)
        have h_n : PP G (netW G a j (addO (ojT (jdT q9 w9 ((heT (inN N (2 * w9)) w9 w9), (fun k => nG (inN N (2 * w9)) + 2 * k), (fun k => nG (inN N (2 * w9)) + 2 * k + 1)) n).1 (fun k => nG (inN N (2 * w9)) + 2 * k) (jdT q9 w9 ((heT (inN N (2 * w9)) w9 w9), (fun k => nG (inN N (2 * w9)) + 2 * k), (fun k => nG (inN N (2 * w9)) + 2 * k + 1)) n).2.2 z) ((jdT q9 w9 ((heT (inN N (2 * w9)) w9 w9), (fun k => nG (inN N (2 * w9)) + 2 * k), (fun k => nG (inN N (2 * w9)) + 2 * k + 1)) n).2.2 (w9 - 1)))) H := hP9
        have h_o : PP G (makO a i l9 s8 k8) H := kp hk8 h_o (dj_cons (rng_no ha (by omega)) (dj_nil))
        have h_u : PP G (rowW G a (i + 1) 6 f5) H := kp hk8 h_u (dj_cons (rng_no ha (by omega)) (dj_cons (rng_no ha (by omega)) (dj_nil)))
        have h_p : PP G (rowW G a (i + 3) 6 f8) H := kp hk8 h_p (dj_cons (rng_no ha (by omega)) (dj_cons (rng_no ha (by omega)) (dj_nil)))
        have h_pa : PP G (rowW G a (i + 5) 6 g8) H := kp hk8 h_pa (dj_cons (rng_no ha (by omega)) (dj_cons (rng_no ha (by omega)) (dj_nil)))
        have h_c : PP G (rowW G a (i + 7) 6 f9) H := kp hk8 h_c (dj_cons (rng_no ha (by omega)) (dj_cons (rng_no ha (by omega)) (dj_nil)))
        have h_ca : PP G (rowW G a (i + 9) 6 g9) H := kp hk8 h_ca (dj_cons (rng_no ha (by omega)) (dj_cons (rng_no ha (by omega)) (dj_nil)))
        refine lv_pop hx hb dX2_makeJoining_170 rfl ?_
        exact en_wv (s8, k8, f5, f8, g8, f9, g9) hx hb hr hlocks hS (trivial) (⟨h_o, h_u, h_p, h_pa, h_c, h_ca, by unfold joiN; rw [← en, ← ez]; rw [← ez] at h_n; exact h_n⟩) dX2_makeJoining_171
      · skip
        have c117 := cv_nle (by omega) (by omega) c117
        refine lv_aload_n hx hb dX2_makeJoining_120 rfl (lv_at hl 1 rfl) ?_
        refine lv_aload_n hx hb dX2_makeJoining_121 rfl (lv_at hl 1 rfl) ?_
        refine lv_iconst (v := nI 2) hx hb dX2_makeJoining_122 (by decide) ?_
        refine lv_aload_n hx hb dX2_makeJoining_123 rfl (lv_at hl 0 rfl) ?_
        refine va_get (D := G.1) (ci := 2) (v := .ref (a (i + 1))) (C := RX2) (T := TX2) (N := 10) hx hb hts inX2_makeJoining_2 hown hK h_o 0 rfl rfl 0 (by decide) (hts (.fieldLink RX2 16 "GateLedger$Maker" "unlikes" "LGateLedger$Row;") (List.mem_of_getElem? (i := 1) (by decide +kernel))) (fun _ h9 => h9) rfl dX2_makeJoining_124 ?_
        refine lv_iload hx hb dX2_makeJoining_127 (lv_at hl 4 rfl) ?_
        refine ro_i (va_runV (As := [.int (nI (z + 1))]) (rest := [.int (nI 2), .ref (a j), .ref (a j)]) FX (c_X4_at l G a (i + 1) 6 f5 (nI (z + 1)) (by decide)) (cwV 1 hts gX2_makeJoining_X4_at rfl rfl rfl (by decide +kernel) ⟨Nat.le_of_ble_eq_true rfl, Nat.le_of_ble_eq_true rfl⟩) (preV hK hNW (va_P.sub h_u [0, 1] rfl) (va_recv hK h_u (ci := 4) (q0 := 0) rfl rfl)) rfl rfl hl.1 rfl (lv_room (Nat.le_of_ble_eq_true rfl)) dX2_makeJoining_129 ⟨Nat.le_of_ble_eq_true rfl, Nat.le_of_ble_eq_true rfl⟩) ?_
        refine lv_as (y := nI (nG (inN N (2 * w9)) + 2 * (z + 1))) ((rowAt_in (by omega) (by decide)).trans (hu _ (by omega))) ?_
        refine lv_aload_n hx hb dX2_makeJoining_132 rfl (lv_at hl 0 rfl) ?_
        refine va_get (D := G.1) (ci := 2) (v := .ref (a (i + 7))) (C := RX2) (T := TX2) (N := 10) hx hb hts inX2_makeJoining_2 hown hK h_o 0 rfl rfl 3 (by decide) (hts (.fieldLink RX2 26 "GateLedger$Maker" "carries" "LGateLedger$Row;") (List.mem_of_getElem? (i := 4) (by decide +kernel))) (fun _ h9 => h9) rfl dX2_makeJoining_133 ?_
        refine lv_iload hx hb dX2_makeJoining_136 (lv_at hl 4 rfl) ?_
        refine lv_iconst (v := nI 1) hx hb dX2_makeJoining_138 (by decide) ?_
        refine lv_isub hx hb dX2_makeJoining_139 ?_
        refine lv_as (pk_sub (by omega)) ?_
        refine lv_as (y := nI z) (by rw [Nat.add_sub_cancel]) ?_
        refine ro_i (va_runV (As := [.int (nI z)]) (rest := [.int (nI (nG (inN N (2 * w9)) + 2 * (z + 1))), .int (nI 2), .ref (a j), .ref (a j)]) FX (c_X4_at l G a (i + 7) 6 f9 (nI z) (by decide)) (cwV 1 hts gX2_makeJoining_X4_at rfl rfl rfl (by decide +kernel) ⟨Nat.le_of_ble_eq_true rfl, Nat.le_of_ble_eq_true rfl⟩) (preV hK hNW (va_P.sub h_c [0, 1] rfl) (va_recv hK h_c (ci := 4) (q0 := 0) rfl rfl)) rfl rfl hl.1 rfl (lv_room (Nat.le_of_ble_eq_true rfl)) dX2_makeJoining_140 ⟨Nat.le_of_ble_eq_true rfl, Nat.le_of_ble_eq_true rfl⟩) ?_
        refine lv_as (y := nI ((jdT q9 w9 ((heT (inN N (2 * w9)) w9 w9), (fun k => nG (inN N (2 * w9)) + 2 * k), (fun k => nG (inN N (2 * w9)) + 2 * k + 1)) n).2.2 z)) ((rowAt_in (by omega) (by decide)).trans (hf9 _ (by omega))) ?_
        refine wr_i (va_runV (As := [.int (nI 2), .int (nI (nG (inN N (2 * w9)) + 2 * (z + 1))), .int (nI ((jdT q9 w9 ((heT (inN N (2 * w9)) w9 w9), (fun k => nG (inN N (2 * w9)) + 2 * k), (fun k => nG (inN N (2 * w9)) + 2 * k + 1)) n).2.2 z))]) (rest := [.ref (a j)]) FX (c_X3_addJoined l G a ha j (ojT (jdT q9 w9 ((heT (inN N (2 * w9)) w9 w9), (fun k => nG (inN N (2 * w9)) + 2 * k), (fun k => nG (inN N (2 * w9)) + 2 * k + 1)) n).1 (fun k => nG (inN N (2 * w9)) + 2 * k) (jdT q9 w9 ((heT (inN N (2 * w9)) w9 w9), (fun k => nG (inN N (2 * w9)) + 2 * k), (fun k => nG (inN N (2 * w9)) + 2 * k + 1)) n).2.2 z) 2 (nG (inN N (2 * w9)) + 2 * (z + 1)) ((jdT q9 w9 ((heT (inN N (2 * w9)) w9 w9), (fun k => nG (inN N (2 * w9)) + 2 * k), (fun k => nG (inN N (2 * w9)) + 2 * k + 1)) n).2.2 z) (nI ((jdT q9 w9 ((heT (inN N (2 * w9)) w9 w9), (fun k => nG (inN N (2 * w9)) + 2 * k), (fun k => nG (inN N (2 * w9)) + 2 * k + 1)) n).2.2 z)) (by decide) (fun _ => rfl) (show nG (ojT (jdT q9 w9 ((heT (inN N (2 * w9)) w9 w9), (fun k => nG (inN N (2 * w9)) + 2 * k), (fun k => nG (inN N (2 * w9)) + 2 * k + 1)) n).1 (fun k => nG (inN N (2 * w9)) + 2 * k) (jdT q9 w9 ((heT (inN N (2 * w9)) w9 w9), (fun k => nG (inN N (2 * w9)) + 2 * k), (fun k => nG (inN N (2 * w9)) + 2 * k + 1)) n).2.2 z) < 120 by omega)) (cwV 3 hts gX2_makeJoining_X3_addJoined rfl rfl rfl (by decide +kernel) ⟨Nat.le_of_ble_eq_true rfl, Nat.le_of_ble_eq_true rfl⟩) (preV hK hNW h_n (va_recv hK h_n (ci := 3) (q0 := 0) rfl rfl)) rfl rfl hl.1 rfl (lv_room (Nat.le_of_ble_eq_true rfl)) dX2_makeJoining_143 ⟨Nat.le_of_ble_eq_true rfl, Nat.le_of_ble_eq_true rfl⟩) hS (orA_r (fun _ q => q)) (fun rr _ H locs er hP9 hk10 hS => ?_)
        have h_n : PP G (netW G a j (addG (ojT (jdT q9 w9 ((heT (inN N (2 * w9)) w9 w9), (fun k => nG (inN N (2 * w9)) + 2 * k), (fun k => nG (inN N (2 * w9)) + 2 * k + 1)) n).1 (fun k => nG (inN N (2 * w9)) + 2 * k) (jdT q9 w9 ((heT (inN N (2 * w9)) w9 w9), (fun k => nG (inN N (2 * w9)) + 2 * k), (fun k => nG (inN N (2 * w9)) + 2 * k + 1)) n).2.2 z) 2 (nG (inN N (2 * w9)) + 2 * (z + 1)) ((jdT q9 w9 ((heT (inN N (2 * w9)) w9 w9), (fun k => nG (inN N (2 * w9)) + 2 * k), (fun k => nG (inN N (2 * w9)) + 2 * k + 1)) n).2.2 z))) H := hP9
        have h_o : PP G (makO a i l9 s8 k8) H := kp hk10 h_o (dj_cons (rng_no ha (by omega)) (dj_nil))
        have h_u : PP G (rowW G a (i + 1) 6 f5) H := kp hk10 h_u (dj_cons (rng_no ha (by omega)) (dj_cons (rng_no ha (by omega)) (dj_nil)))
        have h_p : PP G (rowW G a (i + 3) 6 f8) H := kp hk10 h_p (dj_cons (rng_no ha (by omega)) (dj_cons (rng_no ha (by omega)) (dj_nil)))
        have h_pa : PP G (rowW G a (i + 5) 6 g8) H := kp hk10 h_pa (dj_cons (rng_no ha (by omega)) (dj_cons (rng_no ha (by omega)) (dj_nil)))
        have h_c : PP G (rowW G a (i + 7) 6 f9) H := kp hk10 h_c (dj_cons (rng_no ha (by omega)) (dj_cons (rng_no ha (by omega)) (dj_nil)))
        have h_ca : PP G (rowW G a (i + 9) 6 g9) H := kp hk10 h_ca (dj_cons (rng_no ha (by omega)) (dj_cons (rng_no ha (by omega)) (dj_nil)))
        refine lv_as (y := nI (nG (ojT (jdT q9 w9 ((heT (inN N (2 * w9)) w9 w9), (fun k => nG (inN N (2 * w9)) + 2 * k), (fun k => nG (inN N (2 * w9)) + 2 * k + 1)) n).1 (fun k => nG (inN N (2 * w9)) + 2 * k) (jdT q9 w9 ((heT (inN N (2 * w9)) w9 w9), (fun k => nG (inN N (2 * w9)) + 2 * k), (fun k => nG (inN N (2 * w9)) + 2 * k + 1)) n).2.2 z))) er ?_
        refine wr_i (va_runV (As := [.int (nI (nG (ojT (jdT q9 w9 ((heT (inN N (2 * w9)) w9 w9), (fun k => nG (inN N (2 * w9)) + 2 * k), (fun k => nG (inN N (2 * w9)) + 2 * k + 1)) n).1 (fun k => nG (inN N (2 * w9)) + 2 * k) (jdT q9 w9 ((heT (inN N (2 * w9)) w9 w9), (fun k => nG (inN N (2 * w9)) + 2 * k), (fun k => nG (inN N (2 * w9)) + 2 * k + 1)) n).2.2 z)))]) (rest := []) FX (c_X3_addOut l G a ha j (addG (ojT (jdT q9 w9 ((heT (inN N (2 * w9)) w9 w9), (fun k => nG (inN N (2 * w9)) + 2 * k), (fun k => nG (inN N (2 * w9)) + 2 * k + 1)) n).1 (fun k => nG (inN N (2 * w9)) + 2 * k) (jdT q9 w9 ((heT (inN N (2 * w9)) w9 w9), (fun k => nG (inN N (2 * w9)) + 2 * k), (fun k => nG (inN N (2 * w9)) + 2 * k + 1)) n).2.2 z) 2 (nG (inN N (2 * w9)) + 2 * (z + 1)) ((jdT q9 w9 ((heT (inN N (2 * w9)) w9 w9), (fun k => nG (inN N (2 * w9)) + 2 * k), (fun k => nG (inN N (2 * w9)) + 2 * k + 1)) n).2.2 z)) (nG (ojT (jdT q9 w9 ((heT (inN N (2 * w9)) w9 w9), (fun k => nG (inN N (2 * w9)) + 2 * k), (fun k => nG (inN N (2 * w9)) + 2 * k + 1)) n).1 (fun k => nG (inN N (2 * w9)) + 2 * k) (jdT q9 w9 ((heT (inN N (2 * w9)) w9 w9), (fun k => nG (inN N (2 * w9)) + 2 * k), (fun k => nG (inN N (2 * w9)) + 2 * k + 1)) n).2.2 z)) (show nO (ojT (jdT q9 w9 ((heT (inN N (2 * w9)) w9 w9), (fun k => nG (inN N (2 * w9)) + 2 * k), (fun k => nG (inN N (2 * w9)) + 2 * k + 1)) n).1 (fun k => nG (inN N (2 * w9)) + 2 * k) (jdT q9 w9 ((heT (inN N (2 * w9)) w9 w9), (fun k => nG (inN N (2 * w9)) + 2 * k), (fun k => nG (inN N (2 * w9)) + 2 * k + 1)) n).2.2 z) < 16 by omega)) (cwV 1 hts gX2_makeJoining_X3_addOut rfl rfl rfl (by decide +kernel) ⟨Nat.le_of_ble_eq_true rfl, Nat.le_of_ble_eq_true rfl⟩) (preV hK hNW h_n (va_recv hK h_n (ci := 3) (q0 := 0) rfl rfl)) rfl rfl hl.1 rfl (lv_room (Nat.le_of_ble_eq_true rfl)) dX2_makeJoining_146 ⟨Nat.le_of_ble_eq_true rfl, Nat.le_of_ble_eq_true rfl⟩) hS (orA_r (fun _ q => q)) (fun rr _ H locs er hP9 hk12 hS => ?_)
        have h_n : PP G (netW G a j (addO (addG (ojT (jdT q9 w9 ((heT (inN N (2 * w9)) w9 w9), (fun k => nG (inN N (2 * w9)) + 2 * k), (fun k => nG (inN N (2 * w9)) + 2 * k + 1)) n).1 (fun k => nG (inN N (2 * w9)) + 2 * k) (jdT q9 w9 ((heT (inN N (2 * w9)) w9 w9), (fun k => nG (inN N (2 * w9)) + 2 * k), (fun k => nG (inN N (2 * w9)) + 2 * k + 1)) n).2.2 z) 2 (nG (inN N (2 * w9)) + 2 * (z + 1)) ((jdT q9 w9 ((heT (inN N (2 * w9)) w9 w9), (fun k => nG (inN N (2 * w9)) + 2 * k), (fun k => nG (inN N (2 * w9)) + 2 * k + 1)) n).2.2 z)) (nG (ojT (jdT q9 w9 ((heT (inN N (2 * w9)) w9 w9), (fun k => nG (inN N (2 * w9)) + 2 * k), (fun k => nG (inN N (2 * w9)) + 2 * k + 1)) n).1 (fun k => nG (inN N (2 * w9)) + 2 * k) (jdT q9 w9 ((heT (inN N (2 * w9)) w9 w9), (fun k => nG (inN N (2 * w9)) + 2 * k), (fun k => nG (inN N (2 * w9)) + 2 * k + 1)) n).2.2 z)))) H := hP9
        have h_o : PP G (makO a i l9 s8 k8) H := kp hk12 h_o (dj_cons (rng_no ha (by omega)) (dj_nil))
        have h_u : PP G (rowW G a (i + 1) 6 f5) H := kp hk12 h_u (dj_cons (rng_no ha (by omega)) (dj_cons (rng_no ha (by omega)) (dj_nil)))
        have h_p : PP G (rowW G a (i + 3) 6 f8) H := kp hk12 h_p (dj_cons (rng_no ha (by omega)) (dj_cons (rng_no ha (by omega)) (dj_nil)))
        have h_pa : PP G (rowW G a (i + 5) 6 g8) H := kp hk12 h_pa (dj_cons (rng_no ha (by omega)) (dj_cons (rng_no ha (by omega)) (dj_nil)))
        have h_c : PP G (rowW G a (i + 7) 6 f9) H := kp hk12 h_c (dj_cons (rng_no ha (by omega)) (dj_cons (rng_no ha (by omega)) (dj_nil)))
        have h_ca : PP G (rowW G a (i + 9) 6 g9) H := kp hk12 h_ca (dj_cons (rng_no ha (by omega)) (dj_cons (rng_no ha (by omega)) (dj_nil)))
        refine lv_pop hx hb dX2_makeJoining_149 rfl ?_
        refine lv_iinc (v := nI (z + 1 + 1)) (lv' := [(4, .int (nI (z + 1 + 1))), (0, .ref (a i)), (1, .ref (a j)), (2, .int (bI q9)), (3, .int (nI w9))]) hx hb dX2_makeJoining_150 hl (k := 4) rfl (by first | exact nI_add _ 1 | decide) (by decide) rfl (fun ls hl => ?_)
        refine lv_goto (tgt := 114) hx hb dX2_makeJoining_153 (by decide) ?_
        exact ih7 (z + 1) _ _ _ ⟨h_o, h_u, h_p, h_pa, h_c, h_ca, h_n, hS, lv_sub hl [1, 2, 3, 4, 0] rfl, by omega⟩ (by show w9 - (z + 1) < w9 - z; omega)
    · skip
      have c77 := cv_nle (by omega) (by omega) c77
      refine lv_aload_n hx hb dX2_makeJoining_80 rfl (lv_at hl 0 rfl) ?_
      refine lv_aload_n hx hb dX2_makeJoining_81 rfl (lv_at hl 1 rfl) ?_
      refine lv_iload_n hx hb dX2_makeJoining_82 rfl (lv_at hl 2 rfl) ?_
      refine lv_iload_n hx hb dX2_makeJoining_83 rfl (lv_at hl 3 rfl) ?_
      refine lv_iload hx hb dX2_makeJoining_84 (lv_at hl 4 rfl) ?_
      refine wr_v (va_runV (As := [.ref (a j), .int (bI q9), .int (nI w9), .int (nI (2 ^ n))]) (rest := []) FX (c_X2_addJoins l G a ha i j hij l9 s8 k8 f8 g8 f9 g9 (jdT q9 w9 ((heT (inN N (2 * w9)) w9 w9), (fun k => nG (inN N (2 * w9)) + 2 * k), (fun k => nG (inN N (2 * w9)) + 2 * k + 1)) n) q9 w9 n hw.2 (by omega) (by have e9 : nG (heT (inN N (2 * w9)) w9 w9) = nG (inN N (2 * w9)) + 2 * w9 := (heT_g (inN N (2 * w9)) w9 w9).1; have hq : 3 * w9 * n ≤ 3 * w9 * 2 := Nat.mul_le_mul_left _ (by omega); have hJ1 := hJ.2.1; have hJ2 : nG (jdT q9 w9 ((heT (inN N (2 * w9)) w9 w9), (fun k => nG (inN N (2 * w9)) + 2 * k), (fun k => nG (inN N (2 * w9)) + 2 * k + 1)) n).1 ≤ nG (heT (inN N (2 * w9)) w9 w9) + 3 * w9 * n := hJ1; omega) hf8 hf9) (cwV 4 hts gX2_makeJoining_X2_addJoins rfl rfl rfl (by decide +kernel) ⟨Nat.le_of_ble_eq_true rfl, Nat.le_of_ble_eq_true rfl⟩) (preV hK hNW (⟨h_o, h_p, h_pa, h_c, h_ca, h_n⟩) (va_recv hK h_o (ci := 2) (q0 := 0) rfl rfl)) rfl rfl hl.1 rfl (lv_room (Nat.le_of_ble_eq_true rfl)) dX2_makeJoining_86 ⟨Nat.le_of_ble_eq_true rfl, Nat.le_of_ble_eq_true rfl⟩) hS (orA_m (rng_sub (by omega)) (fun _ q => q)) (fun v8 H locs hv8 hP9 hk14 hS => ?_)
      have h_o : PP G (makO a i l9 s8 k8) H := hP9.1
      have h_p : PP G (rowW G a (i + 3) 6 v8.1) H := hP9.2.1
      have h_pa : PP G (rowW G a (i + 5) 6 v8.2.1) H := hP9.2.2.1
      have h_c : PP G (rowW G a (i + 7) 6 v8.2.2.1) H := hP9.2.2.2.1
      have h_ca : PP G (rowW G a (i + 9) 6 v8.2.2.2) H := hP9.2.2.2.2.1
      have h_n : PP G (netW G a j ((joT q9 (2 ^ n) (jdT q9 w9 ((heT (inN N (2 * w9)) w9 w9), (fun k => nG (inN N (2 * w9)) + 2 * k), (fun k => nG (inN N (2 * w9)) + 2 * k + 1)) n) w9).1)) H := hP9.2.2.2.2.2
      have h_u : PP G (rowW G a (i + 1) 6 f5) H := kp hk14 h_u (dj_cons (or_no (rng_no ha (by omega)) (rng_no ha (by omega))) (dj_cons (or_no (rng_no ha (by omega)) (rng_no ha (by omega))) (dj_nil)))
      refine lv_iload hx hb dX2_makeJoining_89 (lv_at hl 4 rfl) ?_
      refine lv_iconst (v := nI 2) hx hb dX2_makeJoining_91 (by decide) ?_
      refine lv_imul hx hb dX2_makeJoining_92 ?_
      refine lv_as (pk_mul _ _) ?_
      refine lv_istore (lv' := [(4, .int (nI ((2 ^ n) * 2))), (0, .ref (a i)), (1, .ref (a j)), (2, .int (bI q9)), (3, .int (nI w9))]) hx hb dX2_makeJoining_93 hl (by decide) rfl (fun ls hl => ?_)
      refine lv_goto (tgt := 74) hx hb dX2_makeJoining_95 (by decide) ?_
      exact ih4 (n + 1) v8.1 v8.2.2.1 v8.2.1 v8.2.2.2 _ _ _ ⟨h_o, h_u, h_p, h_pa, h_c, h_ca, h_n, hS, lv_sub hl [1, 2, 3, 4, 0] rfl, ⟨by omega, Or.inr (by rw [Nat.pow_succ]; omega)⟩, hv8.1, hv8.2⟩ (by show 3 - (n + 1) < 3 - n; omega)
  · skip
    have c12 := cv_nle (by omega) (by omega) c12
    refine lv_aload_n hx hb dX2_makeJoining_15 rfl (lv_at hl 0 rfl) ?_
    refine lv_aload_n hx hb dX2_makeJoining_16 rfl (lv_at hl 1 rfl) ?_
    refine lv_iload hx hb dX2_makeJoining_17 (lv_at hl 4 rfl) ?_
    refine lv_iload_n hx hb dX2_makeJoining_19 rfl (lv_at hl 3 rfl) ?_
    refine lv_iload hx hb dX2_makeJoining_20 (lv_at hl 4 rfl) ?_
    refine lv_iadd hx hb dX2_makeJoining_22 ?_
    refine lv_as (nI_add _ _) ?_
    refine wr_v (va_runV (As := [.ref (a j), .int (nI k), .int (nI (w9 + k))]) (rest := []) FX (c_X2_addHalf l G a ha i j (by omega) l9 s8 k8 (heT (inN N (2 * w9)) w9 k) k (w9 + k) (show nG (heT (inN N (2 * w9)) w9 k) < 119 by omega)) (cwV 3 hts gX2_makeJoining_X2_addHalf rfl rfl rfl (by decide +kernel) ⟨Nat.le_of_ble_eq_true rfl, Nat.le_of_ble_eq_true rfl⟩) (preV hK hNW (⟨h_o, h_n⟩) (va_recv hK h_o (ci := 2) (q0 := 0) rfl rfl)) rfl rfl hl.1 rfl (lv_room (Nat.le_of_ble_eq_true rfl)) dX2_makeJoining_23 ⟨Nat.le_of_ble_eq_true rfl, Nat.le_of_ble_eq_true rfl⟩) hS (orA_m (rng_sub (by omega)) (fun _ q => q)) (fun _ H locs _ hP9 hk16 hS => ?_)
    have h_o : PP G (makO a i l9 (nI (nG (heT (inN N (2 * w9)) w9 k))) (nI (nG (heT (inN N (2 * w9)) w9 k) + 1))) H := hP9.1
    have h_n : PP G (netW G a j (hfN (heT (inN N (2 * w9)) w9 k) k (w9 + k))) H := hP9.2
    have h_u : PP G (rowW G a (i + 1) 6 f5) H := kp hk16 h_u (dj_cons (or_no (rng_no ha (by omega)) (rng_no ha (by omega))) (dj_cons (or_no (rng_no ha (by omega)) (rng_no ha (by omega))) (dj_nil)))
    have h_p : PP G (rowW G a (i + 3) 6 f6) H := kp hk16 h_p (dj_cons (or_no (rng_no ha (by omega)) (rng_no ha (by omega))) (dj_cons (or_no (rng_no ha (by omega)) (rng_no ha (by omega))) (dj_nil)))
    have h_pa : PP G (rowW G a (i + 5) 6 f2) H := kp hk16 h_pa (dj_cons (or_no (rng_no ha (by omega)) (rng_no ha (by omega))) (dj_cons (or_no (rng_no ha (by omega)) (rng_no ha (by omega))) (dj_nil)))
    have h_c : PP G (rowW G a (i + 7) 6 f7) H := kp hk16 h_c (dj_cons (or_no (rng_no ha (by omega)) (rng_no ha (by omega))) (dj_cons (or_no (rng_no ha (by omega)) (rng_no ha (by omega))) (dj_nil)))
    have h_ca : PP G (rowW G a (i + 9) 6 f4) H := kp hk16 h_ca (dj_cons (or_no (rng_no ha (by omega)) (rng_no ha (by omega))) (dj_cons (or_no (rng_no ha (by omega)) (rng_no ha (by omega))) (dj_nil)))
    refine lv_aload_n hx hb dX2_makeJoining_26 rfl (lv_at hl 0 rfl) ?_
    refine va_get (D := G.1) (ci := 2) (v := .ref (a (i + 1))) (C := RX2) (T := TX2) (N := 10) hx hb hts inX2_makeJoining_2 hown hK h_o 0 rfl rfl 0 (by decide) (hts (.fieldLink RX2 16 "GateLedger$Maker" "unlikes" "LGateLedger$Row;") (List.mem_of_getElem? (i := 1) (by decide +kernel))) (fun _ h9 => h9) rfl dX2_makeJoining_27 ?_
    refine lv_iload hx hb dX2_makeJoining_30 (lv_at hl 4 rfl) ?_
    refine lv_aload_n hx hb dX2_makeJoining_32 rfl (lv_at hl 0 rfl) ?_
    refine va_get (D := G.1) (ci := 2) (v := .int (nI (nG (heT (inN N (2 * w9)) w9 k)))) (C := RX2) (T := TX2) (N := 10) hx hb hts inX2_makeJoining_2 hown hK h_o 0 rfl rfl 8 (by decide) (hts (.fieldLink RX2 46 "GateLedger$Maker" "sum" "I") (List.mem_of_getElem? (i := 2) (by decide +kernel))) (fun _ h9 => h9) rfl dX2_makeJoining_33 ?_
    refine wr_v (va_runV (As := [.int (nI k), .int (nI (nG (heT (inN N (2 * w9)) w9 k)))]) (rest := []) FX (c_X4_put l G a ha (i + 1) 6 f5 (nI k) (nI (nG (heT (inN N (2 * w9)) w9 k))) (by decide)) (cwV 2 hts gX2_makeJoining_X4_put rfl rfl rfl (by decide +kernel) ⟨Nat.le_of_ble_eq_true rfl, Nat.le_of_ble_eq_true rfl⟩) (preV hK hNW h_u (va_recv hK h_u (ci := 4) (q0 := 0) rfl rfl)) rfl rfl hl.1 rfl (lv_room (Nat.le_of_ble_eq_true rfl)) dX2_makeJoining_36 ⟨Nat.le_of_ble_eq_true rfl, Nat.le_of_ble_eq_true rfl⟩) hS (orA_l (rng_sub (by omega))) (fun _ H locs _ hP9 hk18 hS => ?_)
    rw [rowPut_in (by omega) (by decide)] at hP9
    have h_u : PP G (rowW G a (i + 1) 6 (upd f5 k (nI (nG (heT (inN N (2 * w9)) w9 k))))) H := hP9
    have h_o : PP G (makO a i l9 (nI (nG (heT (inN N (2 * w9)) w9 k))) (nI (nG (heT (inN N (2 * w9)) w9 k) + 1))) H := kp hk18 h_o (dj_cons (rng_no ha (by omega)) (dj_nil))
    have h_p : PP G (rowW G a (i + 3) 6 f6) H := kp hk18 h_p (dj_cons (rng_no ha (by omega)) (dj_cons (rng_no ha (by omega)) (dj_nil)))
    have h_pa : PP G (rowW G a (i + 5) 6 f2) H := kp hk18 h_pa (dj_cons (rng_no ha (by omega)) (dj_cons (rng_no ha (by omega)) (dj_nil)))
    have h_c : PP G (rowW G a (i + 7) 6 f7) H := kp hk18 h_c (dj_cons (rng_no ha (by omega)) (dj_cons (rng_no ha (by omega)) (dj_nil)))
    have h_ca : PP G (rowW G a (i + 9) 6 f4) H := kp hk18 h_ca (dj_cons (rng_no ha (by omega)) (dj_cons (rng_no ha (by omega)) (dj_nil)))
    have h_n : PP G (netW G a j (hfN (heT (inN N (2 * w9)) w9 k) k (w9 + k))) H := kp hk18 h_n (dj_rng ha (netW_in (G := G) (a := a) (j := j) (N := hfN (heT (inN N (2 * w9)) w9 k) k (w9 + k))) (by omega))
    refine lv_aload_n hx hb dX2_makeJoining_39 rfl (lv_at hl 0 rfl) ?_
    refine va_get (D := G.1) (ci := 2) (v := .ref (a (i + 3))) (C := RX2) (T := TX2) (N := 10) hx hb hts inX2_makeJoining_2 hown hK h_o 0 rfl rfl 1 (by decide) (hts (.fieldLink RX2 20 "GateLedger$Maker" "passes" "LGateLedger$Row;") (List.mem_of_getElem? (i := 3) (by decide +kernel))) (fun _ h9 => h9) rfl dX2_makeJoining_40 ?_
    refine lv_iload hx hb dX2_makeJoining_43 (lv_at hl 4 rfl) ?_
    refine lv_aload_n hx hb dX2_makeJoining_45 rfl (lv_at hl 0 rfl) ?_
    refine va_get (D := G.1) (ci := 2) (v := .int (nI (nG (heT (inN N (2 * w9)) w9 k)))) (C := RX2) (T := TX2) (N := 10) hx hb hts inX2_makeJoining_2 hown hK h_o 0 rfl rfl 8 (by decide) (hts (.fieldLink RX2 46 "GateLedger$Maker" "sum" "I") (List.mem_of_getElem? (i := 2) (by decide +kernel))) (fun _ h9 => h9) rfl dX2_makeJoining_46 ?_
    refine wr_v (va_runV (As := [.int (nI k), .int (nI (nG (heT (inN N (2 * w9)) w9 k)))]) (rest := []) FX (c_X4_put l G a ha (i + 3) 6 f6 (nI k) (nI (nG (heT (inN N (2 * w9)) w9 k))) (by decide)) (cwV 2 hts gX2_makeJoining_X4_put rfl rfl rfl (by decide +kernel) ⟨Nat.le_of_ble_eq_true rfl, Nat.le_of_ble_eq_true rfl⟩) (preV hK hNW h_p (va_recv hK h_p (ci := 4) (q0 := 0) rfl rfl)) rfl rfl hl.1 rfl (lv_room (Nat.le_of_ble_eq_true rfl)) dX2_makeJoining_49 ⟨Nat.le_of_ble_eq_true rfl, Nat.le_of_ble_eq_true rfl⟩) hS (orA_l (rng_sub (by omega))) (fun _ H locs _ hP9 hk20 hS => ?_)
    rw [rowPut_in (by omega) (by decide)] at hP9
    have h_p : PP G (rowW G a (i + 3) 6 (upd f6 k (nI (nG (heT (inN N (2 * w9)) w9 k))))) H := hP9
    have h_o : PP G (makO a i l9 (nI (nG (heT (inN N (2 * w9)) w9 k))) (nI (nG (heT (inN N (2 * w9)) w9 k) + 1))) H := kp hk20 h_o (dj_cons (rng_no ha (by omega)) (dj_nil))
    have h_u : PP G (rowW G a (i + 1) 6 (upd f5 k (nI (nG (heT (inN N (2 * w9)) w9 k))))) H := kp hk20 h_u (dj_cons (rng_no ha (by omega)) (dj_cons (rng_no ha (by omega)) (dj_nil)))
    have h_pa : PP G (rowW G a (i + 5) 6 f2) H := kp hk20 h_pa (dj_cons (rng_no ha (by omega)) (dj_cons (rng_no ha (by omega)) (dj_nil)))
    have h_c : PP G (rowW G a (i + 7) 6 f7) H := kp hk20 h_c (dj_cons (rng_no ha (by omega)) (dj_cons (rng_no ha (by omega)) (dj_nil)))
    have h_ca : PP G (rowW G a (i + 9) 6 f4) H := kp hk20 h_ca (dj_cons (rng_no ha (by omega)) (dj_cons (rng_no ha (by omega)) (dj_nil)))
    have h_n : PP G (netW G a j (hfN (heT (inN N (2 * w9)) w9 k) k (w9 + k))) H := kp hk20 h_n (dj_rng ha (netW_in (G := G) (a := a) (j := j) (N := hfN (heT (inN N (2 * w9)) w9 k) k (w9 + k))) (by omega))
    refine lv_aload_n hx hb dX2_makeJoining_52 rfl (lv_at hl 0 rfl) ?_
    refine va_get (D := G.1) (ci := 2) (v := .ref (a (i + 7))) (C := RX2) (T := TX2) (N := 10) hx hb hts inX2_makeJoining_2 hown hK h_o 0 rfl rfl 3 (by decide) (hts (.fieldLink RX2 26 "GateLedger$Maker" "carries" "LGateLedger$Row;") (List.mem_of_getElem? (i := 4) (by decide +kernel))) (fun _ h9 => h9) rfl dX2_makeJoining_53 ?_
    refine lv_iload hx hb dX2_makeJoining_56 (lv_at hl 4 rfl) ?_
    refine lv_aload_n hx hb dX2_makeJoining_58 rfl (lv_at hl 0 rfl) ?_
    refine va_get (D := G.1) (ci := 2) (v := .int (nI (nG (heT (inN N (2 * w9)) w9 k) + 1))) (C := RX2) (T := TX2) (N := 10) hx hb hts inX2_makeJoining_2 hown hK h_o 0 rfl rfl 9 (by decide) (hts (.fieldLink RX2 56 "GateLedger$Maker" "carry" "I") (List.mem_of_getElem? (i := 5) (by decide +kernel))) (fun _ h9 => h9) rfl dX2_makeJoining_59 ?_
    refine wr_v (va_runV (As := [.int (nI k), .int (nI (nG (heT (inN N (2 * w9)) w9 k) + 1))]) (rest := []) FX (c_X4_put l G a ha (i + 7) 6 f7 (nI k) (nI (nG (heT (inN N (2 * w9)) w9 k) + 1)) (by decide)) (cwV 2 hts gX2_makeJoining_X4_put rfl rfl rfl (by decide +kernel) ⟨Nat.le_of_ble_eq_true rfl, Nat.le_of_ble_eq_true rfl⟩) (preV hK hNW h_c (va_recv hK h_c (ci := 4) (q0 := 0) rfl rfl)) rfl rfl hl.1 rfl (lv_room (Nat.le_of_ble_eq_true rfl)) dX2_makeJoining_62 ⟨Nat.le_of_ble_eq_true rfl, Nat.le_of_ble_eq_true rfl⟩) hS (orA_l (rng_sub (by omega))) (fun _ H locs _ hP9 hk22 hS => ?_)
    rw [rowPut_in (by omega) (by decide)] at hP9
    have h_c : PP G (rowW G a (i + 7) 6 (upd f7 k (nI (nG (heT (inN N (2 * w9)) w9 k) + 1)))) H := hP9
    have h_o : PP G (makO a i l9 (nI (nG (heT (inN N (2 * w9)) w9 k))) (nI (nG (heT (inN N (2 * w9)) w9 k) + 1))) H := kp hk22 h_o (dj_cons (rng_no ha (by omega)) (dj_nil))
    have h_u : PP G (rowW G a (i + 1) 6 (upd f5 k (nI (nG (heT (inN N (2 * w9)) w9 k))))) H := kp hk22 h_u (dj_cons (rng_no ha (by omega)) (dj_cons (rng_no ha (by omega)) (dj_nil)))
    have h_p : PP G (rowW G a (i + 3) 6 (upd f6 k (nI (nG (heT (inN N (2 * w9)) w9 k))))) H := kp hk22 h_p (dj_cons (rng_no ha (by omega)) (dj_cons (rng_no ha (by omega)) (dj_nil)))
    have h_pa : PP G (rowW G a (i + 5) 6 f2) H := kp hk22 h_pa (dj_cons (rng_no ha (by omega)) (dj_cons (rng_no ha (by omega)) (dj_nil)))
    have h_ca : PP G (rowW G a (i + 9) 6 f4) H := kp hk22 h_ca (dj_cons (rng_no ha (by omega)) (dj_cons (rng_no ha (by omega)) (dj_nil)))
    have h_n : PP G (netW G a j (hfN (heT (inN N (2 * w9)) w9 k) k (w9 + k))) H := kp hk22 h_n (dj_rng ha (netW_in (G := G) (a := a) (j := j) (N := hfN (heT (inN N (2 * w9)) w9 k) k (w9 + k))) (by omega))
    refine lv_iinc (v := nI (k + 1)) (lv' := [(4, .int (nI (k + 1))), (0, .ref (a i)), (1, .ref (a j)), (2, .int (bI q9)), (3, .int (nI w9))]) hx hb dX2_makeJoining_65 hl (k := 4) rfl (by first | exact nI_add _ 1 | decide) (by decide) rfl (fun ls hl => ?_)
    refine lv_goto (tgt := 9) hx hb dX2_makeJoining_68 (by decide) ?_
    exact ih3 (k + 1) (upd f5 k (nI (nG (heT (inN N (2 * w9)) w9 k)))) (upd f6 k (nI (nG (heT (inN N (2 * w9)) w9 k)))) (upd f7 k (nI (nG (heT (inN N (2 * w9)) w9 k) + 1))) (nI (nG (heT (inN N (2 * w9)) w9 k))) (nI (nG (heT (inN N (2 * w9)) w9 k) + 1)) _ _ _ ⟨h_o, h_u, h_p, h_pa, h_c, h_ca, h_n, hS, lv_sub hl [1, 2, 3, 4, 0] rfl, by omega, upd_fill (v := fun r => nI (nG (inN N (2 * w9)) + 2 * r)) hu (by rw [hE.1]), upd_fill (v := fun r => nI (nG (inN N (2 * w9)) + 2 * r)) hp (by rw [hE.1]), upd_fill (v := fun r => nI (nG (inN N (2 * w9)) + 2 * r + 1)) hc (by rw [hE.1])⟩ (by show w9 - (k + 1) < w9 - k; omega)
set_option maxRecDepth 20000 in
theorem inX2_takeFirstOfLine_2 : ∀ w ∈ u_ws RX2 TX2 10, w ∈ wsX2_takeFirstOfLine := by decide +kernel
set_option maxHeartbeats 4000000 in
set_option maxRecDepth 100000 in
/-- Maker.takeFirstOfLine -/
theorem c_X2_takeFirstOfLine (l : Launch) (G : GG) (a : Nat → Nat) (ha : Inj a) (i : Nat) (s9 k9 : Int32) (f : Nat → Int32) (n9 : Nat) (hn : 1 ≤ n9 ∧ n9 ≤ 5) : Met l yX2_takeFirstOfLine wsX2_takeFirstOfLine ({ frames := 1, cells := 0, slots := 0, locals := 22 } : Room) (PcB G [.ref (a i)] (fun H => PP G (makO a i (nI n9) s9 k9) H ∧ PP G (rowW G a (i + 13) 5 f) H)) (QI (fun (r : Int32) (_ : Unit) => r = f 0) (fun _ H => PP G (makO a i (nI (n9 - 1)) s9 k9) H ∧ PP G (rowW G a (i + 13) 5 (shf f n9)) H) (orA (rng a i 1) (rng a (i + 13) 2))) 0 0 (orA (rng a i 1) (rng a (i + 13) 2)) := by
  refine Met.ofW (cc := cX2_takeFirstOfLine) (maxL := 3) (ret := (some .int)) (by decide) rfl ?_
  intro p e s m args below meth c s₁ B hml hv
  obtain ⟨rfl, hB, hK, hNW⟩ := hv
  have hx := B.exec
  have hb := B.bytes
  have hr := B.returns
  have hts := atoms_spec (ws := wsX2_takeFirstOfLine) B.pre
  have hown : s.vm.findClass RX2 = some m.cls := findClass_of_methodNamed B.named
  have hlocks := B.notSynchronized
  have FX : CallFix p m c cX2_takeFirstOfLine 3 s ([.ref (a i)] : List Value).toArray wsX2_takeFirstOfLine RX2 := ⟨hx, hb, hml, hown, hts⟩
  have hl := lv_entry ([.ref (a i)]) (n := 3) (Nat.le_of_ble_eq_true rfl)
  rw [lg_entry_eq]
  generalize (lg_sl ([.ref (a i)]) ++ List.replicate (3 - (lg_sl ([.ref (a i)])).length) Slot.unset).toArray = ls at hl ⊢
  have hl : lv_has ls 3 [(0, .ref (a i))] := hl
  obtain ⟨h_o, h_v⟩ := hB
  have hS : va_S (orA (rng a i 1) (rng a (i + 13) 2)) s.heap s.heap [] := va_S.rf
  refine lv_aload_n hx hb dX2_takeFirstOfLine_0 rfl (lv_at hl 0 rfl) ?_
  refine va_get (D := G.1) (ci := 2) (v := .ref (a (i + 13))) (C := RX2) (T := TX2) (N := 10) hx hb hts inX2_takeFirstOfLine_2 hown hK h_o 0 rfl rfl 6 (by decide) (hts (.fieldLink RX2 35 "GateLedger$Maker" "line" "LGateLedger$Row;") (List.mem_of_getElem? (i := 1) (by decide +kernel))) (fun _ h9 => h9) rfl dX2_takeFirstOfLine_1 ?_
  refine lv_iconst (v := nI 0) hx hb dX2_takeFirstOfLine_4 (by decide) ?_
  refine ro_i (va_runV (As := [.int (nI 0)]) (rest := []) FX (c_X4_at l G a (i + 13) 5 f (nI 0) (by decide)) (cwV 1 hts gX2_takeFirstOfLine_X4_at rfl rfl rfl (by decide +kernel) ⟨Nat.le_of_ble_eq_true rfl, Nat.le_of_ble_eq_true rfl⟩) (preV hK hNW (va_P.sub h_v [0, 1] rfl) (va_recv hK h_v (ci := 4) (q0 := 0) rfl rfl)) rfl rfl hl.1 rfl (lv_room (Nat.le_of_ble_eq_true rfl)) dX2_takeFirstOfLine_5 ⟨Nat.le_of_ble_eq_true rfl, Nat.le_of_ble_eq_true rfl⟩) ?_
  refine lv_as (y := f 0) (rowAt_in (by omega) (by decide)) ?_
  refine lv_istore_n (lv' := [(1, .int (f 0)), (0, .ref (a i))]) hx hb dX2_takeFirstOfLine_8 rfl hl (by decide) rfl (fun ls hl => ?_)
  refine lv_iconst (v := nI 1) hx hb dX2_takeFirstOfLine_9 (by decide) ?_
  refine lv_istore_n (lv' := [(2, .int (nI 1)), (1, .int (f 0)), (0, .ref (a i))]) hx hb dX2_takeFirstOfLine_10 rfl hl (by decide) rfl (fun ls hl => ?_)
  refine lv_loop1 11 (fun (q : Nat) => n9 - q) (fun (q : Nat) (H : Heap) (locs : List Loc) (ls : Array Slot) => (PP G (makO a i (nI n9) s9 k9) H) ∧ (PP G (rowW G a (i + 13) 5 (shf f q)) H) ∧ (va_S (orA (rng a i 1) (rng a (i + 13) 2)) s.heap H locs) ∧ (lv_has ls 3 [(0, .ref (a i)), (1, .int (f 0)), (2, .int (nI q))]) ∧ (1 ≤ q ∧ q ≤ n9)) (fun _ => []) (fun q H locs ls hI ih => ?_) 1 ⟨h_o, (by rw [shf_1]; exact h_v), hS, lv_sub hl [2, 1, 0] rfl, by omega⟩ rfl
  obtain ⟨h_o, h_v, hS, hl, hq⟩ := hI
  have ih1 := @ih
  clear ih
  refine lv_iload_n hx hb dX2_takeFirstOfLine_11 rfl (lv_at hl 2 rfl) ?_
  refine lv_aload_n hx hb dX2_takeFirstOfLine_12 rfl (lv_at hl 0 rfl) ?_
  refine va_get (D := G.1) (ci := 2) (v := .int (nI n9)) (C := RX2) (T := TX2) (N := 10) hx hb hts inX2_takeFirstOfLine_2 hown hK h_o 0 rfl rfl 7 (by decide) (hts (.fieldLink RX2 78 "GateLedger$Maker" "lineLength" "I") (List.mem_of_getElem? (i := 2) (by decide +kernel))) (fun _ h9 => h9) rfl dX2_takeFirstOfLine_13 ?_
  refine lv_icmp_ge (tgt := 43) hx hb dX2_takeFirstOfLine_16 (by decide) (fun c16 => ?_) (fun c16 => ?_)
  · skip
    have c16 := cv_le (by omega) (by omega) c16
    have eq9 : q = n9 := by omega
    have h_o : PP G (makO a i (nI n9) s9 k9) H := h_o
    refine lv_aload_n hx hb dX2_takeFirstOfLine_43 rfl (lv_at hl 0 rfl) ?_
    refine lv_dup hx hb dX2_takeFirstOfLine_44 rfl ?_
    refine va_get (D := G.1) (ci := 2) (v := .int (nI n9)) (C := RX2) (T := TX2) (N := 10) hx hb hts inX2_takeFirstOfLine_2 hown hK h_o 0 rfl rfl 7 (by decide) (hts (.fieldLink RX2 78 "GateLedger$Maker" "lineLength" "I") (List.mem_of_getElem? (i := 2) (by decide +kernel))) (fun _ h9 => h9) rfl dX2_takeFirstOfLine_45 ?_
    refine lv_iconst (v := nI 1) hx hb dX2_takeFirstOfLine_48 (by decide) ?_
    refine lv_isub hx hb dX2_takeFirstOfLine_49 ?_
    refine lv_as (pk_sub (by omega)) ?_
    refine pp_put (ci := 2) (v := .int (nI (n9 - 1))) (ty := .int) (C := RX2) (T := TX2) (N := 10) hx hb hts inX2_takeFirstOfLine_2 tyX2 tyX2_ok nmX2 hown hK h_o hS (Or.inl (rng_in (by omega))) rfl 7 (by decide) (hts (.fieldLink RX2 78 "GateLedger$Maker" "lineLength" "I") (List.mem_of_getElem? (i := 2) (by decide +kernel))) (fun _ h9 => h9) rfl (by decide +kernel) rfl rfl (Nat.le_of_ble_eq_true rfl) dX2_takeFirstOfLine_50 (fun H locs hP9 hk2 _ hS => ?_)
    have h_o : PP G ([(a i, .inr (2, [.ref (a (i + 1)), .ref (a (i + 3)), .ref (a (i + 5)), .ref (a (i + 7)), .ref (a (i + 9)), .ref (a (i + 11)), .ref (a (i + 13)), .int (nI (n9 - 1)), .int s9, .int k9]))]) H := hP9
    have h_v : PP G (rowW G a (i + 13) 5 (shf f q)) H := kp hk2 h_v (dj_cons (ne_a ha (by omega)) (dj_cons (ne_a ha (by omega)) (dj_nil)))
    refine lv_iload_n hx hb dX2_takeFirstOfLine_53 rfl (lv_at hl 1 rfl) ?_
    exact en_wi () hx hb hr hlocks hS (rfl) (⟨h_o, by rw [← eq9]; exact h_v⟩) dX2_takeFirstOfLine_54
  · skip
    have c16 := cv_nle (by omega) (by omega) c16
    refine lv_aload_n hx hb dX2_takeFirstOfLine_19 rfl (lv_at hl 0 rfl) ?_
    refine va_get (D := G.1) (ci := 2) (v := .ref (a (i + 13))) (C := RX2) (T := TX2) (N := 10) hx hb hts inX2_takeFirstOfLine_2 hown hK h_o 0 rfl rfl 6 (by decide) (hts (.fieldLink RX2 35 "GateLedger$Maker" "line" "LGateLedger$Row;") (List.mem_of_getElem? (i := 1) (by decide +kernel))) (fun _ h9 => h9) rfl dX2_takeFirstOfLine_20 ?_
    refine lv_iload_n hx hb dX2_takeFirstOfLine_23 rfl (lv_at hl 2 rfl) ?_
    refine lv_iconst (v := nI 1) hx hb dX2_takeFirstOfLine_24 (by decide) ?_
    refine lv_isub hx hb dX2_takeFirstOfLine_25 ?_
    refine lv_as (pk_sub (by omega)) ?_
    refine lv_aload_n hx hb dX2_takeFirstOfLine_26 rfl (lv_at hl 0 rfl) ?_
    refine va_get (D := G.1) (ci := 2) (v := .ref (a (i + 13))) (C := RX2) (T := TX2) (N := 10) hx hb hts inX2_takeFirstOfLine_2 hown hK h_o 0 rfl rfl 6 (by decide) (hts (.fieldLink RX2 35 "GateLedger$Maker" "line" "LGateLedger$Row;") (List.mem_of_getElem? (i := 1) (by decide +kernel))) (fun _ h9 => h9) rfl dX2_takeFirstOfLine_27 ?_
    refine lv_iload_n hx hb dX2_takeFirstOfLine_30 rfl (lv_at hl 2 rfl) ?_
    refine ro_i (va_runV (As := [.int (nI q)]) (rest := [.int (nI (q - 1)), .ref (a (i + 13))]) FX (c_X4_at l G a (i + 13) 5 (shf f q) (nI q) (by decide)) (cwV 1 hts gX2_takeFirstOfLine_X4_at rfl rfl rfl (by decide +kernel) ⟨Nat.le_of_ble_eq_true rfl, Nat.le_of_ble_eq_true rfl⟩) (preV hK hNW (va_P.sub h_v [0, 1] rfl) (va_recv hK h_v (ci := 4) (q0 := 0) rfl rfl)) rfl rfl hl.1 rfl (lv_room (Nat.le_of_ble_eq_true rfl)) dX2_takeFirstOfLine_31 ⟨Nat.le_of_ble_eq_true rfl, Nat.le_of_ble_eq_true rfl⟩) ?_
    refine lv_as (y := f q) ((rowAt_in (by omega) (by decide)).trans shf_at) ?_
    refine wr_v (va_runV (As := [.int (nI (q - 1)), .int (f q)]) (rest := []) FX (c_X4_put l G a ha (i + 13) 5 (shf f q) (nI (q - 1)) (f q) (by decide)) (cwV 2 hts gX2_takeFirstOfLine_X4_put rfl rfl rfl (by decide +kernel) ⟨Nat.le_of_ble_eq_true rfl, Nat.le_of_ble_eq_true rfl⟩) (preV hK hNW h_v (va_recv hK h_v (ci := 4) (q0 := 0) rfl rfl)) rfl rfl hl.1 rfl (lv_room (Nat.le_of_ble_eq_true rfl)) dX2_takeFirstOfLine_34 ⟨Nat.le_of_ble_eq_true rfl, Nat.le_of_ble_eq_true rfl⟩) hS (orA_r (fun _ q => q)) (fun _ H locs _ hP9 hk3 hS => ?_)
    rw [rowPut_in (by omega) (by decide)] at hP9
    have h_v : PP G (rowW G a (i + 13) 5 (upd (shf f q) (q - 1) (f q))) H := hP9
    have h_o : PP G (makO a i (nI n9) s9 k9) H := kp hk3 h_o (dj_cons (rng_no ha (by omega)) (dj_nil))
    refine lv_iinc (v := nI (q + 1)) (lv' := [(2, .int (nI (q + 1))), (0, .ref (a i)), (1, .int (f 0))]) hx hb dX2_takeFirstOfLine_37 hl (k := 2) rfl (by first | exact nI_add _ 1 | decide) (by decide) rfl (fun ls hl => ?_)
    refine lv_goto (tgt := 11) hx hb dX2_takeFirstOfLine_40 (by decide) ?_
    exact ih1 (q + 1) _ _ _ ⟨h_o, (by rw [← shf_s hq.1]; exact h_v), hS, lv_sub hl [1, 2, 0] rfl, by omega⟩ (by show n9 - (q + 1) < n9 - q; omega)
set_option maxRecDepth 20000 in
theorem inX2_addToLine_2 : ∀ w ∈ u_ws RX2 TX2 10, w ∈ wsX2_addToLine := by decide +kernel
set_option maxHeartbeats 4000000 in
set_option maxRecDepth 100000 in
/-- Maker.addToLine -/
theorem c_X2_addToLine (l : Launch) (G : GG) (a : Nat → Nat) (ha : Inj a) (i j : Nat) (hij : i + 15 ≤ j ∨ j + 11 ≤ i) (s9 k9 : Int32) (f fp : Nat → Int32) (pm : Nat → Nat) (S0 : LnS) (w9 i9 n9 : Nat) (hw : 2 ≤ w9 ∧ w9 ≤ 4) (hi : 1 ≤ i9 ∧ i9 < w9) (hn : 1 ≤ n9 ∧ n9 ≤ w9) (hg : nG S0.1 + 5 * w9 ≤ 120) (hf : ∀ r, r < n9 → f r = nI (S0.2.1 r)) (hpm : ∀ r, r < w9 → fp (i9 * w9 + r) = nI (pm r)) : Met l yX2_addToLine wsX2_addToLine ({ frames := 4, cells := 0, slots := 0, locals := 96 } : Room) (PcB G [.ref (a i), .ref (a j), .int (nI w9), .int (nI i9)] (fun H => PP G (makO a i (nI n9) s9 k9) H ∧ PP G (rowW G a (i + 13) 5 f) H ∧ PP G (rowW G a (i + 11) 16 fp) H ∧ PP G (netW G a j S0.1) H)) (QV (fun u : Int32 × Int32 × (Nat → Int32) => ∀ r, r < w9 + 1 → u.2.2 r = nI (un (alT pm n9 S0 w9).2.1 w9 (alT pm n9 S0 w9).2.2 r)) (fun u H => PP G (makO a i (nI (w9 + 1)) u.1 u.2.1) H ∧ PP G (rowW G a (i + 13) 5 u.2.2) H ∧ PP G (rowW G a (i + 11) 16 fp) H ∧ PP G (netW G a j (alT pm n9 S0 w9).1) H) (orA (rng a i 1) (orA (rng a (i + 13) 2) (rng a j 11)))) 0 0 (orA (rng a i 1) (orA (rng a (i + 13) 2) (rng a j 11))) := by
  refine Met.ofW (cc := cX2_addToLine) (maxL := 6) (ret := none) (by decide) rfl ?_
  intro p e s m args below meth c s₁ B hml hv
  obtain ⟨rfl, hB, hK, hNW⟩ := hv
  have hx := B.exec
  have hb := B.bytes
  have hr := B.returns
  have hts := atoms_spec (ws := wsX2_addToLine) B.pre
  have hown : s.vm.findClass RX2 = some m.cls := findClass_of_methodNamed B.named
  have hlocks := B.notSynchronized
  have FX : CallFix p m c cX2_addToLine 6 s ([.ref (a i), .ref (a j), .int (nI w9), .int (nI i9)] : List Value).toArray wsX2_addToLine RX2 := ⟨hx, hb, hml, hown, hts⟩
  have hl := lv_entry ([.ref (a i), .ref (a j), .int (nI w9), .int (nI i9)]) (n := 6) (Nat.le_of_ble_eq_true rfl)
  rw [lg_entry_eq]
  generalize (lg_sl ([.ref (a i), .ref (a j), .int (nI w9), .int (nI i9)]) ++ List.replicate (6 - (lg_sl ([.ref (a i), .ref (a j), .int (nI w9), .int (nI i9)])).length) Slot.unset).toArray = ls at hl ⊢
  have hl : lv_has ls 6 [(0, .ref (a i)), (1, .ref (a j)), (2, .int (nI w9)), (3, .int (nI i9))] := hl
  obtain ⟨h_o, h_v, h_r, h_n⟩ := hB
  have hS : va_S (orA (rng a i 1) (orA (rng a (i + 13) 2) (rng a j 11))) s.heap s.heap [] := va_S.rf
  have hiw : (i9 + 1) * w9 ≤ 4 * 4 := Nat.mul_le_mul (by omega) (by omega)
  rw [Nat.add_mul, Nat.one_mul] at hiw
  refine lv_iconst (v := nI 0) hx hb dX2_addToLine_0 (by decide) ?_
  refine lv_istore (lv' := [(4, .int (nI 0)), (0, .ref (a i)), (1, .ref (a j)), (2, .int (nI w9)), (3, .int (nI i9))]) hx hb dX2_addToLine_1 hl (by decide) rfl (fun ls hl => ?_)
  refine lv_loop4 3 (fun (k : Nat) (f5 : Nat → Int32) (s8 : Int32) (k8 : Int32) => w9 - k) (fun (k : Nat) (f5 : Nat → Int32) (s8 : Int32) (k8 : Int32) (H : Heap) (locs : List Loc) (ls : Array Slot) => (PP G (makO a i (nI n9) s8 k8) H) ∧ (PP G (rowW G a (i + 13) 5 f5) H) ∧ (PP G (rowW G a (i + 11) 16 fp) H) ∧ (PP G (netW G a j ((alT pm n9 S0 k).1)) H) ∧ (va_S (orA (rng a i 1) (orA (rng a (i + 13) 2) (rng a j 11))) s.heap H locs) ∧ (lv_has ls 6 [(0, .ref (a i)), (1, .ref (a j)), (2, .int (nI w9)), (3, .int (nI i9)), (4, .int (nI k))]) ∧ (k ≤ w9) ∧ (∀ r, r < n9 ∨ r < k → f5 r = nI ((alT pm n9 S0 k).2.1 r)) ∧ (k ≠ 0 → k8 = nI (alT pm n9 S0 k).2.2)) (fun _ _ _ _ => []) (fun k f5 s8 k8 H locs ls hI ih => ?_) 0 f s9 k9 ⟨h_o, h_v, h_r, h_n, hS, lv_sub hl [1, 2, 3, 4, 0] rfl, by omega, fun r h => hf r (h.resolve_right (Nat.not_lt_zero r)), fun h => absurd rfl h⟩ rfl
  obtain ⟨h_o, h_v, h_r, h_n, hS, hl, hk, hf5, hk8⟩ := hI
  have ih1 := @ih
  clear ih
  have hA := alT_g (pm := pm) (ln := n9) (s := S0) k
  refine lv_iload hx hb dX2_addToLine_3 (lv_at hl 4 rfl) ?_
  refine lv_iload_n hx hb dX2_addToLine_5 rfl (lv_at hl 2 rfl) ?_
  refine lv_icmp_ge (tgt := 110) hx hb dX2_addToLine_6 (by decide) (fun c6 => ?_) (fun c6 => ?_)
  · skip
    have c6 := cv_le (by omega) (by omega) c6
    have ek : k = w9 := by omega
    refine lv_aload_n hx hb dX2_addToLine_110 rfl (lv_at hl 0 rfl) ?_
    refine va_get (D := G.1) (ci := 2) (v := .ref (a (i + 13))) (C := RX2) (T := TX2) (N := 10) hx hb hts inX2_addToLine_2 hown hK h_o 0 rfl rfl 6 (by decide) (hts (.fieldLink RX2 35 "GateLedger$Maker" "line" "LGateLedger$Row;") (List.mem_of_getElem? (i := 2) (by decide +kernel))) (fun _ h9 => h9) rfl dX2_addToLine_111 ?_
    refine lv_iload_n hx hb dX2_addToLine_114 rfl (lv_at hl 2 rfl) ?_
    refine lv_aload_n hx hb dX2_addToLine_115 rfl (lv_at hl 0 rfl) ?_
    refine va_get (D := G.1) (ci := 2) (v := .int k8) (C := RX2) (T := TX2) (N := 10) hx hb hts inX2_addToLine_2 hown hK h_o 0 rfl rfl 9 (by decide) (hts (.fieldLink RX2 56 "GateLedger$Maker" "carry" "I") (List.mem_of_getElem? (i := 4) (by decide +kernel))) (fun _ h9 => h9) rfl dX2_addToLine_116 ?_
    refine lv_as (y := nI ((alT pm n9 S0 k).2.2)) (hk8 (by omega)) ?_
    refine wr_v (va_runV (As := [.int (nI w9), .int (nI ((alT pm n9 S0 k).2.2))]) (rest := []) FX (c_X4_put l G a ha (i + 13) 5 f5 (nI w9) (nI ((alT pm n9 S0 k).2.2)) (by decide)) (cwV 2 hts gX2_addToLine_X4_put rfl rfl rfl (by decide +kernel) ⟨Nat.le_of_ble_eq_true rfl, Nat.le_of_ble_eq_true rfl⟩) (preV hK hNW h_v (va_recv hK h_v (ci := 4) (q0 := 0) rfl rfl)) rfl rfl hl.1 rfl (lv_room (Nat.le_of_ble_eq_true rfl)) dX2_addToLine_119 ⟨Nat.le_of_ble_eq_true rfl, Nat.le_of_ble_eq_true rfl⟩) hS (fun _ q => Or.inr (Or.inl q)) (fun _ H locs _ hP9 hk2 hS => ?_)
    rw [rowPut_in (by omega) (by decide)] at hP9
    have h_v : PP G (rowW G a (i + 13) 5 (upd f5 w9 (nI ((alT pm n9 S0 k).2.2)))) H := hP9
    have h_o : PP G (makO a i (nI n9) s8 k8) H := kp hk2 h_o (dj_cons (rng_no ha (by omega)) (dj_nil))
    have h_r : PP G (rowW G a (i + 11) 16 fp) H := kp hk2 h_r (dj_cons (rng_no ha (by omega)) (dj_cons (rng_no ha (by omega)) (dj_nil)))
    have h_n : PP G (netW G a j ((alT pm n9 S0 k).1)) H := kp hk2 h_n (dj_rng ha (netW_in (G := G) (a := a) (j := j) (N := (alT pm n9 S0 k).1)) (by omega))
    refine lv_aload_n hx hb dX2_addToLine_122 rfl (lv_at hl 0 rfl) ?_
    refine lv_iload_n hx hb dX2_addToLine_123 rfl (lv_at hl 2 rfl) ?_
    refine lv_iconst (v := nI 1) hx hb dX2_addToLine_124 (by decide) ?_
    refine lv_iadd hx hb dX2_addToLine_125 ?_
    refine lv_as (nI_add _ _) ?_
    refine pp_put (ci := 2) (v := .int (nI (w9 + 1))) (ty := .int) (C := RX2) (T := TX2) (N := 10) hx hb hts inX2_addToLine_2 tyX2 tyX2_ok nmX2 hown hK h_o hS (Or.inl (rng_in (by omega))) rfl 7 (by decide) (hts (.fieldLink RX2 78 "GateLedger$Maker" "lineLength" "I") (List.mem_of_getElem? (i := 3) (by decide +kernel))) (fun _ h9 => h9) rfl (by decide +kernel) rfl rfl (Nat.le_of_ble_eq_true rfl) dX2_addToLine_126 (fun H locs hP9 hk4 _ hS => ?_)
    have h_o : PP G ([(a i, .inr (2, [.ref (a (i + 1)), .ref (a (i + 3)), .ref (a (i + 5)), .ref (a (i + 7)), .ref (a (i + 9)), .ref (a (i + 11)), .ref (a (i + 13)), .int (nI (w9 + 1)), .int s8, .int k8]))]) H := hP9
    have h_v : PP G (rowW G a (i + 13) 5 (upd f5 w9 (nI ((alT pm n9 S0 k).2.2)))) H := kp hk4 h_v (dj_cons (ne_a ha (by omega)) (dj_cons (ne_a ha (by omega)) (dj_nil)))
    have h_r : PP G (rowW G a (i + 11) 16 fp) H := kp hk4 h_r (dj_cons (ne_a ha (by omega)) (dj_cons (ne_a ha (by omega)) (dj_nil)))
    have h_n : PP G (netW G a j ((alT pm n9 S0 k).1)) H := kp hk4 h_n (dj_one ha (netW_in (G := G) (a := a) (j := j) (N := (alT pm n9 S0 k).1)) (by omega))
    exact en_wv (s8, k8, upd f5 w9 (nI ((alT pm n9 S0 k).2.2))) hx hb hr hlocks hS (by rw [← ek]; exact upd_uns (fun r h => hf5 r (Or.inr h))) ⟨h_o, h_v, h_r, by rw [← ek]; exact h_n⟩ dX2_addToLine_129
  · skip
    have c6 := cv_nle (by omega) (by omega) c6
    refine lv_aload_n hx hb dX2_addToLine_9 rfl (lv_at hl 0 rfl) ?_
    refine va_get (D := G.1) (ci := 2) (v := .ref (a (i + 11))) (C := RX2) (T := TX2) (N := 10) hx hb hts inX2_addToLine_2 hown hK h_o 0 rfl rfl 5 (by decide) (hts (.fieldLink RX2 32 "GateLedger$Maker" "products" "LGateLedger$Row;") (List.mem_of_getElem? (i := 1) (by decide +kernel))) (fun _ h9 => h9) rfl dX2_addToLine_10 ?_
    refine lv_iload_n hx hb dX2_addToLine_13 rfl (lv_at hl 3 rfl) ?_
    refine lv_iload_n hx hb dX2_addToLine_14 rfl (lv_at hl 2 rfl) ?_
    refine lv_imul hx hb dX2_addToLine_15 ?_
    refine lv_as (pk_mul _ _) ?_
    refine lv_iload hx hb dX2_addToLine_16 (lv_at hl 4 rfl) ?_
    refine lv_iadd hx hb dX2_addToLine_18 ?_
    refine lv_as (nI_add _ _) ?_
    refine ro_i (va_runV (As := [.int (nI ((i9 * w9) + k))]) (rest := []) FX (c_X4_at l G a (i + 11) 16 fp (nI ((i9 * w9) + k)) (by decide)) (cwV 1 hts gX2_addToLine_X4_at rfl rfl rfl (by decide +kernel) ⟨Nat.le_of_ble_eq_true rfl, Nat.le_of_ble_eq_true rfl⟩) (preV hK hNW (va_P.sub h_r [0, 1] rfl) (va_recv hK h_r (ci := 4) (q0 := 0) rfl rfl)) rfl rfl hl.1 rfl (lv_room (Nat.le_of_ble_eq_true rfl)) dX2_addToLine_19 ⟨Nat.le_of_ble_eq_true rfl, Nat.le_of_ble_eq_true rfl⟩) ?_
    refine lv_as (y := nI (pm k)) ((rowAt_in (by omega) (by decide)).trans (hpm _ (by omega))) ?_
    refine lv_istore (lv' := [(5, .int (nI (pm k))), (0, .ref (a i)), (1, .ref (a j)), (2, .int (nI w9)), (3, .int (nI i9)), (4, .int (nI k))]) hx hb dX2_addToLine_22 hl (by decide) rfl (fun ls hl => ?_)
    refine lv_lab2 91 (fun (s7 : Int32) (k7 : Int32) (H : Heap) (locs : List Loc) (ls : Array Slot) => (PP G (makO a i (nI n9) s7 k7) H) ∧ (PP G (rowW G a (i + 13) 5 f5) H) ∧ (PP G (rowW G a (i + 11) 16 fp) H) ∧ (PP G (netW G a j ((alT pm n9 S0 (k + 1)).1)) H) ∧ (va_S (orA (rng a i 1) (orA (rng a (i + 13) 2) (rng a j 11))) s.heap H locs) ∧ (lv_has ls 6 [(0, .ref (a i)), (1, .ref (a j)), (2, .int (nI w9)), (3, .int (nI i9)), (4, .int (nI k))]) ∧ (s7 = nI ((alT pm n9 S0 (k + 1)).2.1 k)) ∧ (k7 = nI (alT pm n9 S0 (k + 1)).2.2)) (fun (s7 : Int32) (k7 : Int32) => []) (fun s7 k7 H locs ls hI => ?_) (fun lab5 => ?_)
    · skip
      obtain ⟨h_o, h_v, h_r, h_n, hS, hl, hs7, hk7⟩ := hI
      refine lv_aload_n hx hb dX2_addToLine_91 rfl (lv_at hl 0 rfl) ?_
      refine va_get (D := G.1) (ci := 2) (v := .ref (a (i + 13))) (C := RX2) (T := TX2) (N := 10) hx hb hts inX2_addToLine_2 hown hK h_o 0 rfl rfl 6 (by decide) (hts (.fieldLink RX2 35 "GateLedger$Maker" "line" "LGateLedger$Row;") (List.mem_of_getElem? (i := 2) (by decide +kernel))) (fun _ h9 => h9) rfl dX2_addToLine_92 ?_
      refine lv_iload hx hb dX2_addToLine_95 (lv_at hl 4 rfl) ?_
      refine lv_aload_n hx hb dX2_addToLine_97 rfl (lv_at hl 0 rfl) ?_
      refine va_get (D := G.1) (ci := 2) (v := .int s7) (C := RX2) (T := TX2) (N := 10) hx hb hts inX2_addToLine_2 hown hK h_o 0 rfl rfl 8 (by decide) (hts (.fieldLink RX2 46 "GateLedger$Maker" "sum" "I") (List.mem_of_getElem? (i := 5) (by decide +kernel))) (fun _ h9 => h9) rfl dX2_addToLine_98 ?_
      refine lv_as (y := nI ((alT pm n9 S0 (k + 1)).2.1 k)) hs7 ?_
      refine wr_v (va_runV (As := [.int (nI k), .int (nI ((alT pm n9 S0 (k + 1)).2.1 k))]) (rest := []) FX (c_X4_put l G a ha (i + 13) 5 f5 (nI k) (nI ((alT pm n9 S0 (k + 1)).2.1 k)) (by decide)) (cwV 2 hts gX2_addToLine_X4_put rfl rfl rfl (by decide +kernel) ⟨Nat.le_of_ble_eq_true rfl, Nat.le_of_ble_eq_true rfl⟩) (preV hK hNW h_v (va_recv hK h_v (ci := 4) (q0 := 0) rfl rfl)) rfl rfl hl.1 rfl (lv_room (Nat.le_of_ble_eq_true rfl)) dX2_addToLine_101 ⟨Nat.le_of_ble_eq_true rfl, Nat.le_of_ble_eq_true rfl⟩) hS (fun _ q => Or.inr (Or.inl q)) (fun _ H locs _ hP9 hk6 hS => ?_)
      rw [rowPut_in (by omega) (by decide)] at hP9
      have h_v : PP G (rowW G a (i + 13) 5 (upd f5 k (nI ((alT pm n9 S0 (k + 1)).2.1 k)))) H := hP9
      have h_o : PP G (makO a i (nI n9) s7 k7) H := kp hk6 h_o (dj_cons (rng_no ha (by omega)) (dj_nil))
      have h_r : PP G (rowW G a (i + 11) 16 fp) H := kp hk6 h_r (dj_cons (rng_no ha (by omega)) (dj_cons (rng_no ha (by omega)) (dj_nil)))
      have h_n : PP G (netW G a j ((alT pm n9 S0 (k + 1)).1)) H := kp hk6 h_n (dj_rng ha (netW_in (G := G) (a := a) (j := j) (N := (alT pm n9 S0 (k + 1)).1)) (by omega))
      refine lv_iinc (v := nI (k + 1)) (lv' := [(4, .int (nI (k + 1))), (0, .ref (a i)), (1, .ref (a j)), (2, .int (nI w9)), (3, .int (nI i9))]) hx hb dX2_addToLine_104 hl (k := 4) rfl (by first | exact nI_add _ 1 | decide) (by decide) rfl (fun ls hl => ?_)
      refine lv_goto (tgt := 3) hx hb dX2_addToLine_107 (by decide) ?_
      exact ih1 (k + 1) (upd f5 k (nI ((alT pm n9 S0 (k + 1)).2.1 k))) s7 k7 _ _ _ ⟨h_o, h_v, h_r, h_n, hS, lv_sub hl [1, 2, 3, 4, 0] rfl, by omega, al_f hf5, fun _ => hk7⟩ (by show w9 - (k + 1) < w9 - k; omega)
    refine lv_iload hx hb dX2_addToLine_24 (lv_at hl 5 rfl) ?_
    refine lv_if_ne (tgt := 48) hx hb dX2_addToLine_26 (by decide) (fun c26 => ?_) (fun c26 => ?_)
    · skip
      have c26 := cv_ne (by omega) (by omega) (show ¬ nI k = nI 0 from c26)
      refine lv_iload hx hb dX2_addToLine_48 (lv_at hl 5 rfl) ?_
      refine lv_aload_n hx hb dX2_addToLine_50 rfl (lv_at hl 1 rfl) ?_
      refine va_get (D := G.1) (ci := 2) (v := .int (nI n9)) (C := RX2) (T := TX2) (N := 10) hx hb hts inX2_addToLine_2 hown hK h_o 0 rfl rfl 7 (by decide) (hts (.fieldLink RX2 78 "GateLedger$Maker" "lineLength" "I") (List.mem_of_getElem? (i := 3) (by decide +kernel))) (fun _ h9 => h9) rfl dX2_addToLine_51 ?_
      refine lv_icmp_ge (tgt := 80) hx hb dX2_addToLine_54 (by decide) (fun c54 => ?_) (fun c54 => ?_)
      · skip
        have c54 := cv_le (by omega) (by omega) c54
        refine lv_aload_n hx hb dX2_addToLine_80 rfl (lv_at hl 1 rfl) ?_
        refine lv_aload_n hx hb dX2_addToLine_81 rfl (lv_at hl 2 rfl) ?_
        refine lv_iload hx hb dX2_addToLine_82 (lv_at hl 0 rfl) ?_
        refine lv_aload_n hx hb dX2_addToLine_84 rfl (lv_at hl 1 rfl) ?_
        refine va_get (D := G.1) (ci := 2) (v := .int k8) (C := RX2) (T := TX2) (N := 10) hx hb hts inX2_addToLine_2 hown hK h_o 0 rfl rfl 9 (by decide) (hts (.fieldLink RX2 56 "GateLedger$Maker" "carry" "I") (List.mem_of_getElem? (i := 4) (by decide +kernel))) (fun _ h9 => h9) rfl dX2_addToLine_85 ?_
        refine lv_as (y := nI ((alT pm n9 S0 k).2.2)) (hk8 c26) ?_
        refine wr_v (va_runV (As := [.ref (a j), .int (nI (pm k)), .int (nI ((alT pm n9 S0 k).2.2))]) (rest := []) FX (c_X2_addHalf l G a ha i j (by omega) (nI n9) s8 k8 ((alT pm n9 S0 k).1) (pm k) ((alT pm n9 S0 k).2.2) (show nG (alT pm n9 S0 k).1 < 119 by omega)) (cwV 3 hts gX2_addToLine_X2_addHalf rfl rfl rfl (by decide +kernel) ⟨Nat.le_of_ble_eq_true rfl, Nat.le_of_ble_eq_true rfl⟩) (preV hK hNW (⟨h_o, h_n⟩) (va_recv hK h_o (ci := 2) (q0 := 0) rfl rfl)) rfl rfl hl.1 rfl (lv_room (Nat.le_of_ble_eq_true rfl)) dX2_addToLine_88 ⟨Nat.le_of_ble_eq_true rfl, Nat.le_of_ble_eq_true rfl⟩) hS (orA_m (fun _ q => q) (fun _ q => Or.inr q)) (fun _ H locs _ hP9 hk8 hS => ?_)
        have h_o : PP G (makO a i (nI n9) (nI (nG (alT pm n9 S0 k).1)) (nI (nG (alT pm n9 S0 k).1 + 1))) H := hP9.1
        have h_n : PP G (netW G a j (hfN ((alT pm n9 S0 k).1) (pm k) ((alT pm n9 S0 k).2.2))) H := hP9.2
        have h_v : PP G (rowW G a (i + 13) 5 f5) H := kp hk8 h_v (dj_cons (or_no (rng_no ha (by omega)) (rng_no ha (by omega))) (dj_cons (or_no (rng_no ha (by omega)) (rng_no ha (by omega))) (dj_nil)))
        have h_r : PP G (rowW G a (i + 11) 16 fp) H := kp hk8 h_r (dj_cons (or_no (rng_no ha (by omega)) (rng_no ha (by omega))) (dj_cons (or_no (rng_no ha (by omega)) (rng_no ha (by omega))) (dj_nil)))
        exact lab5 (nI (nG (alT pm n9 S0 k).1)) (nI (nG (alT pm n9 S0 k).1 + 1)) _ _ _ ⟨h_o, h_v, h_r, (congrArg (fun z : LnS => PP G (netW G a j z.1) H) (al_2 c26 (by omega))).mpr h_n, hS, lv_sub hl [1, 2, 3, 4, 5] rfl, ((congrArg (fun z : LnS => nI (z.2.1 k)) (al_2 c26 (by omega))).trans (congrArg nI un_s)).symm, (congrArg (fun z : LnS => nI z.2.2) (al_2 c26 (by omega))).symm⟩
      · skip
        have c54 := cv_nle (by omega) (by omega) c54
        refine lv_aload_n hx hb dX2_addToLine_57 rfl (lv_at hl 1 rfl) ?_
        refine lv_aload_n hx hb dX2_addToLine_58 rfl (lv_at hl 2 rfl) ?_
        refine lv_aload_n hx hb dX2_addToLine_59 rfl (lv_at hl 1 rfl) ?_
        refine va_get (D := G.1) (ci := 2) (v := .ref (a (i + 13))) (C := RX2) (T := TX2) (N := 10) hx hb hts inX2_addToLine_2 hown hK h_o 0 rfl rfl 6 (by decide) (hts (.fieldLink RX2 35 "GateLedger$Maker" "line" "LGateLedger$Row;") (List.mem_of_getElem? (i := 2) (by decide +kernel))) (fun _ h9 => h9) rfl dX2_addToLine_60 ?_
        refine lv_iload hx hb dX2_addToLine_63 (lv_at hl 5 rfl) ?_
        refine ro_i (va_runV (As := [.int (nI k)]) (rest := [.ref (a j), .ref (a i)]) FX (c_X4_at l G a (i + 13) 5 f5 (nI k) (by decide)) (cwV 1 hts gX2_addToLine_X4_at rfl rfl rfl (by decide +kernel) ⟨Nat.le_of_ble_eq_true rfl, Nat.le_of_ble_eq_true rfl⟩) (preV hK hNW (va_P.sub h_v [0, 1] rfl) (va_recv hK h_v (ci := 4) (q0 := 0) rfl rfl)) rfl rfl hl.1 rfl (lv_room (Nat.le_of_ble_eq_true rfl)) dX2_addToLine_65 ⟨Nat.le_of_ble_eq_true rfl, Nat.le_of_ble_eq_true rfl⟩) ?_
        refine lv_as (y := nI ((alT pm n9 S0 k).2.1 k)) ((rowAt_in (by omega) (by decide)).trans (hf5 _ (Or.inl (by omega)))) ?_
        refine lv_iload hx hb dX2_addToLine_68 (lv_at hl 0 rfl) ?_
        refine lv_aload_n hx hb dX2_addToLine_70 rfl (lv_at hl 1 rfl) ?_
        refine va_get (D := G.1) (ci := 2) (v := .int k8) (C := RX2) (T := TX2) (N := 10) hx hb hts inX2_addToLine_2 hown hK h_o 0 rfl rfl 9 (by decide) (hts (.fieldLink RX2 56 "GateLedger$Maker" "carry" "I") (List.mem_of_getElem? (i := 4) (by decide +kernel))) (fun _ h9 => h9) rfl dX2_addToLine_71 ?_
        refine lv_as (y := nI ((alT pm n9 S0 k).2.2)) (hk8 c26) ?_
        refine wr_v (va_runV (As := [.ref (a j), .int (nI ((alT pm n9 S0 k).2.1 k)), .int (nI (pm k)), .int (nI ((alT pm n9 S0 k).2.2))]) (rest := []) FX (c_X2_addFull l G a ha i j (by omega) (nI n9) s8 k8 ((alT pm n9 S0 k).1) ((alT pm n9 S0 k).2.1 k) (pm k) ((alT pm n9 S0 k).2.2) (show nG (alT pm n9 S0 k).1 < 116 by omega)) (cwV 4 hts gX2_addToLine_X2_addFull rfl rfl rfl (by decide +kernel) ⟨Nat.le_of_ble_eq_true rfl, Nat.le_of_ble_eq_true rfl⟩) (preV hK hNW (⟨h_o, h_n⟩) (va_recv hK h_o (ci := 2) (q0 := 0) rfl rfl)) rfl rfl hl.1 rfl (lv_room (Nat.le_of_ble_eq_true rfl)) dX2_addToLine_74 ⟨Nat.le_of_ble_eq_true rfl, Nat.le_of_ble_eq_true rfl⟩) hS (orA_m (fun _ q => q) (fun _ q => Or.inr q)) (fun _ H locs _ hP9 hk10 hS => ?_)
        have h_o : PP G (makO a i (nI n9) (nI (nG (alT pm n9 S0 k).1 + 1)) (nI (nG (alT pm n9 S0 k).1 + 4))) H := hP9.1
        have h_n : PP G (netW G a j (fuN ((alT pm n9 S0 k).1) ((alT pm n9 S0 k).2.1 k) (pm k) ((alT pm n9 S0 k).2.2))) H := hP9.2
        have h_v : PP G (rowW G a (i + 13) 5 f5) H := kp hk10 h_v (dj_cons (or_no (rng_no ha (by omega)) (rng_no ha (by omega))) (dj_cons (or_no (rng_no ha (by omega)) (rng_no ha (by omega))) (dj_nil)))
        have h_r : PP G (rowW G a (i + 11) 16 fp) H := kp hk10 h_r (dj_cons (or_no (rng_no ha (by omega)) (rng_no ha (by omega))) (dj_cons (or_no (rng_no ha (by omega)) (rng_no ha (by omega))) (dj_nil)))
        refine lv_goto (tgt := 91) hx hb dX2_addToLine_77 (by decide) ?_
        exact lab5 (nI (nG (alT pm n9 S0 k).1 + 1)) (nI (nG (alT pm n9 S0 k).1 + 4)) _ _ _ ⟨h_o, h_v, h_r, (congrArg (fun z : LnS => PP G (netW G a j z.1) H) (al_1 c26 c54)).mpr h_n, hS, lv_sub hl [1, 2, 3, 4, 5] rfl, ((congrArg (fun z : LnS => nI (z.2.1 k)) (al_1 c26 c54)).trans (congrArg nI un_s)).symm, (congrArg (fun z : LnS => nI z.2.2) (al_1 c26 c54)).symm⟩
    · skip
      have c26 := cv_eq (by omega) (by omega) (show nI k = nI 0 from c26)
      refine lv_aload_n hx hb dX2_addToLine_29 rfl (lv_at hl 1 rfl) ?_
      refine lv_aload_n hx hb dX2_addToLine_30 rfl (lv_at hl 2 rfl) ?_
      refine lv_aload_n hx hb dX2_addToLine_31 rfl (lv_at hl 1 rfl) ?_
      refine va_get (D := G.1) (ci := 2) (v := .ref (a (i + 13))) (C := RX2) (T := TX2) (N := 10) hx hb hts inX2_addToLine_2 hown hK h_o 0 rfl rfl 6 (by decide) (hts (.fieldLink RX2 35 "GateLedger$Maker" "line" "LGateLedger$Row;") (List.mem_of_getElem? (i := 2) (by decide +kernel))) (fun _ h9 => h9) rfl dX2_addToLine_32 ?_
      refine lv_iload hx hb dX2_addToLine_35 (lv_at hl 5 rfl) ?_
      refine ro_i (va_runV (As := [.int (nI k)]) (rest := [.ref (a j), .ref (a i)]) FX (c_X4_at l G a (i + 13) 5 f5 (nI k) (by decide)) (cwV 1 hts gX2_addToLine_X4_at rfl rfl rfl (by decide +kernel) ⟨Nat.le_of_ble_eq_true rfl, Nat.le_of_ble_eq_true rfl⟩) (preV hK hNW (va_P.sub h_v [0, 1] rfl) (va_recv hK h_v (ci := 4) (q0 := 0) rfl rfl)) rfl rfl hl.1 rfl (lv_room (Nat.le_of_ble_eq_true rfl)) dX2_addToLine_37 ⟨Nat.le_of_ble_eq_true rfl, Nat.le_of_ble_eq_true rfl⟩) ?_
      refine lv_as (y := nI ((alT pm n9 S0 k).2.1 k)) ((rowAt_in (by omega) (by decide)).trans (hf5 _ (Or.inl (by omega)))) ?_
      refine lv_iload hx hb dX2_addToLine_40 (lv_at hl 0 rfl) ?_
      refine wr_v (va_runV (As := [.ref (a j), .int (nI ((alT pm n9 S0 k).2.1 k)), .int (nI (pm k))]) (rest := []) FX (c_X2_addHalf l G a ha i j (by omega) (nI n9) s8 k8 ((alT pm n9 S0 k).1) ((alT pm n9 S0 k).2.1 k) (pm k) (show nG (alT pm n9 S0 k).1 < 119 by omega)) (cwV 3 hts gX2_addToLine_X2_addHalf rfl rfl rfl (by decide +kernel) ⟨Nat.le_of_ble_eq_true rfl, Nat.le_of_ble_eq_true rfl⟩) (preV hK hNW (⟨h_o, h_n⟩) (va_recv hK h_o (ci := 2) (q0 := 0) rfl rfl)) rfl rfl hl.1 rfl (lv_room (Nat.le_of_ble_eq_true rfl)) dX2_addToLine_42 ⟨Nat.le_of_ble_eq_true rfl, Nat.le_of_ble_eq_true rfl⟩) hS (orA_m (fun _ q => q) (fun _ q => Or.inr q)) (fun _ H locs _ hP9 hk12 hS => ?_)
      have h_o : PP G (makO a i (nI n9) (nI (nG (alT pm n9 S0 k).1)) (nI (nG (alT pm n9 S0 k).1 + 1))) H := hP9.1
      have h_n : PP G (netW G a j (hfN ((alT pm n9 S0 k).1) ((alT pm n9 S0 k).2.1 k) (pm k))) H := hP9.2
      have h_v : PP G (rowW G a (i + 13) 5 f5) H := kp hk12 h_v (dj_cons (or_no (rng_no ha (by omega)) (rng_no ha (by omega))) (dj_cons (or_no (rng_no ha (by omega)) (rng_no ha (by omega))) (dj_nil)))
      have h_r : PP G (rowW G a (i + 11) 16 fp) H := kp hk12 h_r (dj_cons (or_no (rng_no ha (by omega)) (rng_no ha (by omega))) (dj_cons (or_no (rng_no ha (by omega)) (rng_no ha (by omega))) (dj_nil)))
      refine lv_goto (tgt := 91) hx hb dX2_addToLine_45 (by decide) ?_
      exact lab5 (nI (nG (alT pm n9 S0 k).1)) (nI (nG (alT pm n9 S0 k).1 + 1)) _ _ _ ⟨h_o, h_v, h_r, (congrArg (fun z : LnS => PP G (netW G a j z.1) H) (al_0 c26)).mpr h_n, hS, lv_sub hl [1, 2, 3, 4, 5] rfl, ((congrArg (fun z : LnS => nI (z.2.1 k)) (al_0 c26)).trans (congrArg nI un_s)).symm, (congrArg (fun z : LnS => nI z.2.2) (al_0 c26)).symm⟩
set_option maxRecDepth 20000 in
theorem inX2_makeProduct_2 : ∀ w ∈ u_ws RX2 TX2 10, w ∈ wsX2_makeProduct := by decide +kernel
set_option maxHeartbeats 4000000 in
set_option maxRecDepth 100000 in
/-- Maker.makeProduct -/
theorem c_X2_makeProduct (l : Launch) (G : GG) (a : Nat → Nat) (ha : Inj a) (i j : Nat) (hij : i + 15 ≤ j ∨ j + 11 ≤ i) (l9 s9 k9 : Int32) (f fp : Nat → Int32) (N : NT) (w9 : Nat) (hw : 1 ≤ w9 ∧ w9 ≤ 4) (hg : nG N = 0) (ho : nO N = 0) : Met l yX2_makeProduct wsX2_makeProduct ({ frames := 5, cells := 0, slots := 0, locals := 121 } : Room) (PcB G [.ref (a i), .ref (a j), .int (nI w9)] (fun H => PP G (makO a i l9 s9 k9) H ∧ PP G (rowW G a (i + 13) 5 f) H ∧ PP G (rowW G a (i + 11) 16 fp) H ∧ PP G (netW G a j N) H)) (QV (fun _ : Int32 × Int32 × Int32 × (Nat → Int32) × (Nat → Int32) => True) (fun u H => PP G (makO a i u.1 u.2.1 u.2.2.1) H ∧ PP G (rowW G a (i + 13) 5 u.2.2.2.1) H ∧ PP G (rowW G a (i + 11) 16 u.2.2.2.2) H ∧ PP G (netW G a j (mulN N w9)) H) (orA (rng a i 1) (orA (rng a (i + 11) 4) (rng a j 11)))) 0 0 (orA (rng a i 1) (orA (rng a (i + 11) 4) (rng a j 11))) := by
  refine Met.ofW (cc := cX2_makeProduct) (maxL := 5) (ret := none) (by decide) rfl ?_
  intro p e s m args below meth c s₁ B hml hv
  obtain ⟨rfl, hB, hK, hNW⟩ := hv
  have hx := B.exec
  have hb := B.bytes
  have hr := B.returns
  have hts := atoms_spec (ws := wsX2_makeProduct) B.pre
  have hown : s.vm.findClass RX2 = some m.cls := findClass_of_methodNamed B.named
  have hlocks := B.notSynchronized
  have FX : CallFix p m c cX2_makeProduct 5 s ([.ref (a i), .ref (a j), .int (nI w9)] : List Value).toArray wsX2_makeProduct RX2 := ⟨hx, hb, hml, hown, hts⟩
  have hl := lv_entry ([.ref (a i), .ref (a j), .int (nI w9)]) (n := 5) (Nat.le_of_ble_eq_true rfl)
  rw [lg_entry_eq]
  generalize (lg_sl ([.ref (a i), .ref (a j), .int (nI w9)]) ++ List.replicate (5 - (lg_sl ([.ref (a i), .ref (a j), .int (nI w9)])).length) Slot.unset).toArray = ls at hl ⊢
  have hl : lv_has ls 5 [(0, .ref (a i)), (1, .ref (a j)), (2, .int (nI w9))] := hl
  obtain ⟨h_o, h_v, h_r, h_n⟩ := hB
  have hS : va_S (orA (rng a i 1) (orA (rng a (i + 11) 4) (rng a j 11))) s.heap s.heap [] := va_S.rf
  refine lv_aload_n hx hb dX2_makeProduct_0 rfl (lv_at hl 0 rfl) ?_
  refine lv_aload_n hx hb dX2_makeProduct_1 rfl (lv_at hl 1 rfl) ?_
  refine lv_iload_n hx hb dX2_makeProduct_2 rfl (lv_at hl 2 rfl) ?_
  refine wr_v (va_runV (As := [.ref (a j), .int (nI w9)]) (rest := []) FX (c_X2_addInputs l G a ha i j N w9 (by omega)) (cwV 2 hts gX2_makeProduct_X2_addInputs rfl rfl rfl (by decide +kernel) ⟨Nat.le_of_ble_eq_true rfl, Nat.le_of_ble_eq_true rfl⟩) (preV hK hNW h_n (va_recv hK h_o (ci := 2) (q0 := 0) rfl rfl)) rfl rfl hl.1 rfl (lv_room (Nat.le_of_ble_eq_true rfl)) dX2_makeProduct_3 ⟨Nat.le_of_ble_eq_true rfl, Nat.le_of_ble_eq_true rfl⟩) hS (fun _ q => Or.inr (Or.inr q)) (fun _ H locs _ hP9 hk1 hS => ?_)
  have h_n : PP G (netW G a j (inN N (2 * w9))) H := hP9
  have h_o : PP G (makO a i l9 s9 k9) H := kp hk1 h_o (dj_cons (rng_no ha (by omega)) (dj_nil))
  have h_v : PP G (rowW G a (i + 13) 5 f) H := kp hk1 h_v (dj_cons (rng_no ha (by omega)) (dj_cons (rng_no ha (by omega)) (dj_nil)))
  have h_r : PP G (rowW G a (i + 11) 16 fp) H := kp hk1 h_r (dj_cons (rng_no ha (by omega)) (dj_cons (rng_no ha (by omega)) (dj_nil)))
  have hgM := inN_g N (2 * w9)
  have hoM := inN_o N (2 * w9)
  refine lv_iconst (v := nI 0) hx hb dX2_makeProduct_6 (by decide) ?_
  refine lv_istore_n (lv' := [(3, .int (nI 0)), (0, .ref (a i)), (1, .ref (a j)), (2, .int (nI w9))]) hx hb dX2_makeProduct_7 rfl hl (by decide) rfl (fun ls hl => ?_)
  refine lv_loop2 8 (fun (n3 : Nat) (f5 : Nat → Int32) => w9 - n3) (fun (n3 : Nat) (f5 : Nat → Int32) (H : Heap) (locs : List Loc) (ls : Array Slot) => (PP G (makO a i l9 s9 k9) H) ∧ (PP G (rowW G a (i + 13) 5 f) H) ∧ (PP G (rowW G a (i + 11) 16 f5) H) ∧ (PP G (netW G a j (prT (inN N (2 * w9)) w9 (n3 * w9))) H) ∧ (va_S (orA (rng a i 1) (orA (rng a (i + 11) 4) (rng a j 11))) s.heap H locs) ∧ (lv_has ls 5 [(0, .ref (a i)), (1, .ref (a j)), (2, .int (nI w9)), (3, .int (nI n3))]) ∧ (n3 ≤ w9) ∧ (∀ r, r < n3 * w9 → f5 r = nI (nG (inN N (2 * w9)) + r))) (fun _ _ => []) (fun n3 f5 H locs ls hI ih => ?_) 0 fp ⟨h_o, h_v, h_r, (by rw [Nat.zero_mul]; exact h_n), hS, lv_sub hl [1, 2, 3, 0] rfl, by omega, fun r h => absurd h (by omega)⟩ rfl
  obtain ⟨h_o, h_v, h_r, h_n, hS, hl, hn3, hf5⟩ := hI
  have ih3 := @ih
  clear ih
  refine lv_iload_n hx hb dX2_makeProduct_8 rfl (lv_at hl 3 rfl) ?_
  refine lv_iload_n hx hb dX2_makeProduct_9 rfl (lv_at hl 2 rfl) ?_
  refine lv_icmp_ge (tgt := 57) hx hb dX2_makeProduct_10 (by decide) (fun c10 => ?_) (fun c10 => ?_)
  · skip
    have c10 := cv_le (by omega) (by omega) c10
    have en : n3 = w9 := by omega
    have hww : w9 ≤ n3 * w9 := by rw [en]; exact Nat.le_mul_self w9
    have hw16 : w9 * w9 ≤ 4 * 4 := Nat.mul_le_mul hw.2 hw.2
    refine lv_iconst (v := nI 0) hx hb dX2_makeProduct_57 (by decide) ?_
    refine lv_istore_n (lv' := [(3, .int (nI 0)), (0, .ref (a i)), (1, .ref (a j)), (2, .int (nI w9))]) hx hb dX2_makeProduct_58 rfl hl (by decide) rfl (fun ls hl => ?_)
    refine lv_loop2 59 (fun (z : Nat) (g5 : Nat → Int32) => w9 - z) (fun (z : Nat) (g5 : Nat → Int32) (H : Heap) (locs : List Loc) (ls : Array Slot) => (PP G (makO a i l9 s9 k9) H) ∧ (PP G (rowW G a (i + 13) 5 g5) H) ∧ (PP G (rowW G a (i + 11) 16 f5) H) ∧ (PP G (netW G a j (prT (inN N (2 * w9)) w9 (w9 * w9))) H) ∧ (va_S (orA (rng a i 1) (orA (rng a (i + 11) 4) (rng a j 11))) s.heap H locs) ∧ (lv_has ls 5 [(0, .ref (a i)), (1, .ref (a j)), (2, .int (nI w9)), (3, .int (nI z))]) ∧ (z ≤ w9) ∧ (∀ r, r < z → g5 r = nI (nG (inN N (2 * w9)) + r))) (fun _ _ => []) (fun z g5 H locs ls hI ih => ?_) 0 f ⟨h_o, h_v, h_r, (by rw [show w9 * w9 = n3 * w9 by rw [en]]; exact h_n), hS, lv_sub hl [1, 2, 3, 0] rfl, by omega, fun r h => absurd h (Nat.not_lt_zero r)⟩ rfl
    obtain ⟨h_o, h_v, h_r, h_n, hS, hl, hz, hg5⟩ := hI
    have ih4 := @ih
    clear ih
    refine lv_iload_n hx hb dX2_makeProduct_59 rfl (lv_at hl 3 rfl) ?_
    refine lv_iload_n hx hb dX2_makeProduct_60 rfl (lv_at hl 2 rfl) ?_
    refine lv_icmp_ge (tgt := 86) hx hb dX2_makeProduct_61 (by decide) (fun c61 => ?_) (fun c61 => ?_)
    · skip
      have c61 := cv_le (by omega) (by omega) c61
      refine lv_aload_n hx hb dX2_makeProduct_86 rfl (lv_at hl 0 rfl) ?_
      refine lv_iload_n hx hb dX2_makeProduct_87 rfl (lv_at hl 2 rfl) ?_
      refine pp_put (ci := 2) (v := .int (nI w9)) (ty := .int) (C := RX2) (T := TX2) (N := 10) hx hb hts inX2_makeProduct_2 tyX2 tyX2_ok nmX2 hown hK h_o hS (Or.inl (rng_in (by omega))) rfl 7 (by decide) (hts (.fieldLink RX2 78 "GateLedger$Maker" "lineLength" "I") (List.mem_of_getElem? (i := 3) (by decide +kernel))) (fun _ h9 => h9) rfl (by decide +kernel) rfl rfl (Nat.le_of_ble_eq_true rfl) dX2_makeProduct_88 (fun H locs hP9 hk5 _ hS => ?_)
      have h_o : PP G ([(a i, .inr (2, [.ref (a (i + 1)), .ref (a (i + 3)), .ref (a (i + 5)), .ref (a (i + 7)), .ref (a (i + 9)), .ref (a (i + 11)), .ref (a (i + 13)), .int (nI w9), .int s9, .int k9]))]) H := hP9
      have h_v : PP G (rowW G a (i + 13) 5 g5) H := kp hk5 h_v (dj_cons (ne_a ha (by omega)) (dj_cons (ne_a ha (by omega)) (dj_nil)))
      have h_r : PP G (rowW G a (i + 11) 16 f5) H := kp hk5 h_r (dj_cons (ne_a ha (by omega)) (dj_cons (ne_a ha (by omega)) (dj_nil)))
      have h_n : PP G (netW G a j (prT (inN N (2 * w9)) w9 (w9 * w9))) H := kp hk5 h_n (dj_one ha (netW_in (G := G) (a := a) (j := j) (N := (prT (inN N (2 * w9)) w9 (w9 * w9)))) (by omega))
      refine lv_iconst (v := nI 1) hx hb dX2_makeProduct_91 (by decide) ?_
      refine lv_istore_n (lv' := [(3, .int (nI 1)), (0, .ref (a i)), (1, .ref (a j)), (2, .int (nI w9))]) hx hb dX2_makeProduct_92 rfl hl (by decide) rfl (fun ls hl => ?_)
      refine lv_loop4 93 (fun (y : Nat) (g6 : Nat → Int32) (s8 : Int32) (k8 : Int32) => w9 - y) (fun (y : Nat) (g6 : Nat → Int32) (s8 : Int32) (k8 : Int32) (H : Heap) (locs : List Loc) (ls : Array Slot) => (PP G (makO a i (nI ((muT w9 (nG (inN N (2 * w9))) (prT (inN N (2 * w9)) w9 (w9 * w9)) y).2.2)) s8 k8) H) ∧ (PP G (rowW G a (i + 13) 5 g6) H) ∧ (PP G (rowW G a (i + 11) 16 f5) H) ∧ (PP G (netW G a j ((muT w9 (nG (inN N (2 * w9))) (prT (inN N (2 * w9)) w9 (w9 * w9)) y).1)) H) ∧ (va_S (orA (rng a i 1) (orA (rng a (i + 11) 4) (rng a j 11))) s.heap H locs) ∧ (lv_has ls 5 [(0, .ref (a i)), (1, .ref (a j)), (2, .int (nI w9)), (3, .int (nI (y + 1)))]) ∧ (y + 1 ≤ w9) ∧ (∀ r, r < (muT w9 (nG (inN N (2 * w9))) (prT (inN N (2 * w9)) w9 (w9 * w9)) y).2.2 → g6 r = nI ((muT w9 (nG (inN N (2 * w9))) (prT (inN N (2 * w9)) w9 (w9 * w9)) y).2.1 r))) (fun _ _ _ _ => []) (fun y g6 s8 k8 H locs ls hI ih => ?_) 0 g5 s9 k9 ⟨h_o, h_v, h_r, h_n, hS, lv_sub hl [1, 2, 3, 0] rfl, by omega, fun r h => hg5 r (show r < z from (show z = w9 by omega) ▸ h)⟩ rfl
      obtain ⟨h_o, h_v, h_r, h_n, hS, hl, hy, hg6⟩ := hI
      have ih6 := @ih
      clear ih
      have hm := muT_g (w := w9) (b := nG (inN N (2 * w9))) (M := (prT (inN N (2 * w9)) w9 (w9 * w9))) y
      have hq : 5 * w9 * y ≤ 5 * w9 * 3 := Nat.mul_le_mul_left _ (by omega)
      have hgP := (prT_g (inN N (2 * w9)) w9 (w9 * w9))
      refine lv_iload_n hx hb dX2_makeProduct_93 rfl (lv_at hl 3 rfl) ?_
      refine lv_iload_n hx hb dX2_makeProduct_94 rfl (lv_at hl 2 rfl) ?_
      refine lv_icmp_ge (tgt := 120) hx hb dX2_makeProduct_95 (by decide) (fun c95 => ?_) (fun c95 => ?_)
      · skip
        have c95 := cv_le (by omega) (by omega) c95
        have ey : y = w9 - 1 := by omega
        refine lv_iconst (v := nI 0) hx hb dX2_makeProduct_120 (by decide) ?_
        refine lv_istore_n (lv' := [(3, .int (nI 0)), (0, .ref (a i)), (1, .ref (a j)), (2, .int (nI w9))]) hx hb dX2_makeProduct_121 rfl hl (by decide) rfl (fun ls hl => ?_)
        refine lv_loop1 122 (fun (x : Nat) => (muT w9 (nG (inN N (2 * w9))) (prT (inN N (2 * w9)) w9 (w9 * w9)) y).2.2 - x) (fun (x : Nat) (H : Heap) (locs : List Loc) (ls : Array Slot) => (PP G (makO a i (nI ((muT w9 (nG (inN N (2 * w9))) (prT (inN N (2 * w9)) w9 (w9 * w9)) y).2.2)) s8 k8) H) ∧ (PP G (rowW G a (i + 13) 5 g6) H) ∧ (PP G (rowW G a (i + 11) 16 f5) H) ∧ (PP G (netW G a j (oaT (muT w9 (nG (inN N (2 * w9))) (prT (inN N (2 * w9)) w9 (w9 * w9)) y).1 (muT w9 (nG (inN N (2 * w9))) (prT (inN N (2 * w9)) w9 (w9 * w9)) y).2.1 x)) H) ∧ (va_S (orA (rng a i 1) (orA (rng a (i + 11) 4) (rng a j 11))) s.heap H locs) ∧ (lv_has ls 5 [(0, .ref (a i)), (1, .ref (a j)), (2, .int (nI w9)), (3, .int (nI x))]) ∧ (x ≤ (muT w9 (nG (inN N (2 * w9))) (prT (inN N (2 * w9)) w9 (w9 * w9)) y).2.2)) (fun _ => []) (fun x H locs ls hI ih => ?_) 0 ⟨h_o, h_v, h_r, h_n, hS, lv_sub hl [1, 2, 3, 0] rfl, by omega⟩ rfl
        obtain ⟨h_o, h_v, h_r, h_n, hS, hl, hx5⟩ := hI
        have ih7 := @ih
        clear ih
        have hO := oaT_g (M := (muT w9 (nG (inN N (2 * w9))) (prT (inN N (2 * w9)) w9 (w9 * w9)) y).1) (Lf := (muT w9 (nG (inN N (2 * w9))) (prT (inN N (2 * w9)) w9 (w9 * w9)) y).2.1) x
        refine lv_iload_n hx hb dX2_makeProduct_122 rfl (lv_at hl 3 rfl) ?_
        refine lv_aload_n hx hb dX2_makeProduct_123 rfl (lv_at hl 0 rfl) ?_
        refine va_get (D := G.1) (ci := 2) (v := .int (nI ((muT w9 (nG (inN N (2 * w9))) (prT (inN N (2 * w9)) w9 (w9 * w9)) y).2.2))) (C := RX2) (T := TX2) (N := 10) hx hb hts inX2_makeProduct_2 hown hK h_o 0 rfl rfl 7 (by decide) (hts (.fieldLink RX2 78 "GateLedger$Maker" "lineLength" "I") (List.mem_of_getElem? (i := 3) (by decide +kernel))) (fun _ h9 => h9) rfl dX2_makeProduct_124 ?_
        refine lv_icmp_ge (tgt := 149) hx hb dX2_makeProduct_127 (by decide) (fun c127 => ?_) (fun c127 => ?_)
        · skip
          have c127 := cv_le (by omega) (by omega) c127
          have ex : x = (muT w9 (nG (inN N (2 * w9))) (prT (inN N (2 * w9)) w9 (w9 * w9)) y).2.2 := by omega
          exact en_wv (nI (muT w9 (nG (inN N (2 * w9))) (prT (inN N (2 * w9)) w9 (w9 * w9)) y).2.2, s8, k8, g6, f5) hx hb hr hlocks hS (trivial) (⟨h_o, h_v, h_r, by unfold mulN; rw [← ey, ← ex]; exact h_n⟩) dX2_makeProduct_149
        · skip
          have c127 := cv_nle (by omega) (by omega) c127
          refine lv_aload_n hx hb dX2_makeProduct_130 rfl (lv_at hl 1 rfl) ?_
          refine lv_aload_n hx hb dX2_makeProduct_131 rfl (lv_at hl 0 rfl) ?_
          refine va_get (D := G.1) (ci := 2) (v := .ref (a (i + 13))) (C := RX2) (T := TX2) (N := 10) hx hb hts inX2_makeProduct_2 hown hK h_o 0 rfl rfl 6 (by decide) (hts (.fieldLink RX2 35 "GateLedger$Maker" "line" "LGateLedger$Row;") (List.mem_of_getElem? (i := 2) (by decide +kernel))) (fun _ h9 => h9) rfl dX2_makeProduct_132 ?_
          refine lv_iload_n hx hb dX2_makeProduct_135 rfl (lv_at hl 3 rfl) ?_
          refine ro_i (va_runV (As := [.int (nI x)]) (rest := [.ref (a j)]) FX (c_X4_at l G a (i + 13) 5 g6 (nI x) (by decide)) (cwV 1 hts gX2_makeProduct_X4_at rfl rfl rfl (by decide +kernel) ⟨Nat.le_of_ble_eq_true rfl, Nat.le_of_ble_eq_true rfl⟩) (preV hK hNW (va_P.sub h_v [0, 1] rfl) (va_recv hK h_v (ci := 4) (q0 := 0) rfl rfl)) rfl rfl hl.1 rfl (lv_room (Nat.le_of_ble_eq_true rfl)) dX2_makeProduct_136 ⟨Nat.le_of_ble_eq_true rfl, Nat.le_of_ble_eq_true rfl⟩) ?_
          refine lv_as (y := nI ((muT w9 (nG (inN N (2 * w9))) (prT (inN N (2 * w9)) w9 (w9 * w9)) y).2.1 x)) ((rowAt_in (by omega) (by decide)).trans (hg6 _ (by omega))) ?_
          refine wr_i (va_runV (As := [.int (nI ((muT w9 (nG (inN N (2 * w9))) (prT (inN N (2 * w9)) w9 (w9 * w9)) y).2.1 x))]) (rest := []) FX (c_X3_addOut l G a ha j (oaT (muT w9 (nG (inN N (2 * w9))) (prT (inN N (2 * w9)) w9 (w9 * w9)) y).1 (muT w9 (nG (inN N (2 * w9))) (prT (inN N (2 * w9)) w9 (w9 * w9)) y).2.1 x) ((muT w9 (nG (inN N (2 * w9))) (prT (inN N (2 * w9)) w9 (w9 * w9)) y).2.1 x) (show nO (oaT (muT w9 (nG (inN N (2 * w9))) (prT (inN N (2 * w9)) w9 (w9 * w9)) y).1 (muT w9 (nG (inN N (2 * w9))) (prT (inN N (2 * w9)) w9 (w9 * w9)) y).2.1 x) < 16 by omega)) (cwV 1 hts gX2_makeProduct_X3_addOut rfl rfl rfl (by decide +kernel) ⟨Nat.le_of_ble_eq_true rfl, Nat.le_of_ble_eq_true rfl⟩) (preV hK hNW h_n (va_recv hK h_n (ci := 3) (q0 := 0) rfl rfl)) rfl rfl hl.1 rfl (lv_room (Nat.le_of_ble_eq_true rfl)) dX2_makeProduct_139 ⟨Nat.le_of_ble_eq_true rfl, Nat.le_of_ble_eq_true rfl⟩) hS (fun _ q => Or.inr (Or.inr q)) (fun rr _ H locs er hP9 hk8 hS => ?_)
          have h_n : PP G (netW G a j (addO (oaT (muT w9 (nG (inN N (2 * w9))) (prT (inN N (2 * w9)) w9 (w9 * w9)) y).1 (muT w9 (nG (inN N (2 * w9))) (prT (inN N (2 * w9)) w9 (w9 * w9)) y).2.1 x) ((muT w9 (nG (inN N (2 * w9))) (prT (inN N (2 * w9)) w9 (w9 * w9)) y).2.1 x))) H := hP9
          have h_o : PP G (makO a i (nI ((muT w9 (nG (inN N (2 * w9))) (prT (inN N (2 * w9)) w9 (w9 * w9)) y).2.2)) s8 k8) H := kp hk8 h_o (dj_cons (rng_no ha (by omega)) (dj_nil))
          have h_v : PP G (rowW G a (i + 13) 5 g6) H := kp hk8 h_v (dj_cons (rng_no ha (by omega)) (dj_cons (rng_no ha (by omega)) (dj_nil)))
          have h_r : PP G (rowW G a (i + 11) 16 f5) H := kp hk8 h_r (dj_cons (rng_no ha (by omega)) (dj_cons (rng_no ha (by omega)) (dj_nil)))
          refine lv_pop hx hb dX2_makeProduct_142 rfl ?_
          refine lv_iinc (v := nI (x + 1)) (lv' := [(3, .int (nI (x + 1))), (0, .ref (a i)), (1, .ref (a j)), (2, .int (nI w9))]) hx hb dX2_makeProduct_143 hl (k := 3) rfl (by first | exact nI_add _ 1 | decide) (by decide) rfl (fun ls hl => ?_)
          refine lv_goto (tgt := 122) hx hb dX2_makeProduct_146 (by decide) ?_
          exact ih7 (x + 1) _ _ _ ⟨h_o, h_v, h_r, h_n, hS, lv_sub hl [1, 2, 3, 0] rfl, by omega⟩ (by show (muT w9 (nG (inN N (2 * w9))) (prT (inN N (2 * w9)) w9 (w9 * w9)) y).2.2 - (x + 1) < (muT w9 (nG (inN N (2 * w9))) (prT (inN N (2 * w9)) w9 (w9 * w9)) y).2.2 - x; omega)
      · skip
        have c95 := cv_nle (by omega) (by omega) c95
        refine lv_aload_n hx hb dX2_makeProduct_98 rfl (lv_at hl 1 rfl) ?_
        refine lv_aload_n hx hb dX2_makeProduct_99 rfl (lv_at hl 0 rfl) ?_
        refine wr_i (va_runV (As := []) (rest := [.ref (a j)]) FX (c_X2_takeFirstOfLine l G a ha i s8 k8 g6 (muT w9 (nG (inN N (2 * w9))) (prT (inN N (2 * w9)) w9 (w9 * w9)) y).2.2 (by omega)) (cwV 0 hts gX2_makeProduct_X2_takeFirstOfLine rfl rfl rfl (by decide +kernel) ⟨Nat.le_of_ble_eq_true rfl, Nat.le_of_ble_eq_true rfl⟩) (preV hK hNW (⟨h_o, h_v⟩) (va_recv hK h_o (ci := 2) (q0 := 0) rfl rfl)) rfl rfl hl.1 rfl (lv_room (Nat.le_of_ble_eq_true rfl)) dX2_makeProduct_100 ⟨Nat.le_of_ble_eq_true rfl, Nat.le_of_ble_eq_true rfl⟩) hS (fun q h => h.elim Or.inl (fun x => Or.inr (Or.inl (rng_sub (by omega) q x)))) (fun rr _ H locs er hP9 hk10 hS => ?_)
        have h_o : PP G (makO a i (nI ((muT w9 (nG (inN N (2 * w9))) (prT (inN N (2 * w9)) w9 (w9 * w9)) y).2.2 - 1)) s8 k8) H := hP9.1
        have h_v : PP G (rowW G a (i + 13) 5 (shf g6 (muT w9 (nG (inN N (2 * w9))) (prT (inN N (2 * w9)) w9 (w9 * w9)) y).2.2)) H := hP9.2
        have h_r : PP G (rowW G a (i + 11) 16 f5) H := kp hk10 h_r (dj_cons (or_no (rng_no ha (by omega)) (rng_no ha (by omega))) (dj_cons (or_no (rng_no ha (by omega)) (rng_no ha (by omega))) (dj_nil)))
        have h_n : PP G (netW G a j ((muT w9 (nG (inN N (2 * w9))) (prT (inN N (2 * w9)) w9 (w9 * w9)) y).1)) H := kp hk10 h_n (dj_or (dj_rng ha (netW_in (G := G) (a := a) (j := j) (N := (muT w9 (nG (inN N (2 * w9))) (prT (inN N (2 * w9)) w9 (w9 * w9)) y).1)) (by omega)) (dj_rng ha (netW_in (G := G) (a := a) (j := j) (N := (muT w9 (nG (inN N (2 * w9))) (prT (inN N (2 * w9)) w9 (w9 * w9)) y).1)) (by omega)))
        refine lv_as (y := nI ((muT w9 (nG (inN N (2 * w9))) (prT (inN N (2 * w9)) w9 (w9 * w9)) y).2.1 0)) (er.trans (hg6 _ (by omega))) ?_
        refine wr_i (va_runV (As := [.int (nI ((muT w9 (nG (inN N (2 * w9))) (prT (inN N (2 * w9)) w9 (w9 * w9)) y).2.1 0))]) (rest := []) FX (c_X3_addOut l G a ha j ((muT w9 (nG (inN N (2 * w9))) (prT (inN N (2 * w9)) w9 (w9 * w9)) y).1) ((muT w9 (nG (inN N (2 * w9))) (prT (inN N (2 * w9)) w9 (w9 * w9)) y).2.1 0) (show nO (muT w9 (nG (inN N (2 * w9))) (prT (inN N (2 * w9)) w9 (w9 * w9)) y).1 < 16 by omega)) (cwV 1 hts gX2_makeProduct_X3_addOut rfl rfl rfl (by decide +kernel) ⟨Nat.le_of_ble_eq_true rfl, Nat.le_of_ble_eq_true rfl⟩) (preV hK hNW h_n (va_recv hK h_n (ci := 3) (q0 := 0) rfl rfl)) rfl rfl hl.1 rfl (lv_room (Nat.le_of_ble_eq_true rfl)) dX2_makeProduct_103 ⟨Nat.le_of_ble_eq_true rfl, Nat.le_of_ble_eq_true rfl⟩) hS (fun _ q => Or.inr (Or.inr q)) (fun rr _ H locs er hP9 hk12 hS => ?_)
        have h_n : PP G (netW G a j (addO ((muT w9 (nG (inN N (2 * w9))) (prT (inN N (2 * w9)) w9 (w9 * w9)) y).1) ((muT w9 (nG (inN N (2 * w9))) (prT (inN N (2 * w9)) w9 (w9 * w9)) y).2.1 0))) H := hP9
        have h_o : PP G (makO a i (nI ((muT w9 (nG (inN N (2 * w9))) (prT (inN N (2 * w9)) w9 (w9 * w9)) y).2.2 - 1)) s8 k8) H := kp hk12 h_o (dj_cons (rng_no ha (by omega)) (dj_nil))
        have h_v : PP G (rowW G a (i + 13) 5 (shf g6 (muT w9 (nG (inN N (2 * w9))) (prT (inN N (2 * w9)) w9 (w9 * w9)) y).2.2)) H := kp hk12 h_v (dj_cons (rng_no ha (by omega)) (dj_cons (rng_no ha (by omega)) (dj_nil)))
        have h_r : PP G (rowW G a (i + 11) 16 f5) H := kp hk12 h_r (dj_cons (rng_no ha (by omega)) (dj_cons (rng_no ha (by omega)) (dj_nil)))
        refine lv_pop hx hb dX2_makeProduct_106 rfl ?_
        have hyw : (y + 1) * w9 + w9 ≤ n3 * w9 := by rw [en, ← Nat.succ_mul]; exact Nat.mul_le_mul_right _ (by omega)
        refine lv_aload_n hx hb dX2_makeProduct_107 rfl (lv_at hl 0 rfl) ?_
        refine lv_aload_n hx hb dX2_makeProduct_108 rfl (lv_at hl 1 rfl) ?_
        refine lv_iload_n hx hb dX2_makeProduct_109 rfl (lv_at hl 2 rfl) ?_
        refine lv_iload_n hx hb dX2_makeProduct_110 rfl (lv_at hl 3 rfl) ?_
        refine wr_v (va_runV (As := [.ref (a j), .int (nI w9), .int (nI (y + 1))]) (rest := []) FX (c_X2_addToLine l G a ha i j hij s8 k8 (shf g6 (muT w9 (nG (inN N (2 * w9))) (prT (inN N (2 * w9)) w9 (w9 * w9)) y).2.2) f5 (fun k => nG (inN N (2 * w9)) + (y + 1) * w9 + k) (addO (muT w9 (nG (inN N (2 * w9))) (prT (inN N (2 * w9)) w9 (w9 * w9)) y).1 ((muT w9 (nG (inN N (2 * w9))) (prT (inN N (2 * w9)) w9 (w9 * w9)) y).2.1 0), (fun r => (muT w9 (nG (inN N (2 * w9))) (prT (inN N (2 * w9)) w9 (w9 * w9)) y).2.1 (r + 1)), 0) w9 (y + 1) ((muT w9 (nG (inN N (2 * w9))) (prT (inN N (2 * w9)) w9 (w9 * w9)) y).2.2 - 1) ⟨by omega, hw.2⟩ ⟨by omega, by omega⟩ ⟨by omega, by omega⟩ (show nG (muT w9 (nG (inN N (2 * w9))) (prT (inN N (2 * w9)) w9 (w9 * w9)) y).1 + 5 * w9 ≤ 120 by omega) (fun r h => (shf_lt (by omega)).trans (hg6 _ (by omega))) (fun r h => (hf5 _ (by omega)).trans (by rw [Nat.add_assoc]))) (cwV 3 hts gX2_makeProduct_X2_addToLine rfl rfl rfl (by decide +kernel) ⟨Nat.le_of_ble_eq_true rfl, Nat.le_of_ble_eq_true rfl⟩) (preV hK hNW (⟨h_o, h_v, h_r, h_n⟩) (va_recv hK h_o (ci := 2) (q0 := 0) rfl rfl)) rfl rfl hl.1 rfl (lv_room (Nat.le_of_ble_eq_true rfl)) dX2_makeProduct_111 ⟨Nat.le_of_ble_eq_true rfl, Nat.le_of_ble_eq_true rfl⟩) hS ((fun q h => h.elim Or.inl (fun h => h.elim (fun x => Or.inr (Or.inl (rng_sub (by omega) q x))) (fun x => Or.inr (Or.inr x))))) (fun u7 H locs hu7 hP9 hk14 hS => ?_)
        have h_o : PP G (makO a i (nI (w9 + 1)) u7.1 u7.2.1) H := hP9.1
        have h_v : PP G (rowW G a (i + 13) 5 u7.2.2) H := hP9.2.1
        have h_r : PP G (rowW G a (i + 11) 16 f5) H := hP9.2.2.1
        have h_n : PP G (netW G a j ((alT (fun k => nG (inN N (2 * w9)) + (y + 1) * w9 + k) ((muT w9 (nG (inN N (2 * w9))) (prT (inN N (2 * w9)) w9 (w9 * w9)) y).2.2 - 1) (addO (muT w9 (nG (inN N (2 * w9))) (prT (inN N (2 * w9)) w9 (w9 * w9)) y).1 ((muT w9 (nG (inN N (2 * w9))) (prT (inN N (2 * w9)) w9 (w9 * w9)) y).2.1 0), (fun r => (muT w9 (nG (inN N (2 * w9))) (prT (inN N (2 * w9)) w9 (w9 * w9)) y).2.1 (r + 1)), 0) w9).1)) H := hP9.2.2.2
        refine lv_iinc (v := nI (y + 1 + 1)) (lv' := [(3, .int (nI (y + 1 + 1))), (0, .ref (a i)), (1, .ref (a j)), (2, .int (nI w9))]) hx hb dX2_makeProduct_114 hl (k := 3) rfl (by first | exact nI_add _ 1 | decide) (by decide) rfl (fun ls hl => ?_)
        refine lv_goto (tgt := 93) hx hb dX2_makeProduct_117 (by decide) ?_
        exact ih6 (y + 1) u7.2.2 u7.1 u7.2.1 _ _ _ ⟨h_o, h_v, h_r, h_n, hS, lv_sub hl [1, 2, 3, 0] rfl, by omega, hu7⟩ (by show w9 - (y + 1) < w9 - y; omega)
    · skip
      have c61 := cv_nle (by omega) (by omega) c61
      refine lv_aload_n hx hb dX2_makeProduct_64 rfl (lv_at hl 0 rfl) ?_
      refine va_get (D := G.1) (ci := 2) (v := .ref (a (i + 13))) (C := RX2) (T := TX2) (N := 10) hx hb hts inX2_makeProduct_2 hown hK h_o 0 rfl rfl 6 (by decide) (hts (.fieldLink RX2 35 "GateLedger$Maker" "line" "LGateLedger$Row;") (List.mem_of_getElem? (i := 2) (by decide +kernel))) (fun _ h9 => h9) rfl dX2_makeProduct_65 ?_
      refine lv_iload_n hx hb dX2_makeProduct_68 rfl (lv_at hl 3 rfl) ?_
      refine lv_aload_n hx hb dX2_makeProduct_69 rfl (lv_at hl 0 rfl) ?_
      refine va_get (D := G.1) (ci := 2) (v := .ref (a (i + 11))) (C := RX2) (T := TX2) (N := 10) hx hb hts inX2_makeProduct_2 hown hK h_o 0 rfl rfl 5 (by decide) (hts (.fieldLink RX2 32 "GateLedger$Maker" "products" "LGateLedger$Row;") (List.mem_of_getElem? (i := 1) (by decide +kernel))) (fun _ h9 => h9) rfl dX2_makeProduct_70 ?_
      refine lv_iload_n hx hb dX2_makeProduct_73 rfl (lv_at hl 3 rfl) ?_
      refine ro_i (va_runV (As := [.int (nI z)]) (rest := [.int (nI z), .ref (a (i + 13))]) FX (c_X4_at l G a (i + 11) 16 f5 (nI z) (by decide)) (cwV 1 hts gX2_makeProduct_X4_at rfl rfl rfl (by decide +kernel) ⟨Nat.le_of_ble_eq_true rfl, Nat.le_of_ble_eq_true rfl⟩) (preV hK hNW (va_P.sub h_r [0, 1] rfl) (va_recv hK h_r (ci := 4) (q0 := 0) rfl rfl)) rfl rfl hl.1 rfl (lv_room (Nat.le_of_ble_eq_true rfl)) dX2_makeProduct_74 ⟨Nat.le_of_ble_eq_true rfl, Nat.le_of_ble_eq_true rfl⟩) ?_
      refine lv_as (y := nI (nG (inN N (2 * w9)) + z)) ((rowAt_in (by omega) (by decide)).trans (hf5 _ (by omega))) ?_
      refine wr_v (va_runV (As := [.int (nI z), .int (nI (nG (inN N (2 * w9)) + z))]) (rest := []) FX (c_X4_put l G a ha (i + 13) 5 g5 (nI z) (nI (nG (inN N (2 * w9)) + z)) (by decide)) (cwV 2 hts gX2_makeProduct_X4_put rfl rfl rfl (by decide +kernel) ⟨Nat.le_of_ble_eq_true rfl, Nat.le_of_ble_eq_true rfl⟩) (preV hK hNW h_v (va_recv hK h_v (ci := 4) (q0 := 0) rfl rfl)) rfl rfl hl.1 rfl (lv_room (Nat.le_of_ble_eq_true rfl)) dX2_makeProduct_77 ⟨Nat.le_of_ble_eq_true rfl, Nat.le_of_ble_eq_true rfl⟩) hS (fun q h => Or.inr (Or.inl (rng_sub (by omega) q h))) (fun _ H locs _ hP9 hk16 hS => ?_)
      rw [rowPut_in (by omega) (by decide)] at hP9
      have h_v : PP G (rowW G a (i + 13) 5 (upd g5 z (nI (nG (inN N (2 * w9)) + z)))) H := hP9
      have h_o : PP G (makO a i l9 s9 k9) H := kp hk16 h_o (dj_cons (rng_no ha (by omega)) (dj_nil))
      have h_r : PP G (rowW G a (i + 11) 16 f5) H := kp hk16 h_r (dj_cons (rng_no ha (by omega)) (dj_cons (rng_no ha (by omega)) (dj_nil)))
      have h_n : PP G (netW G a j (prT (inN N (2 * w9)) w9 (w9 * w9))) H := kp hk16 h_n (dj_rng ha (netW_in (G := G) (a := a) (j := j) (N := (prT (inN N (2 * w9)) w9 (w9 * w9)))) (by omega))
      refine lv_iinc (v := nI (z + 1)) (lv' := [(3, .int (nI (z + 1))), (0, .ref (a i)), (1, .ref (a j)), (2, .int (nI w9))]) hx hb dX2_makeProduct_80 hl (k := 3) rfl (by first | exact nI_add _ 1 | decide) (by decide) rfl (fun ls hl => ?_)
      refine lv_goto (tgt := 59) hx hb dX2_makeProduct_83 (by decide) ?_
      exact ih4 (z + 1) (upd g5 z (nI (nG (inN N (2 * w9)) + z))) _ _ _ ⟨h_o, h_v, h_r, h_n, hS, lv_sub hl [1, 2, 3, 0] rfl, by omega, upd_fill (v := fun r => nI (nG (inN N (2 * w9)) + r)) hg5 rfl⟩ (by show w9 - (z + 1) < w9 - z; omega)
  · skip
    have c10 := cv_nle (by omega) (by omega) c10
    have hnw : (n3 + 1) * w9 ≤ 4 * 4 := Nat.mul_le_mul (by omega) (by omega)
    rw [Nat.add_mul, Nat.one_mul] at hnw
    refine lv_iconst (v := nI 0) hx hb dX2_makeProduct_13 (by decide) ?_
    refine lv_istore (lv' := [(4, .int (nI 0)), (0, .ref (a i)), (1, .ref (a j)), (2, .int (nI w9)), (3, .int (nI n3))]) hx hb dX2_makeProduct_14 hl (by decide) rfl (fun ls hl => ?_)
    refine lv_loop2 16 (fun (k : Nat) (f6 : Nat → Int32) => w9 - k) (fun (k : Nat) (f6 : Nat → Int32) (H : Heap) (locs : List Loc) (ls : Array Slot) => (PP G (makO a i l9 s9 k9) H) ∧ (PP G (rowW G a (i + 13) 5 f) H) ∧ (PP G (rowW G a (i + 11) 16 f6) H) ∧ (PP G (netW G a j (prT (inN N (2 * w9)) w9 (n3 * w9 + k))) H) ∧ (va_S (orA (rng a i 1) (orA (rng a (i + 11) 4) (rng a j 11))) s.heap H locs) ∧ (lv_has ls 5 [(0, .ref (a i)), (1, .ref (a j)), (2, .int (nI w9)), (3, .int (nI n3)), (4, .int (nI k))]) ∧ (k ≤ w9) ∧ (∀ r, r < n3 * w9 + k → f6 r = nI (nG (inN N (2 * w9)) + r))) (fun _ _ => []) (fun k f6 H locs ls hI ih => ?_) 0 f5 ⟨h_o, h_v, h_r, h_n, hS, lv_sub hl [1, 2, 3, 4, 0] rfl, by omega, hf5⟩ rfl
    obtain ⟨h_o, h_v, h_r, h_n, hS, hl, hk, hf6⟩ := hI
    have ih18 := @ih
    clear ih
    have hp9 := prT_g (inN N (2 * w9)) w9 (n3 * w9 + k)
    refine lv_iload hx hb dX2_makeProduct_16 (lv_at hl 4 rfl) ?_
    refine lv_iload_n hx hb dX2_makeProduct_18 rfl (lv_at hl 2 rfl) ?_
    refine lv_icmp_ge (tgt := 51) hx hb dX2_makeProduct_19 (by decide) (fun c19 => ?_) (fun c19 => ?_)
    · skip
      have c19 := cv_le (by omega) (by omega) c19
      have ek : k = w9 := by omega
      refine lv_iinc (v := nI (n3 + 1)) (lv' := [(3, .int (nI (n3 + 1))), (0, .ref (a i)), (1, .ref (a j)), (2, .int (nI w9)), (4, .int (nI k))]) hx hb dX2_makeProduct_51 hl (k := 3) rfl (by first | exact nI_add _ 1 | decide) (by decide) rfl (fun ls hl => ?_)
      refine lv_goto (tgt := 8) hx hb dX2_makeProduct_54 (by decide) ?_
      exact ih3 (n3 + 1) f6 _ _ _ ⟨h_o, h_v, h_r, (by rw [show (n3 + 1) * w9 = n3 * w9 + k by rw [ek, Nat.succ_mul]]; exact h_n), hS, lv_sub hl [1, 2, 3, 0] rfl, by omega, fun r h => hf6 r (by rw [ek]; rw [Nat.succ_mul] at h; exact h)⟩ (by show w9 - (n3 + 1) < w9 - n3; omega)
    · skip
      have c19 := cv_nle (by omega) (by omega) c19
      refine lv_aload_n hx hb dX2_makeProduct_22 rfl (lv_at hl 0 rfl) ?_
      refine va_get (D := G.1) (ci := 2) (v := .ref (a (i + 11))) (C := RX2) (T := TX2) (N := 10) hx hb hts inX2_makeProduct_2 hown hK h_o 0 rfl rfl 5 (by decide) (hts (.fieldLink RX2 32 "GateLedger$Maker" "products" "LGateLedger$Row;") (List.mem_of_getElem? (i := 1) (by decide +kernel))) (fun _ h9 => h9) rfl dX2_makeProduct_23 ?_
      refine lv_iload_n hx hb dX2_makeProduct_26 rfl (lv_at hl 3 rfl) ?_
      refine lv_iload_n hx hb dX2_makeProduct_27 rfl (lv_at hl 2 rfl) ?_
      refine lv_imul hx hb dX2_makeProduct_28 ?_
      refine lv_as (pk_mul _ _) ?_
      refine lv_iload hx hb dX2_makeProduct_29 (lv_at hl 4 rfl) ?_
      refine lv_iadd hx hb dX2_makeProduct_31 ?_
      refine lv_as (nI_add _ _) ?_
      refine lv_aload_n hx hb dX2_makeProduct_32 rfl (lv_at hl 1 rfl) ?_
      refine lv_iconst (v := nI 0) hx hb dX2_makeProduct_33 (by decide) ?_
      refine lv_iload hx hb dX2_makeProduct_34 (lv_at hl 4 rfl) ?_
      refine lv_iload_n hx hb dX2_makeProduct_36 rfl (lv_at hl 2 rfl) ?_
      refine lv_iload_n hx hb dX2_makeProduct_37 rfl (lv_at hl 3 rfl) ?_
      refine lv_iadd hx hb dX2_makeProduct_38 ?_
      refine lv_as (nI_add _ _) ?_
      refine wr_i (va_runV (As := [.int (nI 0), .int (nI k), .int (nI (w9 + n3))]) (rest := [.int (nI ((n3 * w9) + k)), .ref (a (i + 11))]) FX (c_X3_addJoined l G a ha j (prT (inN N (2 * w9)) w9 (n3 * w9 + k)) 0 k (w9 + n3) (nI (w9 + n3)) (by decide) (fun _ => rfl) (show nG (prT (inN N (2 * w9)) w9 (n3 * w9 + k)) < 120 by omega)) (cwV 3 hts gX2_makeProduct_X3_addJoined rfl rfl rfl (by decide +kernel) ⟨Nat.le_of_ble_eq_true rfl, Nat.le_of_ble_eq_true rfl⟩) (preV hK hNW h_n (va_recv hK h_n (ci := 3) (q0 := 0) rfl rfl)) rfl rfl hl.1 rfl (lv_room (Nat.le_of_ble_eq_true rfl)) dX2_makeProduct_39 ⟨Nat.le_of_ble_eq_true rfl, Nat.le_of_ble_eq_true rfl⟩) hS (fun _ q => Or.inr (Or.inr q)) (fun rr _ H locs er hP9 hk19 hS => ?_)
      have h_n : PP G (netW G a j (addG (prT (inN N (2 * w9)) w9 (n3 * w9 + k)) 0 k (w9 + n3))) H := hP9
      have h_o : PP G (makO a i l9 s9 k9) H := kp hk19 h_o (dj_cons (rng_no ha (by omega)) (dj_nil))
      have h_v : PP G (rowW G a (i + 13) 5 f) H := kp hk19 h_v (dj_cons (rng_no ha (by omega)) (dj_cons (rng_no ha (by omega)) (dj_nil)))
      have h_r : PP G (rowW G a (i + 11) 16 f6) H := kp hk19 h_r (dj_cons (rng_no ha (by omega)) (dj_cons (rng_no ha (by omega)) (dj_nil)))
      refine lv_as (y := nI (nG (prT (inN N (2 * w9)) w9 (n3 * w9 + k)))) er ?_
      refine wr_v (va_runV (As := [.int (nI ((n3 * w9) + k)), .int (nI (nG (prT (inN N (2 * w9)) w9 (n3 * w9 + k))))]) (rest := []) FX (c_X4_put l G a ha (i + 11) 16 f6 (nI ((n3 * w9) + k)) (nI (nG (prT (inN N (2 * w9)) w9 (n3 * w9 + k)))) (by decide)) (cwV 2 hts gX2_makeProduct_X4_put rfl rfl rfl (by decide +kernel) ⟨Nat.le_of_ble_eq_true rfl, Nat.le_of_ble_eq_true rfl⟩) (preV hK hNW h_r (va_recv hK h_r (ci := 4) (q0 := 0) rfl rfl)) rfl rfl hl.1 rfl (lv_room (Nat.le_of_ble_eq_true rfl)) dX2_makeProduct_42 ⟨Nat.le_of_ble_eq_true rfl, Nat.le_of_ble_eq_true rfl⟩) hS (fun q h => Or.inr (Or.inl (rng_sub (by omega) q h))) (fun _ H locs _ hP9 hk21 hS => ?_)
      rw [rowPut_in (by omega) (by decide)] at hP9
      have h_r : PP G (rowW G a (i + 11) 16 (upd f6 ((n3 * w9) + k) (nI (nG (prT (inN N (2 * w9)) w9 (n3 * w9 + k)))))) H := hP9
      have h_o : PP G (makO a i l9 s9 k9) H := kp hk21 h_o (dj_cons (rng_no ha (by omega)) (dj_nil))
      have h_v : PP G (rowW G a (i + 13) 5 f) H := kp hk21 h_v (dj_cons (rng_no ha (by omega)) (dj_cons (rng_no ha (by omega)) (dj_nil)))
      have h_n : PP G (netW G a j (addG (prT (inN N (2 * w9)) w9 (n3 * w9 + k)) 0 k (w9 + n3))) H := kp hk21 h_n (dj_rng ha (netW_in (G := G) (a := a) (j := j) (N := addG (prT (inN N (2 * w9)) w9 (n3 * w9 + k)) 0 k (w9 + n3))) (by omega))
      refine lv_iinc (v := nI (k + 1)) (lv' := [(4, .int (nI (k + 1))), (0, .ref (a i)), (1, .ref (a j)), (2, .int (nI w9)), (3, .int (nI n3))]) hx hb dX2_makeProduct_45 hl (k := 4) rfl (by first | exact nI_add _ 1 | decide) (by decide) rfl (fun ls hl => ?_)
      refine lv_goto (tgt := 16) hx hb dX2_makeProduct_48 (by decide) ?_
      exact ih18 (k + 1) (upd f6 ((n3 * w9) + k) (nI (nG (prT (inN N (2 * w9)) w9 (n3 * w9 + k))))) _ _ _ ⟨h_o, h_v, h_r, (by rw [prT_s (by omega)]; exact h_n), hS, lv_sub hl [1, 2, 3, 4, 0] rfl, by omega, upd_fill (v := fun r => nI (nG (inN N (2 * w9)) + r)) hf6 (congrArg nI hp9.1)⟩ (by show w9 - (k + 1) < w9 - k; omega)
