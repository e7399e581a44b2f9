set_option maxRecDepth 20000 in
theorem inX3_size_3 : ∀ w ∈ u_ws RX3 TX3 8, w ∈ wsX3_size := by decide +kernel
set_option maxHeartbeats 4000000 in
set_option maxRecDepth 100000 in
/-- X3_size -/
theorem c_X3_size (l : Launch) (G : GG) (a : Nat → Nat) (j : Nat) (N : NT)  : Met l yX3_size wsX3_size ({ frames := 0, cells := 0, slots := 0, locals := 0 } : Room) (PcB G [.ref (a j)] (fun H => PP G (netW G a j N) H)) (vp_Si (fun r => r = nI (nG N))) 0 0 (fun _ => False) := by
  refine Met.ofW (cc := cX3_size) (maxL := 1) (ret := (some .int)) (by decide) rfl ?_
  intro p e s m args below meth c s₁ B hml hv
  obtain ⟨rfl, hB, hK, hNW⟩ := hv
  have hx := B.exec
  have hb := B.bytes
  have hr := B.returns
  have hts := atoms_spec (ws := wsX3_size) B.pre
  have hown : s.vm.findClass RX3 = some m.cls := findClass_of_methodNamed B.named
  have hlocks := B.notSynchronized
  have FX : CallFix p m c cX3_size 1 s ([.ref (a j)] : List Value).toArray wsX3_size RX3 := ⟨hx, hb, hml, hown, hts⟩
  have hl := lv_entry ([.ref (a j)]) (n := 1) (Nat.le_of_ble_eq_true rfl)
  rw [lg_entry_eq]
  generalize (lg_sl ([.ref (a j)]) ++ List.replicate (1 - (lg_sl ([.ref (a j)])).length) Slot.unset).toArray = ls at hl ⊢
  have hl : lv_has ls 1 [(0, .ref (a j))] := hl
  have h_n := hB
  refine lv_aload_n hx hb dX3_size_0 rfl (lv_at hl 0 rfl) ?_
  refine va_get (D := G.1) (ci := 3) (v := .int (nI (nG N))) (C := RX3) (T := TX3) (N := 8) hx hb hts inX3_size_3 hown hK h_n 0 rfl rfl 5 (by decide) (hts (.fieldLink RX3 32 "GateLedger$Net" "gateTotal" "I") (List.mem_of_getElem? (i := 1) (by decide +kernel))) (fun _ h9 => h9) rfl dX3_size_1 ?_
  exact en_i hx hb hr hlocks (rfl) dX3_size_4
set_option maxRecDepth 20000 in
theorem inX3_inputCount_3 : ∀ w ∈ u_ws RX3 TX3 8, w ∈ wsX3_inputCount := by decide +kernel
set_option maxHeartbeats 4000000 in
set_option maxRecDepth 100000 in
/-- X3_inputCount -/
theorem c_X3_inputCount (l : Launch) (G : GG) (a : Nat → Nat) (j : Nat) (N : NT)  : Met l yX3_inputCount wsX3_inputCount ({ frames := 0, cells := 0, slots := 0, locals := 0 } : Room) (PcB G [.ref (a j)] (fun H => PP G (netW G a j N) H)) (vp_Si (fun r => r = nI (nIn N))) 0 0 (fun _ => False) := by
  refine Met.ofW (cc := cX3_inputCount) (maxL := 1) (ret := (some .int)) (by decide) rfl ?_
  intro p e s m args below meth c s₁ B hml hv
  obtain ⟨rfl, hB, hK, hNW⟩ := hv
  have hx := B.exec
  have hb := B.bytes
  have hr := B.returns
  have hts := atoms_spec (ws := wsX3_inputCount) B.pre
  have hown : s.vm.findClass RX3 = some m.cls := findClass_of_methodNamed B.named
  have hlocks := B.notSynchronized
  have FX : CallFix p m c cX3_inputCount 1 s ([.ref (a j)] : List Value).toArray wsX3_inputCount RX3 := ⟨hx, hb, hml, hown, hts⟩
  have hl := lv_entry ([.ref (a j)]) (n := 1) (Nat.le_of_ble_eq_true rfl)
  rw [lg_entry_eq]
  generalize (lg_sl ([.ref (a j)]) ++ List.replicate (1 - (lg_sl ([.ref (a j)])).length) Slot.unset).toArray = ls at hl ⊢
  have hl : lv_has ls 1 [(0, .ref (a j))] := hl
  have h_n := hB
  refine lv_aload_n hx hb dX3_inputCount_0 rfl (lv_at hl 0 rfl) ?_
  refine va_get (D := G.1) (ci := 3) (v := .int (nI (nIn N))) (C := RX3) (T := TX3) (N := 8) hx hb hts inX3_inputCount_3 hown hK h_n 0 rfl rfl 6 (by decide) (hts (.fieldLink RX3 36 "GateLedger$Net" "inputTotal" "I") (List.mem_of_getElem? (i := 1) (by decide +kernel))) (fun _ h9 => h9) rfl dX3_inputCount_1 ?_
  exact en_i hx hb hr hlocks (rfl) dX3_inputCount_4
set_option maxRecDepth 20000 in
theorem inX3_outCount_3 : ∀ w ∈ u_ws RX3 TX3 8, w ∈ wsX3_outCount := by decide +kernel
set_option maxHeartbeats 4000000 in
set_option maxRecDepth 100000 in
/-- X3_outCount -/
theorem c_X3_outCount (l : Launch) (G : GG) (a : Nat → Nat) (j : Nat) (N : NT)  : Met l yX3_outCount wsX3_outCount ({ frames := 0, cells := 0, slots := 0, locals := 0 } : Room) (PcB G [.ref (a j)] (fun H => PP G (netW G a j N) H)) (vp_Si (fun r => r = nI (nO N))) 0 0 (fun _ => False) := by
  refine Met.ofW (cc := cX3_outCount) (maxL := 1) (ret := (some .int)) (by decide) rfl ?_
  intro p e s m args below meth c s₁ B hml hv
  obtain ⟨rfl, hB, hK, hNW⟩ := hv
  have hx := B.exec
  have hb := B.bytes
  have hr := B.returns
  have hts := atoms_spec (ws := wsX3_outCount) B.pre
  have hown : s.vm.findClass RX3 = some m.cls := findClass_of_methodNamed B.named
  have hlocks := B.notSynchronized
  have FX : CallFix p m c cX3_outCount 1 s ([.ref (a j)] : List Value).toArray wsX3_outCount RX3 := ⟨hx, hb, hml, hown, hts⟩
  have hl := lv_entry ([.ref (a j)]) (n := 1) (Nat.le_of_ble_eq_true rfl)
  rw [lg_entry_eq]
  generalize (lg_sl ([.ref (a j)]) ++ List.replicate (1 - (lg_sl ([.ref (a j)])).length) Slot.unset).toArray = ls at hl ⊢
  have hl : lv_has ls 1 [(0, .ref (a j))] := hl
  have h_n := hB
  refine lv_aload_n hx hb dX3_outCount_0 rfl (lv_at hl 0 rfl) ?_
  refine va_get (D := G.1) (ci := 3) (v := .int (nI (nO N))) (C := RX3) (T := TX3) (N := 8) hx hb hts inX3_outCount_3 hown hK h_n 0 rfl rfl 7 (by decide) (hts (.fieldLink RX3 39 "GateLedger$Net" "outTotal" "I") (List.mem_of_getElem? (i := 1) (by decide +kernel))) (fun _ h9 => h9) rfl dX3_outCount_1 ?_
  exact en_i hx hb hr hlocks (rfl) dX3_outCount_4
set_option maxRecDepth 20000 in
theorem inX3_isFull_3 : ∀ w ∈ u_ws RX3 TX3 8, w ∈ wsX3_isFull := by decide +kernel
set_option maxHeartbeats 4000000 in
set_option maxRecDepth 100000 in
/-- isFull -/
theorem c_X3_isFull (l : Launch) (G : GG) (a : Nat → Nat) (j : Nat) (N : NT) (hN : WF N) : Met l yX3_isFull wsX3_isFull ({ frames := 0, cells := 0, slots := 0, locals := 0 } : Room) (PcB G [.ref (a j)] (fun H => PP G (netW G a j N) H)) (vp_Si (fun r => r = bI (120 ≤ nG N))) 0 0 (fun _ => False) := by
  refine Met.ofW (cc := cX3_isFull) (maxL := 1) (ret := (some .boolean)) (by decide) rfl ?_
  intro p e s m args below meth c s₁ B hml hv
  obtain ⟨rfl, hB, hK, hNW⟩ := hv
  have hx := B.exec
  have hb := B.bytes
  have hr := B.returns
  have hts := atoms_spec (ws := wsX3_isFull) B.pre
  have hown : s.vm.findClass RX3 = some m.cls := findClass_of_methodNamed B.named
  have hlocks := B.notSynchronized
  have FX : CallFix p m c cX3_isFull 1 s ([.ref (a j)] : List Value).toArray wsX3_isFull RX3 := ⟨hx, hb, hml, hown, hts⟩
  have hl := lv_entry ([.ref (a j)]) (n := 1) (Nat.le_of_ble_eq_true rfl)
  rw [lg_entry_eq]
  generalize (lg_sl ([.ref (a j)]) ++ List.replicate (1 - (lg_sl ([.ref (a j)])).length) Slot.unset).toArray = ls at hl ⊢
  have hl : lv_has ls 1 [(0, .ref (a j))] := hl
  have h_n := hB
  have hg := hN.g
  refine lv_aload_n hx hb dX3_isFull_0 rfl (lv_at hl 0 rfl) ?_
  refine va_get (D := G.1) (ci := 3) (v := .int (nI (nG N))) (C := RX3) (T := TX3) (N := 8) hx hb hts inX3_isFull_3 hown hK h_n 0 rfl rfl 5 (by decide) (hts (.fieldLink RX3 32 "GateLedger$Net" "gateTotal" "I") (List.mem_of_getElem? (i := 1) (by decide +kernel))) (fun _ h9 => h9) rfl dX3_isFull_1 ?_
  refine lv_bipush (v := nI 120) hx hb dX3_isFull_4 (by decide) ?_
  refine lv_icmp_lt (tgt := 13) hx hb dX3_isFull_6 (by decide) (fun c6 => ?_) (fun c6 => ?_)
  · skip
    have c6 := cv_lt (by omega) (by omega) c6
    refine lv_iconst (v := nI 0) hx hb dX3_isFull_13 (by decide) ?_
    exact en_z hx hb hr hlocks (rfl) (by first | exact bI_t (by omega) | exact bI_f (by omega)) dX3_isFull_14
  · skip
    have c6 := cv_nlt (by omega) (by omega) c6
    refine lv_iconst (v := nI 1) hx hb dX3_isFull_9 (by decide) ?_
    refine lv_goto (tgt := 14) hx hb dX3_isFull_10 (by decide) ?_
    exact en_z hx hb hr hlocks (rfl) (by first | exact bI_t (by omega) | exact bI_f (by omega)) dX3_isFull_14
set_option maxRecDepth 20000 in
theorem inX3_has_3 : ∀ w ∈ u_ws RX3 TX3 8, w ∈ wsX3_has := by decide +kernel
set_option maxHeartbeats 4000000 in
set_option maxRecDepth 100000 in
/-- has -/
theorem c_X3_has (l : Launch) (G : GG) (a : Nat → Nat) (j : Nat) (N : NT) (x : Int32)  : Met l yX3_has wsX3_has ({ frames := 0, cells := 0, slots := 0, locals := 0 } : Room) (PcB G [.ref (a j), .int x] (fun H => PP G (netW G a j N) H)) (vp_Si (fun r => r = bI (¬ x < 0 ∧ x < nI (nG N)))) 0 0 (fun _ => False) := by
  refine Met.ofW (cc := cX3_has) (maxL := 2) (ret := (some .boolean)) (by decide) rfl ?_
  intro p e s m args below meth c s₁ B hml hv
  obtain ⟨rfl, hB, hK, hNW⟩ := hv
  have hx := B.exec
  have hb := B.bytes
  have hr := B.returns
  have hts := atoms_spec (ws := wsX3_has) B.pre
  have hown : s.vm.findClass RX3 = some m.cls := findClass_of_methodNamed B.named
  have hlocks := B.notSynchronized
  have FX : CallFix p m c cX3_has 2 s ([.ref (a j), .int x] : List Value).toArray wsX3_has RX3 := ⟨hx, hb, hml, hown, hts⟩
  have hl := lv_entry ([.ref (a j), .int x]) (n := 2) (Nat.le_of_ble_eq_true rfl)
  rw [lg_entry_eq]
  generalize (lg_sl ([.ref (a j), .int x]) ++ List.replicate (2 - (lg_sl ([.ref (a j), .int x])).length) Slot.unset).toArray = ls at hl ⊢
  have hl : lv_has ls 2 [(0, .ref (a j)), (1, .int x)] := hl
  have h_n := hB
  refine lv_iload_n hx hb dX3_has_0 rfl (lv_at hl 1 rfl) ?_
  refine lv_if_lt (tgt := 16) hx hb dX3_has_1 (by decide) (fun c1 => ?_) (fun c1 => ?_)
  · skip
    refine lv_iconst (v := nI 0) hx hb dX3_has_16 (by decide) ?_
    exact en_z hx hb hr hlocks (rfl) (by first | exact bI_t ⟨c1, Int32.not_le.mp c9⟩ | exact bI_f (fun q => q.1 c1) | exact bI_f (fun q => Int32.not_le.mpr q.2 c9)) dX3_has_17
  · skip
    refine lv_iload_n hx hb dX3_has_4 rfl (lv_at hl 1 rfl) ?_
    refine lv_aload_n hx hb dX3_has_5 rfl (lv_at hl 0 rfl) ?_
    refine va_get (D := G.1) (ci := 3) (v := .int (nI (nG N))) (C := RX3) (T := TX3) (N := 8) hx hb hts inX3_has_3 hown hK h_n 0 rfl rfl 5 (by decide) (hts (.fieldLink RX3 32 "GateLedger$Net" "gateTotal" "I") (List.mem_of_getElem? (i := 1) (by decide +kernel))) (fun _ h9 => h9) rfl dX3_has_6 ?_
    refine lv_icmp_ge (tgt := 16) hx hb dX3_has_9 (by decide) (fun c9 => ?_) (fun c9 => ?_)
    · skip
      refine lv_iconst (v := nI 0) hx hb dX3_has_16 (by decide) ?_
      exact en_z hx hb hr hlocks (rfl) (by first | exact bI_t ⟨c1, Int32.not_le.mp c9⟩ | exact bI_f (fun q => q.1 c1) | exact bI_f (fun q => Int32.not_le.mpr q.2 c9)) dX3_has_17
    · skip
      refine lv_iconst (v := nI 1) hx hb dX3_has_12 (by decide) ?_
      refine lv_goto (tgt := 17) hx hb dX3_has_13 (by decide) ?_
      exact en_z hx hb hr hlocks (rfl) (by first | exact bI_t ⟨c1, Int32.not_le.mp c9⟩ | exact bI_f (fun q => q.1 c1) | exact bI_f (fun q => Int32.not_le.mpr q.2 c9)) dX3_has_17
set_option maxRecDepth 20000 in
theorem inX3_kindOf_3 : ∀ w ∈ u_ws RX3 TX3 8, w ∈ wsX3_kindOf := by decide +kernel
set_option maxHeartbeats 4000000 in
set_option maxRecDepth 100000 in
/-- X3_kindOf -/
theorem c_X3_kindOf (l : Launch) (G : GG) (a : Nat → Nat) (j : Nat) (N : NT) (hN : WF N) (k : Nat) (hk : k < nG N) : Met l yX3_kindOf wsX3_kindOf ({ frames := 1, cells := 0, slots := 0, locals := 21 } : Room) (PcB G [.ref (a j), .int (nI k)] (fun H => PP G (netW G a j N) H)) (vp_Si (fun r => r = nI (nK N k))) 0 0 (fun _ => False) := by
  refine Met.ofW (cc := cX3_kindOf) (maxL := 2) (ret := (some .int)) (by decide) rfl ?_
  intro p e s m args below meth c s₁ B hml hv
  obtain ⟨rfl, hB, hK, hNW⟩ := hv
  have hx := B.exec
  have hb := B.bytes
  have hr := B.returns
  have hts := atoms_spec (ws := wsX3_kindOf) B.pre
  have hown : s.vm.findClass RX3 = some m.cls := findClass_of_methodNamed B.named
  have hlocks := B.notSynchronized
  have FX : CallFix p m c cX3_kindOf 2 s ([.ref (a j), .int (nI k)] : List Value).toArray wsX3_kindOf RX3 := ⟨hx, hb, hml, hown, hts⟩
  have hl := lv_entry ([.ref (a j), .int (nI k)]) (n := 2) (Nat.le_of_ble_eq_true rfl)
  rw [lg_entry_eq]
  generalize (lg_sl ([.ref (a j), .int (nI k)]) ++ List.replicate (2 - (lg_sl ([.ref (a j), .int (nI k)])).length) Slot.unset).toArray = ls at hl ⊢
  have hl : lv_has ls 2 [(0, .ref (a j)), (1, .int (nI k))] := hl
  have h_n := hB
  have hg := hN.g
  have hk9 := hN.k hk
  refine lv_aload_n hx hb dX3_kindOf_0 rfl (lv_at hl 0 rfl) ?_
  refine va_get (D := G.1) (ci := 3) (v := .ref (a (j + 1))) (C := RX3) (T := TX3) (N := 8) hx hb hts inX3_kindOf_3 hown hK h_n 0 rfl rfl 0 (by decide) (hts (.fieldLink RX3 14 "GateLedger$Net" "kinds" "LGateLedger$Row;") (List.mem_of_getElem? (i := 1) (by decide +kernel))) (fun _ h9 => h9) rfl dX3_kindOf_1 ?_
  refine lv_iload_n hx hb dX3_kindOf_4 rfl (lv_at hl 1 rfl) ?_
  refine ro_i (va_runV (As := [.int (nI k)]) (rest := []) FX (c_X4_at l G a (j + 1) 120 (fun z => nI (nK N z)) (nI k) (by decide)) (cwV 1 hts gX3_kindOf_X4_at rfl rfl rfl (by decide +kernel) ⟨Nat.le_of_ble_eq_true rfl, Nat.le_of_ble_eq_true rfl⟩) (preV hK hNW (va_P.sub h_n [1, 2] rfl) (va_recv hK h_n (ci := 4) (q0 := 1) rfl rfl)) rfl rfl hl.1 rfl (lv_room (Nat.le_of_ble_eq_true rfl)) dX3_kindOf_5 ⟨Nat.le_of_ble_eq_true rfl, Nat.le_of_ble_eq_true rfl⟩) ?_
  refine lv_as (y := nI (nK N k)) (rowAt_in (by omega) (by decide)) ?_
  exact en_i hx hb hr hlocks (rfl) dX3_kindOf_8
set_option maxRecDepth 20000 in
theorem inX3_firstOf_3 : ∀ w ∈ u_ws RX3 TX3 8, w ∈ wsX3_firstOf := by decide +kernel
set_option maxHeartbeats 4000000 in
set_option maxRecDepth 100000 in
/-- X3_firstOf -/
theorem c_X3_firstOf (l : Launch) (G : GG) (a : Nat → Nat) (j : Nat) (N : NT) (hN : WF N) (k : Nat) (hk : k < nG N) : Met l yX3_firstOf wsX3_firstOf ({ frames := 1, cells := 0, slots := 0, locals := 21 } : Room) (PcB G [.ref (a j), .int (nI k)] (fun H => PP G (netW G a j N) H)) (vp_Si (fun r => r = nI (nF N k))) 0 0 (fun _ => False) := by
  refine Met.ofW (cc := cX3_firstOf) (maxL := 2) (ret := (some .int)) (by decide) rfl ?_
  intro p e s m args below meth c s₁ B hml hv
  obtain ⟨rfl, hB, hK, hNW⟩ := hv
  have hx := B.exec
  have hb := B.bytes
  have hr := B.returns
  have hts := atoms_spec (ws := wsX3_firstOf) B.pre
  have hown : s.vm.findClass RX3 = some m.cls := findClass_of_methodNamed B.named
  have hlocks := B.notSynchronized
  have FX : CallFix p m c cX3_firstOf 2 s ([.ref (a j), .int (nI k)] : List Value).toArray wsX3_firstOf RX3 := ⟨hx, hb, hml, hown, hts⟩
  have hl := lv_entry ([.ref (a j), .int (nI k)]) (n := 2) (Nat.le_of_ble_eq_true rfl)
  rw [lg_entry_eq]
  generalize (lg_sl ([.ref (a j), .int (nI k)]) ++ List.replicate (2 - (lg_sl ([.ref (a j), .int (nI k)])).length) Slot.unset).toArray = ls at hl ⊢
  have hl : lv_has ls 2 [(0, .ref (a j)), (1, .int (nI k))] := hl
  have h_n := hB
  have hg := hN.g
  have hk9 := hN.k hk
  refine lv_aload_n hx hb dX3_firstOf_0 rfl (lv_at hl 0 rfl) ?_
  refine va_get (D := G.1) (ci := 3) (v := .ref (a (j + 3))) (C := RX3) (T := TX3) (N := 8) hx hb hts inX3_firstOf_3 hown hK h_n 0 rfl rfl 1 (by decide) (hts (.fieldLink RX3 20 "GateLedger$Net" "firsts" "LGateLedger$Row;") (List.mem_of_getElem? (i := 1) (by decide +kernel))) (fun _ h9 => h9) rfl dX3_firstOf_1 ?_
  refine lv_iload_n hx hb dX3_firstOf_4 rfl (lv_at hl 1 rfl) ?_
  refine ro_i (va_runV (As := [.int (nI k)]) (rest := []) FX (c_X4_at l G a (j + 3) 120 (fun z => nI (nF N z)) (nI k) (by decide)) (cwV 1 hts gX3_firstOf_X4_at rfl rfl rfl (by decide +kernel) ⟨Nat.le_of_ble_eq_true rfl, Nat.le_of_ble_eq_true rfl⟩) (preV hK hNW (va_P.sub h_n [3, 4] rfl) (va_recv hK h_n (ci := 4) (q0 := 3) rfl rfl)) rfl rfl hl.1 rfl (lv_room (Nat.le_of_ble_eq_true rfl)) dX3_firstOf_5 ⟨Nat.le_of_ble_eq_true rfl, Nat.le_of_ble_eq_true rfl⟩) ?_
  refine lv_as (y := nI (nF N k)) (rowAt_in (by omega) (by decide)) ?_
  exact en_i hx hb hr hlocks (rfl) dX3_firstOf_8
set_option maxRecDepth 20000 in
theorem inX3_secondOf_3 : ∀ w ∈ u_ws RX3 TX3 8, w ∈ wsX3_secondOf := by decide +kernel
set_option maxHeartbeats 4000000 in
set_option maxRecDepth 100000 in
/-- X3_secondOf -/
theorem c_X3_secondOf (l : Launch) (G : GG) (a : Nat → Nat) (j : Nat) (N : NT) (hN : WF N) (k : Nat) (hk : k < nG N) : Met l yX3_secondOf wsX3_secondOf ({ frames := 1, cells := 0, slots := 0, locals := 21 } : Room) (PcB G [.ref (a j), .int (nI k)] (fun H => PP G (netW G a j N) H)) (vp_Si (fun r => r = nI (nS N k))) 0 0 (fun _ => False) := by
  refine Met.ofW (cc := cX3_secondOf) (maxL := 2) (ret := (some .int)) (by decide) rfl ?_
  intro p e s m args below meth c s₁ B hml hv
  obtain ⟨rfl, hB, hK, hNW⟩ := hv
  have hx := B.exec
  have hb := B.bytes
  have hr := B.returns
  have hts := atoms_spec (ws := wsX3_secondOf) B.pre
  have hown : s.vm.findClass RX3 = some m.cls := findClass_of_methodNamed B.named
  have hlocks := B.notSynchronized
  have FX : CallFix p m c cX3_secondOf 2 s ([.ref (a j), .int (nI k)] : List Value).toArray wsX3_secondOf RX3 := ⟨hx, hb, hml, hown, hts⟩
  have hl := lv_entry ([.ref (a j), .int (nI k)]) (n := 2) (Nat.le_of_ble_eq_true rfl)
  rw [lg_entry_eq]
  generalize (lg_sl ([.ref (a j), .int (nI k)]) ++ List.replicate (2 - (lg_sl ([.ref (a j), .int (nI k)])).length) Slot.unset).toArray = ls at hl ⊢
  have hl : lv_has ls 2 [(0, .ref (a j)), (1, .int (nI k))] := hl
  have h_n := hB
  have hg := hN.g
  have hk9 := hN.k hk
  refine lv_aload_n hx hb dX3_secondOf_0 rfl (lv_at hl 0 rfl) ?_
  refine va_get (D := G.1) (ci := 3) (v := .ref (a (j + 5))) (C := RX3) (T := TX3) (N := 8) hx hb hts inX3_secondOf_3 hown hK h_n 0 rfl rfl 2 (by decide) (hts (.fieldLink RX3 23 "GateLedger$Net" "seconds" "LGateLedger$Row;") (List.mem_of_getElem? (i := 1) (by decide +kernel))) (fun _ h9 => h9) rfl dX3_secondOf_1 ?_
  refine lv_iload_n hx hb dX3_secondOf_4 rfl (lv_at hl 1 rfl) ?_
  refine ro_i (va_runV (As := [.int (nI k)]) (rest := []) FX (c_X4_at l G a (j + 5) 120 (fun z => nI (nS N z)) (nI k) (by decide)) (cwV 1 hts gX3_secondOf_X4_at rfl rfl rfl (by decide +kernel) ⟨Nat.le_of_ble_eq_true rfl, Nat.le_of_ble_eq_true rfl⟩) (preV hK hNW (va_P.sub h_n [5, 6] rfl) (va_recv hK h_n (ci := 4) (q0 := 5) rfl rfl)) rfl rfl hl.1 rfl (lv_room (Nat.le_of_ble_eq_true rfl)) dX3_secondOf_5 ⟨Nat.le_of_ble_eq_true rfl, Nat.le_of_ble_eq_true rfl⟩) ?_
  refine lv_as (y := nI (nS N k)) (rowAt_in (by omega) (by decide)) ?_
  exact en_i hx hb hr hlocks (rfl) dX3_secondOf_8
set_option maxRecDepth 20000 in
theorem inX3_stuckBitOf_3 : ∀ w ∈ u_ws RX3 TX3 8, w ∈ wsX3_stuckBitOf := by decide +kernel
set_option maxHeartbeats 4000000 in
set_option maxRecDepth 100000 in
/-- X3_stuckBitOf -/
theorem c_X3_stuckBitOf (l : Launch) (G : GG) (a : Nat → Nat) (j : Nat) (N : NT) (hN : WF N) (k : Nat) (hk : k < nG N) : Met l yX3_stuckBitOf wsX3_stuckBitOf ({ frames := 1, cells := 0, slots := 0, locals := 21 } : Room) (PcB G [.ref (a j), .int (nI k)] (fun H => PP G (netW G a j N) H)) (vp_Si (fun r => r = nT N k)) 0 0 (fun _ => False) := by
  refine Met.ofW (cc := cX3_stuckBitOf) (maxL := 2) (ret := (some .int)) (by decide) rfl ?_
  intro p e s m args below meth c s₁ B hml hv
  obtain ⟨rfl, hB, hK, hNW⟩ := hv
  have hx := B.exec
  have hb := B.bytes
  have hr := B.returns
  have hts := atoms_spec (ws := wsX3_stuckBitOf) B.pre
  have hown : s.vm.findClass RX3 = some m.cls := findClass_of_methodNamed B.named
  have hlocks := B.notSynchronized
  have FX : CallFix p m c cX3_stuckBitOf 2 s ([.ref (a j), .int (nI k)] : List Value).toArray wsX3_stuckBitOf RX3 := ⟨hx, hb, hml, hown, hts⟩
  have hl := lv_entry ([.ref (a j), .int (nI k)]) (n := 2) (Nat.le_of_ble_eq_true rfl)
  rw [lg_entry_eq]
  generalize (lg_sl ([.ref (a j), .int (nI k)]) ++ List.replicate (2 - (lg_sl ([.ref (a j), .int (nI k)])).length) Slot.unset).toArray = ls at hl ⊢
  have hl : lv_has ls 2 [(0, .ref (a j)), (1, .int (nI k))] := hl
  have h_n := hB
  have hg := hN.g
  have hk9 := hN.k hk
  refine lv_aload_n hx hb dX3_stuckBitOf_0 rfl (lv_at hl 0 rfl) ?_
  refine va_get (D := G.1) (ci := 3) (v := .ref (a (j + 7))) (C := RX3) (T := TX3) (N := 8) hx hb hts inX3_stuckBitOf_3 hown hK h_n 0 rfl rfl 3 (by decide) (hts (.fieldLink RX3 26 "GateLedger$Net" "stuckBits" "LGateLedger$Row;") (List.mem_of_getElem? (i := 1) (by decide +kernel))) (fun _ h9 => h9) rfl dX3_stuckBitOf_1 ?_
  refine lv_iload_n hx hb dX3_stuckBitOf_4 rfl (lv_at hl 1 rfl) ?_
  refine ro_i (va_runV (As := [.int (nI k)]) (rest := []) FX (c_X4_at l G a (j + 7) 120 (nT N) (nI k) (by decide)) (cwV 1 hts gX3_stuckBitOf_X4_at rfl rfl rfl (by decide +kernel) ⟨Nat.le_of_ble_eq_true rfl, Nat.le_of_ble_eq_true rfl⟩) (preV hK hNW (va_P.sub h_n [7, 8] rfl) (va_recv hK h_n (ci := 4) (q0 := 7) rfl rfl)) rfl rfl hl.1 rfl (lv_room (Nat.le_of_ble_eq_true rfl)) dX3_stuckBitOf_5 ⟨Nat.le_of_ble_eq_true rfl, Nat.le_of_ble_eq_true rfl⟩) ?_
  refine lv_as (y := (nT N) k) (rowAt_in (by omega) (by decide)) ?_
  exact en_i hx hb hr hlocks (rfl) dX3_stuckBitOf_8
set_option maxRecDepth 20000 in
theorem inX3_isInput_3 : ∀ w ∈ u_ws RX3 TX3 8, w ∈ wsX3_isInput := by decide +kernel
set_option maxHeartbeats 4000000 in
set_option maxRecDepth 100000 in
/-- isInput -/
theorem c_X3_isInput (l : Launch) (G : GG) (a : Nat → Nat) (j : Nat) (N : NT) (hN : WF N) (k : Nat) (hk : k < nG N) : Met l yX3_isInput wsX3_isInput ({ frames := 1, cells := 0, slots := 0, locals := 21 } : Room) (PcB G [.ref (a j), .int (nI k)] (fun H => PP G (netW G a j N) H)) (vp_Si (fun r => r = bI (nK N k = 4))) 0 0 (fun _ => False) := by
  refine Met.ofW (cc := cX3_isInput) (maxL := 2) (ret := (some .boolean)) (by decide) rfl ?_
  intro p e s m args below meth c s₁ B hml hv
  obtain ⟨rfl, hB, hK, hNW⟩ := hv
  have hx := B.exec
  have hb := B.bytes
  have hr := B.returns
  have hts := atoms_spec (ws := wsX3_isInput) B.pre
  have hown : s.vm.findClass RX3 = some m.cls := findClass_of_methodNamed B.named
  have hlocks := B.notSynchronized
  have FX : CallFix p m c cX3_isInput 2 s ([.ref (a j), .int (nI k)] : List Value).toArray wsX3_isInput RX3 := ⟨hx, hb, hml, hown, hts⟩
  have hl := lv_entry ([.ref (a j), .int (nI k)]) (n := 2) (Nat.le_of_ble_eq_true rfl)
  rw [lg_entry_eq]
  generalize (lg_sl ([.ref (a j), .int (nI k)]) ++ List.replicate (2 - (lg_sl ([.ref (a j), .int (nI k)])).length) Slot.unset).toArray = ls at hl ⊢
  have hl : lv_has ls 2 [(0, .ref (a j)), (1, .int (nI k))] := hl
  have h_n := hB
  have hg := hN.g
  have hk9 := hN.k hk
  refine lv_aload_n hx hb dX3_isInput_0 rfl (lv_at hl 0 rfl) ?_
  refine va_get (D := G.1) (ci := 3) (v := .ref (a (j + 1))) (C := RX3) (T := TX3) (N := 8) hx hb hts inX3_isInput_3 hown hK h_n 0 rfl rfl 0 (by decide) (hts (.fieldLink RX3 14 "GateLedger$Net" "kinds" "LGateLedger$Row;") (List.mem_of_getElem? (i := 1) (by decide +kernel))) (fun _ h9 => h9) rfl dX3_isInput_1 ?_
  refine lv_iload_n hx hb dX3_isInput_4 rfl (lv_at hl 1 rfl) ?_
  refine ro_i (va_runV (As := [.int (nI k)]) (rest := []) FX (c_X4_at l G a (j + 1) 120 (fun z => nI (nK N z)) (nI k) (by decide)) (cwV 1 hts gX3_isInput_X4_at rfl rfl rfl (by decide +kernel) ⟨Nat.le_of_ble_eq_true rfl, Nat.le_of_ble_eq_true rfl⟩) (preV hK hNW (va_P.sub h_n [1, 2] rfl) (va_recv hK h_n (ci := 4) (q0 := 1) rfl rfl)) rfl rfl hl.1 rfl (lv_room (Nat.le_of_ble_eq_true rfl)) dX3_isInput_5 ⟨Nat.le_of_ble_eq_true rfl, Nat.le_of_ble_eq_true rfl⟩) ?_
  refine lv_as (y := nI (nK N k)) (rowAt_in (by omega) (by decide)) ?_
  refine lv_iconst (v := nI 4) hx hb dX3_isInput_8 (by decide) ?_
  refine lv_icmp_ne (tgt := 16) hx hb dX3_isInput_9 (by decide) (fun c9 => ?_) (fun c9 => ?_)
  · skip
    have c9 := cv_ne (by omega) (by omega) c9
    refine lv_iconst (v := nI 0) hx hb dX3_isInput_16 (by decide) ?_
    exact en_z hx hb hr hlocks (rfl) (by first | exact bI_t (by omega) | exact bI_f (by omega)) dX3_isInput_17
  · skip
    have c9 := cv_eq (by omega) (by omega) c9
    refine lv_iconst (v := nI 1) hx hb dX3_isInput_12 (by decide) ?_
    refine lv_goto (tgt := 17) hx hb dX3_isInput_13 (by decide) ?_
    exact en_z hx hb hr hlocks (rfl) (by first | exact bI_t (by omega) | exact bI_f (by omega)) dX3_isInput_17
set_option maxRecDepth 20000 in
theorem inX3_outAt_3 : ∀ w ∈ u_ws RX3 TX3 8, w ∈ wsX3_outAt := by decide +kernel
set_option maxHeartbeats 4000000 in
set_option maxRecDepth 100000 in
/-- outAt -/
theorem c_X3_outAt (l : Launch) (G : GG) (a : Nat → Nat) (j : Nat) (N : NT) (hN : WF N) (k : Nat) (hk : k < nO N) : Met l yX3_outAt wsX3_outAt ({ frames := 1, cells := 0, slots := 0, locals := 21 } : Room) (PcB G [.ref (a j), .int (nI k)] (fun H => PP G (netW G a j N) H)) (vp_Si (fun r => r = nI (nU N k))) 0 0 (fun _ => False) := by
  refine Met.ofW (cc := cX3_outAt) (maxL := 2) (ret := (some .int)) (by decide) rfl ?_
  intro p e s m args below meth c s₁ B hml hv
  obtain ⟨rfl, hB, hK, hNW⟩ := hv
  have hx := B.exec
  have hb := B.bytes
  have hr := B.returns
  have hts := atoms_spec (ws := wsX3_outAt) B.pre
  have hown : s.vm.findClass RX3 = some m.cls := findClass_of_methodNamed B.named
  have hlocks := B.notSynchronized
  have FX : CallFix p m c cX3_outAt 2 s ([.ref (a j), .int (nI k)] : List Value).toArray wsX3_outAt RX3 := ⟨hx, hb, hml, hown, hts⟩
  have hl := lv_entry ([.ref (a j), .int (nI k)]) (n := 2) (Nat.le_of_ble_eq_true rfl)
  rw [lg_entry_eq]
  generalize (lg_sl ([.ref (a j), .int (nI k)]) ++ List.replicate (2 - (lg_sl ([.ref (a j), .int (nI k)])).length) Slot.unset).toArray = ls at hl ⊢
  have hl : lv_has ls 2 [(0, .ref (a j)), (1, .int (nI k))] := hl
  have h_n := hB
  have ho := hN.o
  refine lv_aload_n hx hb dX3_outAt_0 rfl (lv_at hl 0 rfl) ?_
  refine va_get (D := G.1) (ci := 3) (v := .ref (a (j + 9))) (C := RX3) (T := TX3) (N := 8) hx hb hts inX3_outAt_3 hown hK h_n 0 rfl rfl 4 (by decide) (hts (.fieldLink RX3 29 "GateLedger$Net" "outs" "LGateLedger$Row;") (List.mem_of_getElem? (i := 1) (by decide +kernel))) (fun _ h9 => h9) rfl dX3_outAt_1 ?_
  refine lv_iload_n hx hb dX3_outAt_4 rfl (lv_at hl 1 rfl) ?_
  refine ro_i (va_runV (As := [.int (nI k)]) (rest := []) FX (c_X4_at l G a (j + 9) 16 (fun z => nI (nU N z)) (nI k) (by decide)) (cwV 1 hts gX3_outAt_X4_at rfl rfl rfl (by decide +kernel) ⟨Nat.le_of_ble_eq_true rfl, Nat.le_of_ble_eq_true rfl⟩) (preV hK hNW (va_P.sub h_n [9, 10] rfl) (va_recv hK h_n (ci := 4) (q0 := 9) rfl rfl)) rfl rfl hl.1 rfl (lv_room (Nat.le_of_ble_eq_true rfl)) dX3_outAt_5 ⟨Nat.le_of_ble_eq_true rfl, Nat.le_of_ble_eq_true rfl⟩) ?_
  refine lv_as (y := nI (nU N k)) (rowAt_in (by omega) (by decide)) ?_
  exact en_i hx hb hr hlocks (rfl) dX3_outAt_8
set_option maxRecDepth 20000 in
theorem inX3_isOut_3 : ∀ w ∈ u_ws RX3 TX3 8, w ∈ wsX3_isOut := by decide +kernel
set_option maxHeartbeats 4000000 in
set_option maxRecDepth 100000 in
/-- isOut -/
theorem c_X3_isOut (l : Launch) (G : GG) (a : Nat → Nat) (j : Nat) (N : NT) (hN : WF N) (k : Nat) (hk : k < nG N) : Met l yX3_isOut wsX3_isOut ({ frames := 1, cells := 0, slots := 0, locals := 21 } : Room) (PcB G [.ref (a j), .int (nI k)] (fun H => PP G (netW G a j N) H)) (vp_Si (fun r => r = bI (∃ r, r < nO N ∧ nU N r = k))) 0 0 (fun _ => False) := by
  refine Met.ofW (cc := cX3_isOut) (maxL := 3) (ret := (some .boolean)) (by decide) rfl ?_
  intro p e s m args below meth c s₁ B hml hv
  obtain ⟨rfl, hB, hK, hNW⟩ := hv
  have hx := B.exec
  have hb := B.bytes
  have hr := B.returns
  have hts := atoms_spec (ws := wsX3_isOut) B.pre
  have hown : s.vm.findClass RX3 = some m.cls := findClass_of_methodNamed B.named
  have hlocks := B.notSynchronized
  have FX : CallFix p m c cX3_isOut 3 s ([.ref (a j), .int (nI k)] : List Value).toArray wsX3_isOut RX3 := ⟨hx, hb, hml, hown, hts⟩
  have hl := lv_entry ([.ref (a j), .int (nI k)]) (n := 3) (Nat.le_of_ble_eq_true rfl)
  rw [lg_entry_eq]
  generalize (lg_sl ([.ref (a j), .int (nI k)]) ++ List.replicate (3 - (lg_sl ([.ref (a j), .int (nI k)])).length) Slot.unset).toArray = ls at hl ⊢
  have hl : lv_has ls 3 [(0, .ref (a j)), (1, .int (nI k))] := hl
  have h_n := hB
  have hg := hN.g
  have ho := hN.o
  refine lv_iconst (v := nI 0) hx hb dX3_isOut_0 (by decide) ?_
  refine lv_istore_n (lv' := [(2, .int (nI 0)), (0, .ref (a j)), (1, .int (nI k))]) hx hb dX3_isOut_1 rfl hl (by decide) rfl (fun ls hl => ?_)
  refine lv_loop1 2 (fun (p : Nat) => nO N - p) (fun (p : Nat) (H : Heap) (locs : List Loc) (ls : Array Slot) => (H = s.heap) ∧ (locs = []) ∧ (lv_has ls 3 [(0, .ref (a j)), (1, .int (nI k)), (2, .int (nI p))]) ∧ (p ≤ nO N) ∧ (∀ r, r < p → nU N r ≠ k)) (fun _ => []) (fun p H locs ls hI ih => ?_) 0 ⟨rfl, rfl, lv_sub hl [1, 2, 0] rfl, by omega, fun r h => absurd h (Nat.not_lt_zero r)⟩ rfl
  obtain ⟨rfl, rfl, hl, hp, hn9⟩ := hI
  have ih1 := @ih
  clear ih
  refine lv_iload_n hx hb dX3_isOut_2 rfl (lv_at hl 2 rfl) ?_
  refine lv_aload_n hx hb dX3_isOut_3 rfl (lv_at hl 0 rfl) ?_
  refine va_get (D := G.1) (ci := 3) (v := .int (nI (nO N))) (C := RX3) (T := TX3) (N := 8) hx hb hts inX3_isOut_3 hown hK h_n 0 rfl rfl 7 (by decide) (hts (.fieldLink RX3 39 "GateLedger$Net" "outTotal" "I") (List.mem_of_getElem? (i := 1) (by decide +kernel))) (fun _ h9 => h9) rfl dX3_isOut_4 ?_
  refine lv_icmp_ge (tgt := 30) hx hb dX3_isOut_7 (by decide) (fun c7 => ?_) (fun c7 => ?_)
  · skip
    have c7 := cv_le (by omega) (by omega) c7
    refine lv_iconst (v := nI 0) hx hb dX3_isOut_30 (by decide) ?_
    exact en_z hx hb hr hlocks (rfl) (by first | exact bI_t ⟨p, c7, c19⟩ | exact bI_f (fun ⟨r, h1, h2⟩ => hn9 r (by omega) h2)) dX3_isOut_31
  · skip
    have c7 := cv_nle (by omega) (by omega) c7
    have hu9 := hN.u c7
    refine lv_aload_n hx hb dX3_isOut_10 rfl (lv_at hl 0 rfl) ?_
    refine va_get (D := G.1) (ci := 3) (v := .ref (a (j + 9))) (C := RX3) (T := TX3) (N := 8) hx hb hts inX3_isOut_3 hown hK h_n 0 rfl rfl 4 (by decide) (hts (.fieldLink RX3 29 "GateLedger$Net" "outs" "LGateLedger$Row;") (List.mem_of_getElem? (i := 2) (by decide +kernel))) (fun _ h9 => h9) rfl dX3_isOut_11 ?_
    refine lv_iload_n hx hb dX3_isOut_14 rfl (lv_at hl 2 rfl) ?_
    refine ro_i (va_runV (As := [.int (nI p)]) (rest := []) FX (c_X4_at l G a (j + 9) 16 (fun z => nI (nU N z)) (nI p) (by decide)) (cwV 1 hts gX3_isOut_X4_at rfl rfl rfl (by decide +kernel) ⟨Nat.le_of_ble_eq_true rfl, Nat.le_of_ble_eq_true rfl⟩) (preV hK hNW (va_P.sub h_n [9, 10] rfl) (va_recv hK h_n (ci := 4) (q0 := 9) rfl rfl)) rfl rfl hl.1 rfl (lv_room (Nat.le_of_ble_eq_true rfl)) dX3_isOut_15 ⟨Nat.le_of_ble_eq_true rfl, Nat.le_of_ble_eq_true rfl⟩) ?_
    refine lv_as (y := nI (nU N p)) (rowAt_in (by omega) (by decide)) ?_
    refine lv_iload_n hx hb dX3_isOut_18 rfl (lv_at hl 1 rfl) ?_
    refine lv_icmp_ne (tgt := 24) hx hb dX3_isOut_19 (by decide) (fun c19 => ?_) (fun c19 => ?_)
    · skip
      have c19 := cv_ne (by omega) (by omega) c19
      refine lv_iinc (v := nI (p + 1)) (lv' := [(2, .int (nI (p + 1))), (0, .ref (a j)), (1, .int (nI k))]) hx hb dX3_isOut_24 hl (k := 2) rfl (by first | exact nI_add _ 1 | decide) (by decide) rfl (fun ls hl => ?_)
      refine lv_goto (tgt := 2) hx hb dX3_isOut_27 (by decide) ?_
      exact ih1 (p + 1) _ _ _ ⟨rfl, rfl, lv_sub hl [1, 2, 0] rfl, by omega, fun r h => by rcases Nat.lt_succ_iff_lt_or_eq.mp h with h | h; exact hn9 r h; subst h; exact c19⟩ (by show nO N - (p + 1) < nO N - p; omega)
    · skip
      have c19 := cv_eq (by omega) (by omega) c19
      refine lv_iconst (v := nI 1) hx hb dX3_isOut_22 (by decide) ?_
      exact en_z hx hb hr hlocks (rfl) (by first | exact bI_t ⟨p, c7, c19⟩ | exact bI_f (fun ⟨r, h1, h2⟩ => hn9 r (by omega) h2)) dX3_isOut_23
