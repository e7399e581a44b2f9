set_option maxRecDepth 20000 in
theorem inX12_thrown_12 : ∀ w ∈ u_ws RX12 TX12 23, w ∈ wsX12_thrown := by decide +kernel
set_option maxHeartbeats 4000000 in
set_option maxRecDepth 100000 in
/-- thrown -/
theorem c_X12_thrown (l : Launch) (G : GG) (a : Nat → Nat) (cy th : Int32)  : Met l yX12_thrown wsX12_thrown ({ frames := 0, cells := 0, slots := 0, locals := 0 } : Room) (PcB G [.ref (a 93)] (fun H => PP G (modO a cy th) H)) (vp_Si (fun r => r = th)) 0 0 (fun _ => False) := by
  refine Met.ofW (cc := cX12_thrown) (maxL := 1) (ret := (some .int)) (by decide) rfl ?_
  intro p e s m args below meth c s₁ B hml hv
  obtain ⟨rfl, hB, hK, hNW⟩ := hv
  have hx := B.exec
  have hb := B.bytes
  have hr := B.returns
  have hts := atoms_spec (ws := wsX12_thrown) B.pre
  have hown : s.vm.findClass RX12 = some m.cls := findClass_of_methodNamed B.named
  have hlocks := B.notSynchronized
  have FX : CallFix p m c cX12_thrown 1 s ([.ref (a 93)] : List Value).toArray wsX12_thrown RX12 := ⟨hx, hb, hml, hown, hts⟩
  have hl := lv_entry ([.ref (a 93)]) (n := 1) (Nat.le_of_ble_eq_true rfl)
  rw [lg_entry_eq]
  generalize (lg_sl ([.ref (a 93)]) ++ List.replicate (1 - (lg_sl ([.ref (a 93)])).length) Slot.unset).toArray = ls at hl ⊢
  have hl : lv_has ls 1 [(0, .ref (a 93))] := hl
  have h_o := hB
  refine lv_aload_n hx hb dX12_thrown_0 rfl (lv_at hl 0 rfl) ?_
  refine va_get (D := G.1) (ci := 12) (v := .int th) (C := RX12) (T := TX12) (N := 23) hx hb hts inX12_thrown_12 hown hK h_o 0 rfl rfl 22 (by decide) (hts (.fieldLink RX12 73 "GateLedgerModel" "thrown" "I") (List.mem_of_getElem? (i := 1) (by decide +kernel))) (fun _ h9 => h9) rfl dX12_thrown_1 ?_
  exact en_i hx hb hr hlocks (rfl) dX12_thrown_4
set_option maxHeartbeats 4000000 in
set_option maxRecDepth 100000 in
/-- isIn -/
theorem c_X12_isIn (l : Launch) (G : GG) (x lo hi : Int32)  : Met l yX12_isIn wsX12_isIn ({ frames := 0, cells := 0, slots := 0, locals := 0 } : Room) (PcB G [.int x, .int lo, .int hi] (fun H => True)) (vp_Si (fun r => r = bI (¬ x < lo ∧ x ≤ hi))) 0 0 (fun _ => False) := by
  refine Met.ofW (cc := cX12_isIn) (maxL := 3) (ret := (some .boolean)) (by decide) rfl ?_
  intro p e s m args below meth c s₁ B hml hv
  obtain ⟨rfl, hB, hK, hNW⟩ := hv
  have hx := B.exec
  have hb := B.bytes
  have hr := B.returns
  have hts := atoms_spec (ws := wsX12_isIn) B.pre
  have hown : s.vm.findClass RX12 = some m.cls := findClass_of_methodNamed B.named
  have hlocks := B.notSynchronized
  have FX : CallFix p m c cX12_isIn 3 s ([.int x, .int lo, .int hi] : List Value).toArray wsX12_isIn RX12 := ⟨hx, hb, hml, hown, hts⟩
  have hl := lv_entry ([.int x, .int lo, .int hi]) (n := 3) (Nat.le_of_ble_eq_true rfl)
  rw [lg_entry_eq]
  generalize (lg_sl ([.int x, .int lo, .int hi]) ++ List.replicate (3 - (lg_sl ([.int x, .int lo, .int hi])).length) Slot.unset).toArray = ls at hl ⊢
  have hl : lv_has ls 3 [(0, .int x), (1, .int lo), (2, .int hi)] := hl
  refine lv_iload_n hx hb dX12_isIn_0 rfl (lv_at hl 0 rfl) ?_
  refine lv_iload_n hx hb dX12_isIn_1 rfl (lv_at hl 1 rfl) ?_
  refine lv_icmp_lt (tgt := 14) hx hb dX12_isIn_2 (by decide) (fun c2 => ?_) (fun c2 => ?_)
  · skip
    refine lv_iconst (v := nI 0) hx hb dX12_isIn_14 (by decide) ?_
    exact en_z hx hb hr hlocks (rfl) (by first | exact bI_t ⟨c2, Int32.not_lt.mp c7⟩ | exact bI_f (fun q => q.1 c2) | exact bI_f (fun q => Int32.not_le.mpr c7 q.2)) dX12_isIn_15
  · skip
    refine lv_iload_n hx hb dX12_isIn_5 rfl (lv_at hl 0 rfl) ?_
    refine lv_iload_n hx hb dX12_isIn_6 rfl (lv_at hl 2 rfl) ?_
    refine lv_icmp_gt (tgt := 14) hx hb dX12_isIn_7 (by decide) (fun c7 => ?_) (fun c7 => ?_)
    · skip
      refine lv_iconst (v := nI 0) hx hb dX12_isIn_14 (by decide) ?_
      exact en_z hx hb hr hlocks (rfl) (by first | exact bI_t ⟨c2, Int32.not_lt.mp c7⟩ | exact bI_f (fun q => q.1 c2) | exact bI_f (fun q => Int32.not_le.mpr c7 q.2)) dX12_isIn_15
    · skip
      refine lv_iconst (v := nI 1) hx hb dX12_isIn_10 (by decide) ?_
      refine lv_goto (tgt := 15) hx hb dX12_isIn_11 (by decide) ?_
      exact en_z hx hb hr hlocks (rfl) (by first | exact bI_t ⟨c2, Int32.not_lt.mp c7⟩ | exact bI_f (fun q => q.1 c2) | exact bI_f (fun q => Int32.not_le.mpr c7 q.2)) dX12_isIn_15
set_option maxHeartbeats 4000000 in
set_option maxRecDepth 100000 in
/-- isNet -/
theorem c_X12_isNet (l : Launch) (G : GG) (x : Int32)  : Met l yX12_isNet wsX12_isNet ({ frames := 1, cells := 0, slots := 0, locals := 22 } : Room) (PcB G [.int x] (fun H => True)) (vp_Si (fun r => r = bI (inBd x 4))) 0 0 (fun _ => False) := by
  refine Met.ofW (cc := cX12_isNet) (maxL := 1) (ret := (some .boolean)) (by decide) rfl ?_
  intro p e s m args below meth c s₁ B hml hv
  obtain ⟨rfl, hB, hK, hNW⟩ := hv
  have hx := B.exec
  have hb := B.bytes
  have hr := B.returns
  have hts := atoms_spec (ws := wsX12_isNet) B.pre
  have hown : s.vm.findClass RX12 = some m.cls := findClass_of_methodNamed B.named
  have hlocks := B.notSynchronized
  have FX : CallFix p m c cX12_isNet 1 s ([.int x] : List Value).toArray wsX12_isNet RX12 := ⟨hx, hb, hml, hown, hts⟩
  have hl := lv_entry ([.int x]) (n := 1) (Nat.le_of_ble_eq_true rfl)
  rw [lg_entry_eq]
  generalize (lg_sl ([.int x]) ++ List.replicate (1 - (lg_sl ([.int x])).length) Slot.unset).toArray = ls at hl ⊢
  have hl : lv_has ls 1 [(0, .int x)] := hl
  refine lv_iload_n hx hb dX12_isNet_0 rfl (lv_at hl 0 rfl) ?_
  refine lv_iconst (v := nI 0) hx hb dX12_isNet_1 (by decide) ?_
  refine lv_iconst (v := nI 3) hx hb dX12_isNet_2 (by decide) ?_
  refine ro_i (va_runS (As := [.int x, .int (nI 0), .int (nI 3)]) (rest := []) FX (c_X12_isIn l G x (nI 0) (nI 3)) (va_cwS 3 hts gX12_isNet_X12_isIn rfl rfl rfl (by decide +kernel) ⟨Nat.le_of_ble_eq_true rfl, Nat.le_of_ble_eq_true rfl⟩) (preS hK hNW trivial) rfl rfl hl.1 rfl (lv_room (Nat.le_of_ble_eq_true rfl)) dX12_isNet_3 ⟨Nat.le_of_ble_eq_true rfl, Nat.le_of_ble_eq_true rfl⟩) ?_
  exact en_z hx hb hr hlocks (bI_n) (bI_c (isIn_0 (by omega))) dX12_isNet_6
set_option maxHeartbeats 4000000 in
set_option maxRecDepth 100000 in
/-- isNumber -/
theorem c_X12_isNumber (l : Launch) (G : GG) (x : Int32)  : Met l yX12_isNumber wsX12_isNumber ({ frames := 1, cells := 0, slots := 0, locals := 22 } : Room) (PcB G [.int x] (fun H => True)) (vp_Si (fun r => r = bI (¬ x < nI 0 ∧ x ≤ nI 1073741823))) 0 0 (fun _ => False) := by
  refine Met.ofW (cc := cX12_isNumber) (maxL := 1) (ret := (some .boolean)) (by decide) rfl ?_
  intro p e s m args below meth c s₁ B hml hv
  obtain ⟨rfl, hB, hK, hNW⟩ := hv
  have hx := B.exec
  have hb := B.bytes
  have hr := B.returns
  have hts := atoms_spec (ws := wsX12_isNumber) B.pre
  have hown : s.vm.findClass RX12 = some m.cls := findClass_of_methodNamed B.named
  have hlocks := B.notSynchronized
  have FX : CallFix p m c cX12_isNumber 1 s ([.int x] : List Value).toArray wsX12_isNumber RX12 := ⟨hx, hb, hml, hown, hts⟩
  have hl := lv_entry ([.int x]) (n := 1) (Nat.le_of_ble_eq_true rfl)
  rw [lg_entry_eq]
  generalize (lg_sl ([.int x]) ++ List.replicate (1 - (lg_sl ([.int x])).length) Slot.unset).toArray = ls at hl ⊢
  have hl : lv_has ls 1 [(0, .int x)] := hl
  refine lv_iload_n hx hb dX12_isNumber_0 rfl (lv_at hl 0 rfl) ?_
  refine lv_iconst (v := nI 0) hx hb dX12_isNumber_1 (by decide) ?_
  refine lv_ldc (v := nI 1073741823) hx hb hown (hts (.constant RX12 124 (1073741823)) (List.mem_of_getElem? (i := 1) (by decide +kernel))) dX12_isNumber_2 ?_
  refine ro_i (va_runS (As := [.int x, .int (nI 0), .int (nI 1073741823)]) (rest := []) FX (c_X12_isIn l G x (nI 0) (nI 1073741823)) (va_cwS 3 hts gX12_isNumber_X12_isIn rfl rfl rfl (by decide +kernel) ⟨Nat.le_of_ble_eq_true rfl, Nat.le_of_ble_eq_true rfl⟩) (preS hK hNW trivial) rfl rfl hl.1 rfl (lv_room (Nat.le_of_ble_eq_true rfl)) dX12_isNumber_4 ⟨Nat.le_of_ble_eq_true rfl, Nat.le_of_ble_eq_true rfl⟩) ?_
  exact en_z hx hb hr hlocks (bI_n) (rfl) dX12_isNumber_7
set_option maxHeartbeats 4000000 in
set_option maxRecDepth 100000 in
/-- isOperation -/
theorem c_X12_isOperation (l : Launch) (G : GG) (x : Int32)  : Met l yX12_isOperation wsX12_isOperation ({ frames := 1, cells := 0, slots := 0, locals := 22 } : Room) (PcB G [.int x] (fun H => True)) (vp_Si (fun r => r = bI (¬ x < nI 0 ∧ x ≤ nI 1))) 0 0 (fun _ => False) := by
  refine Met.ofW (cc := cX12_isOperation) (maxL := 1) (ret := (some .boolean)) (by decide) rfl ?_
  intro p e s m args below meth c s₁ B hml hv
  obtain ⟨rfl, hB, hK, hNW⟩ := hv
  have hx := B.exec
  have hb := B.bytes
  have hr := B.returns
  have hts := atoms_spec (ws := wsX12_isOperation) B.pre
  have hown : s.vm.findClass RX12 = some m.cls := findClass_of_methodNamed B.named
  have hlocks := B.notSynchronized
  have FX : CallFix p m c cX12_isOperation 1 s ([.int x] : List Value).toArray wsX12_isOperation RX12 := ⟨hx, hb, hml, hown, hts⟩
  have hl := lv_entry ([.int x]) (n := 1) (Nat.le_of_ble_eq_true rfl)
  rw [lg_entry_eq]
  generalize (lg_sl ([.int x]) ++ List.replicate (1 - (lg_sl ([.int x])).length) Slot.unset).toArray = ls at hl ⊢
  have hl : lv_has ls 1 [(0, .int x)] := hl
  refine lv_iload_n hx hb dX12_isOperation_0 rfl (lv_at hl 0 rfl) ?_
  refine lv_iconst (v := nI 0) hx hb dX12_isOperation_1 (by decide) ?_
  refine lv_iconst (v := nI 1) hx hb dX12_isOperation_2 (by decide) ?_
  refine ro_i (va_runS (As := [.int x, .int (nI 0), .int (nI 1)]) (rest := []) FX (c_X12_isIn l G x (nI 0) (nI 1)) (va_cwS 3 hts gX12_isOperation_X12_isIn rfl rfl rfl (by decide +kernel) ⟨Nat.le_of_ble_eq_true rfl, Nat.le_of_ble_eq_true rfl⟩) (preS hK hNW trivial) rfl rfl hl.1 rfl (lv_room (Nat.le_of_ble_eq_true rfl)) dX12_isOperation_3 ⟨Nat.le_of_ble_eq_true rfl, Nat.le_of_ble_eq_true rfl⟩) ?_
  exact en_z hx hb hr hlocks (bI_n) (rfl) dX12_isOperation_6
set_option maxRecDepth 20000 in
theorem inX12_isGate_12 : ∀ w ∈ u_ws RX12 TX12 23, w ∈ wsX12_isGate := by decide +kernel
set_option maxHeartbeats 4000000 in
set_option maxRecDepth 100000 in
/-- isGate -/
theorem c_X12_isGate (l : Launch) (G : GG) (a : Nat → Nat) (cy th : Int32) (Ns : Nat → NT) (fs sc : FN) (p9 g9 : Int32) (hg : ∀ z, z < 4 → nG (Ns z) ≤ 120) : Met l yX12_isGate wsX12_isGate ({ frames := 2, cells := 0, slots := 0, locals := 42 } : Room) (PcB G [.ref (a 93), .int p9, .int g9] (fun H => PP G (modO a cy th) H ∧ PP G (sixW G a Ns fs sc) H)) (vp_Si (fun r => r = bI (inBd p9 4 ∧ inBd g9 (nG (Ns (ix p9)))))) 0 0 (fun _ => False) := by
  refine Met.ofW (cc := cX12_isGate) (maxL := 3) (ret := (some .boolean)) (by decide) rfl ?_
  intro p e s m args below meth c s₁ B hml hv
  obtain ⟨rfl, hB, hK, hNW⟩ := hv
  have hx := B.exec
  have hb := B.bytes
  have hr := B.returns
  have hts := atoms_spec (ws := wsX12_isGate) B.pre
  have hown : s.vm.findClass RX12 = some m.cls := findClass_of_methodNamed B.named
  have hlocks := B.notSynchronized
  have FX : CallFix p m c cX12_isGate 3 s ([.ref (a 93), .int p9, .int g9] : List Value).toArray wsX12_isGate RX12 := ⟨hx, hb, hml, hown, hts⟩
  have hl := lv_entry ([.ref (a 93), .int p9, .int g9]) (n := 3) (Nat.le_of_ble_eq_true rfl)
  rw [lg_entry_eq]
  generalize (lg_sl ([.ref (a 93), .int p9, .int g9]) ++ List.replicate (3 - (lg_sl ([.ref (a 93), .int p9, .int g9])).length) Slot.unset).toArray = ls at hl ⊢
  have hl : lv_has ls 3 [(0, .ref (a 93)), (1, .int p9), (2, .int g9)] := hl
  obtain ⟨h_o, h_x⟩ := hB
  refine lv_iload_n hx hb dX12_isGate_0 rfl (lv_at hl 1 rfl) ?_
  refine ro_i (va_runS (As := [.int p9]) (rest := []) FX (c_X12_isNet l G p9) (va_cwS 1 hts gX12_isGate_X12_isNet rfl rfl rfl (by decide +kernel) ⟨Nat.le_of_ble_eq_true rfl, Nat.le_of_ble_eq_true rfl⟩) (preS hK hNW trivial) rfl rfl hl.1 rfl (lv_room (Nat.le_of_ble_eq_true rfl)) dX12_isGate_1 ⟨Nat.le_of_ble_eq_true rfl, Nat.le_of_ble_eq_true rfl⟩) ?_
  refine lv_if_eq (tgt := 27) hx hb dX12_isGate_4 (by decide) (fun c4 => ?_) (fun c4 => ?_)
  · skip
    have c4 := bI_0.mp c4
    refine lv_iconst (v := nI 0) hx hb dX12_isGate_27 (by decide) ?_
    exact en_z hx hb hr hlocks (rfl) (by first | exact bI_t ⟨c4, (isIn_g (by omega)).mp c20⟩ | exact bI_f (fun q => c4 q.1) | exact bI_f (fun q => c20 ((isIn_g (by omega)).mpr q.2))) dX12_isGate_28
  · skip
    have c4 := bI_1 c4
    have ep := ix_eq c4 (by omega)
    have hz := ix_lt c4 (by omega)
    have hg9 := hg _ hz
    rw [ep] at hl
    refine lv_iload_n hx hb dX12_isGate_7 rfl (lv_at hl 2 rfl) ?_
    refine lv_iconst (v := nI 0) hx hb dX12_isGate_8 (by decide) ?_
    refine lv_aload_n hx hb dX12_isGate_9 rfl (lv_at hl 0 rfl) ?_
    refine va_get (D := G.1) (ci := 12) (v := .ref (a 98)) (C := RX12) (T := TX12) (N := 23) hx hb hts inX12_isGate_12 hown hK h_o 0 rfl rfl 4 (by decide) (hts (.fieldLink RX12 22 "GateLedgerModel" "many" "[I") (List.mem_of_getElem? (i := 1) (by decide +kernel))) (fun _ h9 => h9) rfl dX12_isGate_10 ?_
    refine lv_iload_n hx hb dX12_isGate_13 rfl (lv_at hl 1 rfl) ?_
    refine pp_iald hx hb hK h_x 4 rfl (vp_in_nI (by omega) (by omega)) dX12_isGate_14 ?_
    refine lv_as (congrArg (MF Ns) (nI_clamp (by omega))) ?_
    refine lv_as (y := nI (nG (Ns (ix p9)))) rfl ?_
    refine lv_iconst (v := nI 1) hx hb dX12_isGate_15 (by decide) ?_
    refine lv_isub hx hb dX12_isGate_16 ?_
    refine ro_i (va_runS (As := [.int g9, .int (nI 0), .int ((nI (nG (Ns (ix p9)))) - (nI 1))]) (rest := []) FX (c_X12_isIn l G g9 (nI 0) ((nI (nG (Ns (ix p9)))) - (nI 1))) (va_cwS 3 hts gX12_isGate_X12_isIn rfl rfl rfl (by decide +kernel) ⟨Nat.le_of_ble_eq_true rfl, Nat.le_of_ble_eq_true rfl⟩) (preS hK hNW trivial) rfl rfl hl.1 rfl (lv_room (Nat.le_of_ble_eq_true rfl)) dX12_isGate_17 ⟨Nat.le_of_ble_eq_true rfl, Nat.le_of_ble_eq_true rfl⟩) ?_
    refine lv_if_eq (tgt := 27) hx hb dX12_isGate_20 (by decide) (fun c20 => ?_) (fun c20 => ?_)
    · skip
      have c20 := bI_0.mp c20
      refine lv_iconst (v := nI 0) hx hb dX12_isGate_27 (by decide) ?_
      exact en_z hx hb hr hlocks (rfl) (by first | exact bI_t ⟨c4, (isIn_g (by omega)).mp c20⟩ | exact bI_f (fun q => c4 q.1) | exact bI_f (fun q => c20 ((isIn_g (by omega)).mpr q.2))) dX12_isGate_28
    · skip
      have c20 := bI_1 c20
      refine lv_iconst (v := nI 1) hx hb dX12_isGate_23 (by decide) ?_
      refine lv_goto (tgt := 28) hx hb dX12_isGate_24 (by decide) ?_
      exact en_z hx hb hr hlocks (rfl) (by first | exact bI_t ⟨c4, (isIn_g (by omega)).mp c20⟩ | exact bI_f (fun q => c4 q.1) | exact bI_f (fun q => c20 ((isIn_g (by omega)).mpr q.2))) dX12_isGate_28
set_option maxRecDepth 20000 in
theorem inX12_adds_12 : ∀ w ∈ u_ws RX12 TX12 23, w ∈ wsX12_adds := by decide +kernel
set_option maxHeartbeats 4000000 in
set_option maxRecDepth 100000 in
/-- adds: c_X12_adds -/
theorem c_X12_adds (l : Launch) (G : GG) (a : Nat → Nat) (ha : Inj a) (cy th : Int32) (Ns : Nat → NT) (z : Nat) (N : NT) (fs sc : FN) (kd f s9 : Nat) (o9 : Int32) (hz : z < 4) (hg : nG N < 120) (hFS : FS (upN Ns z N) fs sc) (hkd : kd < 4) (ho : kd ≠ 3 → o9 = nI s9) (h3 : kd = 3 → s9 = f) : Met l yX12_adds wsX12_adds ({ frames := 0, cells := 0, slots := 0, locals := 0 } : Room) (PcB G [.ref (a 93), .int (nI z), .int (nI kd), .int (nI f), .int o9] (fun H => PP G (modO a cy th) H ∧ PP G (sixW G a (upN Ns z N) fs sc) H)) (QI (fun (r : Int32) (u : FN × FN) => r = nI (nG N) ∧ FS (upN Ns z (addG N kd f s9)) u.1 u.2) (fun u H => PP G (sixW G a (upN Ns z (addG N kd f s9)) u.1 u.2) H) (rng a 94 6)) 0 0 (rng a 94 6) := by
  refine Met.ofW (cc := cX12_adds) (maxL := 6) (ret := (some .int)) (by decide) rfl ?_
  intro p e s m args below meth c s₁ B hml hv
  obtain ⟨rfl, hB, hK, hNW⟩ := hv
  have hx := B.exec
  have hb := B.bytes
  have hr := B.returns
  have hts := atoms_spec (ws := wsX12_adds) B.pre
  have hown : s.vm.findClass RX12 = some m.cls := findClass_of_methodNamed B.named
  have hlocks := B.notSynchronized
  have FX : CallFix p m c cX12_adds 6 s ([.ref (a 93), .int (nI z), .int (nI kd), .int (nI f), .int o9] : List Value).toArray wsX12_adds RX12 := ⟨hx, hb, hml, hown, hts⟩
  have hl := lv_entry ([.ref (a 93), .int (nI z), .int (nI kd), .int (nI f), .int o9]) (n := 6) (Nat.le_of_ble_eq_true rfl)
  rw [lg_entry_eq]
  generalize (lg_sl ([.ref (a 93), .int (nI z), .int (nI kd), .int (nI f), .int o9]) ++ List.replicate (6 - (lg_sl ([.ref (a 93), .int (nI z), .int (nI kd), .int (nI f), .int o9])).length) Slot.unset).toArray = ls at hl ⊢
  have hl : lv_has ls 6 [(0, .ref (a 93)), (1, .int (nI z)), (2, .int (nI kd)), (3, .int (nI f)), (4, .int o9)] := hl
  obtain ⟨h_o, hB⟩ := hB
  have h_kind : PP G (ar1 G a 94 480 (KF (upN Ns z N))) s.heap := P_app1 hB
  have h_first : PP G (ar1 G a 95 480 fs) s.heap := P_app1 (P_app2 hB)
  have h_second : PP G (ar1 G a 96 480 sc) s.heap := P_app1 (P_app2 (P_app2 hB))
  have h_stuck : PP G (ar1 G a 97 480 (TF (upN Ns z N))) s.heap := P_app1 (P_app2 (P_app2 (P_app2 hB)))
  have h_many : PP G (ar1 G a 98 4 (MF (upN Ns z N))) s.heap := P_app1 (P_app2 (P_app2 (P_app2 (P_app2 hB))))
  have h_inputs : PP G (ar1 G a 99 4 (IF (upN Ns z N))) s.heap := P_app2 (P_app2 (P_app2 (P_app2 (P_app2 hB))))
  have hS : va_S (rng a 94 6) s.heap s.heap [] := va_S.rf
  refine lv_bipush (v := nI 120) hx hb dX12_adds_0 (by decide) ?_
  refine lv_iload_n hx hb dX12_adds_2 rfl (lv_at hl 1 rfl) ?_
  refine lv_imul hx hb dX12_adds_3 ?_
  refine lv_as (pk_mul _ _) ?_
  refine lv_aload_n hx hb dX12_adds_4 rfl (lv_at hl 0 rfl) ?_
  refine va_get (D := G.1) (ci := 12) (v := .ref (a 98)) (C := RX12) (T := TX12) (N := 23) hx hb hts inX12_adds_12 hown hK (ro hS h_o (dj_cons (rng_no ha (by omega)) (dj_nil))) 0 rfl rfl 4 (by decide) (hts (.fieldLink RX12 22 "GateLedgerModel" "many" "[I") (List.mem_of_getElem? (i := 1) (by decide +kernel))) (fun _ h9 => h9) rfl dX12_adds_5 ?_
  refine lv_iload_n hx hb dX12_adds_8 rfl (lv_at hl 1 rfl) ?_
  refine pp_iald hx hb hK h_many 0 rfl (vp_in_nI (by omega) (by omega)) dX12_adds_9 ?_
  refine lv_as (congrArg (MF (upN Ns z N)) (nI_clamp (by omega))) ?_
  refine lv_as (y := nI (nG N)) MF_U ?_
  refine lv_iadd hx hb dX12_adds_10 ?_
  refine lv_as (nI_add _ _) ?_
  refine lv_istore (lv' := [(5, .int (nI ((120 * z) + (nG N)))), (0, .ref (a 93)), (1, .int (nI z)), (2, .int (nI kd)), (3, .int (nI f)), (4, .int o9)]) hx hb dX12_adds_11 hl (by decide) rfl (fun ls hl => ?_)
  refine lv_aload_n hx hb dX12_adds_13 rfl (lv_at hl 1 rfl) ?_
  refine va_get (D := G.1) (ci := 12) (v := .ref (a 94)) (C := RX12) (T := TX12) (N := 23) hx hb hts inX12_adds_12 hown hK (ro hS h_o (dj_cons (rng_no ha (by omega)) (dj_nil))) 0 rfl rfl 0 (by decide) (hts (.fieldLink RX12 7 "GateLedgerModel" "kind" "[I") (List.mem_of_getElem? (i := 2) (by decide +kernel))) (fun _ h9 => h9) rfl dX12_adds_14 ?_
  refine lv_iload hx hb dX12_adds_17 (lv_at hl 0 rfl) ?_
  refine lv_iload_n hx hb dX12_adds_19 rfl (lv_at hl 3 rfl) ?_
  refine pp_iast hx hb hK h_kind hS (rng_in (by omega)) (vp_in_nI (by omega) (by omega)) dX12_adds_20 (fun H locs hP9 hk1 _ hS => ?_)
  rw [nI_clamp (by omega)] at hP9
  rw [KF_set (N' := addG N kd f s9) hg rfl] at hP9
  have h_kind : PP G (ar1 G a 94 480 (KF (upN Ns z (addG N kd f s9)))) H := hP9
  have h_first : PP G (ar1 G a 95 480 fs) H := kp hk1 h_first (dj_cons (ne_a ha (by omega)) (dj_nil))
  have h_second : PP G (ar1 G a 96 480 sc) H := kp hk1 h_second (dj_cons (ne_a ha (by omega)) (dj_nil))
  have h_stuck : PP G (ar1 G a 97 480 (TF (upN Ns z N))) H := kp hk1 h_stuck (dj_cons (ne_a ha (by omega)) (dj_nil))
  have h_many : PP G (ar1 G a 98 4 (MF (upN Ns z N))) H := kp hk1 h_many (dj_cons (ne_a ha (by omega)) (dj_nil))
  have h_inputs : PP G (ar1 G a 99 4 (IF (upN Ns z N))) H := kp hk1 h_inputs (dj_cons (ne_a ha (by omega)) (dj_nil))
  refine lv_aload_n hx hb dX12_adds_21 rfl (lv_at hl 1 rfl) ?_
  refine va_get (D := G.1) (ci := 12) (v := .ref (a 95)) (C := RX12) (T := TX12) (N := 23) hx hb hts inX12_adds_12 hown hK (ro hS h_o (dj_cons (rng_no ha (by omega)) (dj_nil))) 0 rfl rfl 1 (by decide) (hts (.fieldLink RX12 13 "GateLedgerModel" "first" "[I") (List.mem_of_getElem? (i := 3) (by decide +kernel))) (fun _ h9 => h9) rfl dX12_adds_22 ?_
  refine lv_iload hx hb dX12_adds_25 (lv_at hl 0 rfl) ?_
  refine lv_iload_n hx hb dX12_adds_27 rfl (lv_at hl 4 rfl) ?_
  refine pp_iast hx hb hK h_first hS (rng_in (by omega)) (vp_in_nI (by omega) (by omega)) dX12_adds_28 (fun H locs hP9 hk2 _ hS => ?_)
  rw [nI_clamp (by omega)] at hP9
  have h_first : PP G (ar1 G a 95 480 (upd fs ((120 * z) + (nG N)) (nI f))) H := hP9
  have h_kind : PP G (ar1 G a 94 480 (KF (upN Ns z (addG N kd f s9)))) H := kp hk2 h_kind (dj_cons (ne_a ha (by omega)) (dj_nil))
  have h_second : PP G (ar1 G a 96 480 sc) H := kp hk2 h_second (dj_cons (ne_a ha (by omega)) (dj_nil))
  have h_stuck : PP G (ar1 G a 97 480 (TF (upN Ns z N))) H := kp hk2 h_stuck (dj_cons (ne_a ha (by omega)) (dj_nil))
  have h_many : PP G (ar1 G a 98 4 (MF (upN Ns z N))) H := kp hk2 h_many (dj_cons (ne_a ha (by omega)) (dj_nil))
  have h_inputs : PP G (ar1 G a 99 4 (IF (upN Ns z N))) H := kp hk2 h_inputs (dj_cons (ne_a ha (by omega)) (dj_nil))
  refine lv_aload_n hx hb dX12_adds_29 rfl (lv_at hl 1 rfl) ?_
  refine va_get (D := G.1) (ci := 12) (v := .ref (a 96)) (C := RX12) (T := TX12) (N := 23) hx hb hts inX12_adds_12 hown hK (ro hS h_o (dj_cons (rng_no ha (by omega)) (dj_nil))) 0 rfl rfl 2 (by decide) (hts (.fieldLink RX12 16 "GateLedgerModel" "second" "[I") (List.mem_of_getElem? (i := 4) (by decide +kernel))) (fun _ h9 => h9) rfl dX12_adds_30 ?_
  refine lv_iload hx hb dX12_adds_33 (lv_at hl 0 rfl) ?_
  refine lv_iload_n hx hb dX12_adds_35 rfl (lv_at hl 3 rfl) ?_
  refine lv_iconst (v := nI 3) hx hb dX12_adds_36 (by decide) ?_
  refine lv_icmp_ne (tgt := 44) hx hb dX12_adds_37 (by decide) (fun c37 => ?_) (fun c37 => ?_)
  · skip
    have c37 := cv_ne (by omega) (by omega) c37
    refine lv_iload hx hb dX12_adds_44 (lv_at hl 5 rfl) ?_
    refine pp_iast hx hb hK h_second hS (rng_in (by omega)) (vp_in_nI (by omega) (by omega)) dX12_adds_46 (fun H locs hP9 hk3 _ hS => ?_)
    rw [nI_clamp (by omega)] at hP9
    have h_second : PP G (ar1 G a 96 480 (upd sc ((120 * z) + (nG N)) o9)) H := hP9
    have h_kind : PP G (ar1 G a 94 480 (KF (upN Ns z (addG N kd f s9)))) H := kp hk3 h_kind (dj_cons (ne_a ha (by omega)) (dj_nil))
    have h_first : PP G (ar1 G a 95 480 (upd fs ((120 * z) + (nG N)) (nI f))) H := kp hk3 h_first (dj_cons (ne_a ha (by omega)) (dj_nil))
    have h_stuck : PP G (ar1 G a 97 480 (TF (upN Ns z N))) H := kp hk3 h_stuck (dj_cons (ne_a ha (by omega)) (dj_nil))
    have h_many : PP G (ar1 G a 98 4 (MF (upN Ns z N))) H := kp hk3 h_many (dj_cons (ne_a ha (by omega)) (dj_nil))
    have h_inputs : PP G (ar1 G a 99 4 (IF (upN Ns z N))) H := kp hk3 h_inputs (dj_cons (ne_a ha (by omega)) (dj_nil))
    refine lv_aload_n hx hb dX12_adds_47 rfl (lv_at hl 1 rfl) ?_
    refine va_get (D := G.1) (ci := 12) (v := .ref (a 97)) (C := RX12) (T := TX12) (N := 23) hx hb hts inX12_adds_12 hown hK (ro hS h_o (dj_cons (rng_no ha (by omega)) (dj_nil))) 0 rfl rfl 3 (by decide) (hts (.fieldLink RX12 19 "GateLedgerModel" "stuck" "[I") (List.mem_of_getElem? (i := 5) (by decide +kernel))) (fun _ h9 => h9) rfl dX12_adds_48 ?_
    refine lv_iload hx hb dX12_adds_51 (lv_at hl 0 rfl) ?_
    refine lv_iconst (v := -1) hx hb dX12_adds_53 (by decide) ?_
    refine pp_iast hx hb hK h_stuck hS (rng_in (by omega)) (vp_in_nI (by omega) (by omega)) dX12_adds_54 (fun H locs hP9 hk4 _ hS => ?_)
    rw [nI_clamp (by omega)] at hP9
    rw [TF_set (N' := addG N kd f s9) hg rfl] at hP9
    have h_stuck : PP G (ar1 G a 97 480 (TF (upN Ns z (addG N kd f s9)))) H := hP9
    have h_kind : PP G (ar1 G a 94 480 (KF (upN Ns z (addG N kd f s9)))) H := kp hk4 h_kind (dj_cons (ne_a ha (by omega)) (dj_nil))
    have h_first : PP G (ar1 G a 95 480 (upd fs ((120 * z) + (nG N)) (nI f))) H := kp hk4 h_first (dj_cons (ne_a ha (by omega)) (dj_nil))
    have h_second : PP G (ar1 G a 96 480 (upd sc ((120 * z) + (nG N)) o9)) H := kp hk4 h_second (dj_cons (ne_a ha (by omega)) (dj_nil))
    have h_many : PP G (ar1 G a 98 4 (MF (upN Ns z N))) H := kp hk4 h_many (dj_cons (ne_a ha (by omega)) (dj_nil))
    have h_inputs : PP G (ar1 G a 99 4 (IF (upN Ns z N))) H := kp hk4 h_inputs (dj_cons (ne_a ha (by omega)) (dj_nil))
    refine lv_aload_n hx hb dX12_adds_55 rfl (lv_at hl 1 rfl) ?_
    refine va_get (D := G.1) (ci := 12) (v := .ref (a 99)) (C := RX12) (T := TX12) (N := 23) hx hb hts inX12_adds_12 hown hK (ro hS h_o (dj_cons (rng_no ha (by omega)) (dj_nil))) 0 rfl rfl 5 (by decide) (hts (.fieldLink RX12 25 "GateLedgerModel" "inputs" "[I") (List.mem_of_getElem? (i := 6) (by decide +kernel))) (fun _ h9 => h9) rfl dX12_adds_56 ?_
    refine lv_iload_n hx hb dX12_adds_59 rfl (lv_at hl 2 rfl) ?_
    refine lv_dup2_11 hx hb dX12_adds_60 rfl rfl ?_
    refine pp_iald hx hb hK h_inputs 0 rfl (vp_in_nI (by omega) (by omega)) dX12_adds_61 ?_
    refine lv_as (congrArg (IF (upN Ns z N)) (nI_clamp (by omega))) ?_
    refine lv_as (y := nI (nIn N)) IF_U ?_
    refine lv_iload_n hx hb dX12_adds_62 rfl (lv_at hl 3 rfl) ?_
    refine lv_iconst (v := nI 4) hx hb dX12_adds_63 (by decide) ?_
    refine lv_icmp_ne (tgt := 71) hx hb dX12_adds_64 (by decide) (fun c64 => ?_) (fun c64 => ?_)
    · skip
      have c64 := cv_ne (by omega) (by omega) c64
      refine lv_iconst (v := nI 0) hx hb dX12_adds_71 (by decide) ?_
      refine lv_iadd hx hb dX12_adds_72 ?_
      refine lv_as (nI_add _ _) ?_
      refine pp_iast hx hb hK h_inputs hS (rng_in (by omega)) (vp_in_nI (by omega) (by omega)) dX12_adds_73 (fun H locs hP9 hk5 _ hS => ?_)
      rw [nI_clamp (by omega)] at hP9
      rw [IF_set (x := nIn N + 0) (N' := addG N kd f s9) rfl] at hP9
      have h_inputs : PP G (ar1 G a 99 4 (IF (upN Ns z (addG N kd f s9)))) H := hP9
      have h_kind : PP G (ar1 G a 94 480 (KF (upN Ns z (addG N kd f s9)))) H := kp hk5 h_kind (dj_cons (ne_a ha (by omega)) (dj_nil))
      have h_first : PP G (ar1 G a 95 480 (upd fs ((120 * z) + (nG N)) (nI f))) H := kp hk5 h_first (dj_cons (ne_a ha (by omega)) (dj_nil))
      have h_second : PP G (ar1 G a 96 480 (upd sc ((120 * z) + (nG N)) o9)) H := kp hk5 h_second (dj_cons (ne_a ha (by omega)) (dj_nil))
      have h_stuck : PP G (ar1 G a 97 480 (TF (upN Ns z (addG N kd f s9)))) H := kp hk5 h_stuck (dj_cons (ne_a ha (by omega)) (dj_nil))
      have h_many : PP G (ar1 G a 98 4 (MF (upN Ns z N))) H := kp hk5 h_many (dj_cons (ne_a ha (by omega)) (dj_nil))
      refine lv_aload_n hx hb dX12_adds_74 rfl (lv_at hl 1 rfl) ?_
      refine va_get (D := G.1) (ci := 12) (v := .ref (a 98)) (C := RX12) (T := TX12) (N := 23) hx hb hts inX12_adds_12 hown hK (ro hS h_o (dj_cons (rng_no ha (by omega)) (dj_nil))) 0 rfl rfl 4 (by decide) (hts (.fieldLink RX12 22 "GateLedgerModel" "many" "[I") (List.mem_of_getElem? (i := 1) (by decide +kernel))) (fun _ h9 => h9) rfl dX12_adds_75 ?_
      refine lv_iload_n hx hb dX12_adds_78 rfl (lv_at hl 2 rfl) ?_
      refine lv_dup2_11 hx hb dX12_adds_79 rfl rfl ?_
      refine pp_iald hx hb hK h_many 0 rfl (vp_in_nI (by omega) (by omega)) dX12_adds_80 ?_
      refine lv_as (congrArg (MF (upN Ns z N)) (nI_clamp (by omega))) ?_
      refine lv_as (y := nI (nG N)) MF_U ?_
      refine lv_iconst (v := nI 1) hx hb dX12_adds_81 (by decide) ?_
      refine lv_iadd hx hb dX12_adds_82 ?_
      refine lv_as (nI_add _ _) ?_
      refine pp_iast hx hb hK h_many hS (rng_in (by omega)) (vp_in_nI (by omega) (by omega)) dX12_adds_83 (fun H locs hP9 hk6 _ hS => ?_)
      rw [nI_clamp (by omega)] at hP9
      rw [MF_set (x := nG N + 1) (N' := addG N kd f s9) rfl] at hP9
      have h_many : PP G (ar1 G a 98 4 (MF (upN Ns z (addG N kd f s9)))) H := hP9
      have h_kind : PP G (ar1 G a 94 480 (KF (upN Ns z (addG N kd f s9)))) H := kp hk6 h_kind (dj_cons (ne_a ha (by omega)) (dj_nil))
      have h_first : PP G (ar1 G a 95 480 (upd fs ((120 * z) + (nG N)) (nI f))) H := kp hk6 h_first (dj_cons (ne_a ha (by omega)) (dj_nil))
      have h_second : PP G (ar1 G a 96 480 (upd sc ((120 * z) + (nG N)) o9)) H := kp hk6 h_second (dj_cons (ne_a ha (by omega)) (dj_nil))
      have h_stuck : PP G (ar1 G a 97 480 (TF (upN Ns z (addG N kd f s9)))) H := kp hk6 h_stuck (dj_cons (ne_a ha (by omega)) (dj_nil))
      have h_inputs : PP G (ar1 G a 99 4 (IF (upN Ns z (addG N kd f s9)))) H := kp hk6 h_inputs (dj_cons (ne_a ha (by omega)) (dj_nil))
      refine lv_aload_n hx hb dX12_adds_84 rfl (lv_at hl 1 rfl) ?_
      refine va_get (D := G.1) (ci := 12) (v := .ref (a 98)) (C := RX12) (T := TX12) (N := 23) hx hb hts inX12_adds_12 hown hK (ro hS h_o (dj_cons (rng_no ha (by omega)) (dj_nil))) 0 rfl rfl 4 (by decide) (hts (.fieldLink RX12 22 "GateLedgerModel" "many" "[I") (List.mem_of_getElem? (i := 1) (by decide +kernel))) (fun _ h9 => h9) rfl dX12_adds_85 ?_
      refine lv_iload_n hx hb dX12_adds_88 rfl (lv_at hl 2 rfl) ?_
      refine pp_iald hx hb hK h_many 0 rfl (vp_in_nI (by omega) (by omega)) dX12_adds_89 ?_
      refine lv_as (congrArg (MF (upN Ns z (addG N kd f s9))) (nI_clamp (by omega))) ?_
      refine lv_as (y := nI (nG N + 1)) MF_U ?_
      refine lv_iconst (v := nI 1) hx hb dX12_adds_90 (by decide) ?_
      refine lv_isub hx hb dX12_adds_91 ?_
      refine lv_as (y := nI (nG N)) (nI_pred (nG N)) ?_
      exact en_wi (upd fs (120 * z + nG N) (nI f), _) hx hb hr hlocks hS (⟨rfl, FS_G hFS hg (by first | exact ho c37 | rw [h3 c37])⟩) (P_app h_kind (P_app h_first (P_app h_second (P_app h_stuck (P_app h_many h_inputs))))) dX12_adds_92
    · skip
      have c64 := cv_eq (by omega) (by omega) c64
      exact absurd c64 (by omega)
  · skip
    have c37 := cv_eq (by omega) (by omega) c37
    refine lv_iload_n hx hb dX12_adds_40 rfl (lv_at hl 4 rfl) ?_
    refine lv_goto (tgt := 46) hx hb dX12_adds_41 (by decide) ?_
    refine pp_iast hx hb hK h_second hS (rng_in (by omega)) (vp_in_nI (by omega) (by omega)) dX12_adds_46 (fun H locs hP9 hk7 _ hS => ?_)
    rw [nI_clamp (by omega)] at hP9
    have h_second : PP G (ar1 G a 96 480 (upd sc ((120 * z) + (nG N)) (nI f))) H := hP9
    have h_kind : PP G (ar1 G a 94 480 (KF (upN Ns z (addG N kd f s9)))) H := kp hk7 h_kind (dj_cons (ne_a ha (by omega)) (dj_nil))
    have h_first : PP G (ar1 G a 95 480 (upd fs ((120 * z) + (nG N)) (nI f))) H := kp hk7 h_first (dj_cons (ne_a ha (by omega)) (dj_nil))
    have h_stuck : PP G (ar1 G a 97 480 (TF (upN Ns z N))) H := kp hk7 h_stuck (dj_cons (ne_a ha (by omega)) (dj_nil))
    have h_many : PP G (ar1 G a 98 4 (MF (upN Ns z N))) H := kp hk7 h_many (dj_cons (ne_a ha (by omega)) (dj_nil))
    have h_inputs : PP G (ar1 G a 99 4 (IF (upN Ns z N))) H := kp hk7 h_inputs (dj_cons (ne_a ha (by omega)) (dj_nil))
    refine lv_aload_n hx hb dX12_adds_47 rfl (lv_at hl 1 rfl) ?_
    refine va_get (D := G.1) (ci := 12) (v := .ref (a 97)) (C := RX12) (T := TX12) (N := 23) hx hb hts inX12_adds_12 hown hK (ro hS h_o (dj_cons (rng_no ha (by omega)) (dj_nil))) 0 rfl rfl 3 (by decide) (hts (.fieldLink RX12 19 "GateLedgerModel" "stuck" "[I") (List.mem_of_getElem? (i := 5) (by decide +kernel))) (fun _ h9 => h9) rfl dX12_adds_48 ?_
    refine lv_iload hx hb dX12_adds_51 (lv_at hl 0 rfl) ?_
    refine lv_iconst (v := -1) hx hb dX12_adds_53 (by decide) ?_
    refine pp_iast hx hb hK h_stuck hS (rng_in (by omega)) (vp_in_nI (by omega) (by omega)) dX12_adds_54 (fun H locs hP9 hk8 _ hS => ?_)
    rw [nI_clamp (by omega)] at hP9
    rw [TF_set (N' := addG N kd f s9) hg rfl] at hP9
    have h_stuck : PP G (ar1 G a 97 480 (TF (upN Ns z (addG N kd f s9)))) H := hP9
    have h_kind : PP G (ar1 G a 94 480 (KF (upN Ns z (addG N kd f s9)))) H := kp hk8 h_kind (dj_cons (ne_a ha (by omega)) (dj_nil))
    have h_first : PP G (ar1 G a 95 480 (upd fs ((120 * z) + (nG N)) (nI f))) H := kp hk8 h_first (dj_cons (ne_a ha (by omega)) (dj_nil))
    have h_second : PP G (ar1 G a 96 480 (upd sc ((120 * z) + (nG N)) (nI f))) H := kp hk8 h_second (dj_cons (ne_a ha (by omega)) (dj_nil))
    have h_many : PP G (ar1 G a 98 4 (MF (upN Ns z N))) H := kp hk8 h_many (dj_cons (ne_a ha (by omega)) (dj_nil))
    have h_inputs : PP G (ar1 G a 99 4 (IF (upN Ns z N))) H := kp hk8 h_inputs (dj_cons (ne_a ha (by omega)) (dj_nil))
    refine lv_aload_n hx hb dX12_adds_55 rfl (lv_at hl 1 rfl) ?_
    refine va_get (D := G.1) (ci := 12) (v := .ref (a 99)) (C := RX12) (T := TX12) (N := 23) hx hb hts inX12_adds_12 hown hK (ro hS h_o (dj_cons (rng_no ha (by omega)) (dj_nil))) 0 rfl rfl 5 (by decide) (hts (.fieldLink RX12 25 "GateLedgerModel" "inputs" "[I") (List.mem_of_getElem? (i := 6) (by decide +kernel))) (fun _ h9 => h9) rfl dX12_adds_56 ?_
    refine lv_iload_n hx hb dX12_adds_59 rfl (lv_at hl 2 rfl) ?_
    refine lv_dup2_11 hx hb dX12_adds_60 rfl rfl ?_
    refine pp_iald hx hb hK h_inputs 0 rfl (vp_in_nI (by omega) (by omega)) dX12_adds_61 ?_
    refine lv_as (congrArg (IF (upN Ns z N)) (nI_clamp (by omega))) ?_
    refine lv_as (y := nI (nIn N)) IF_U ?_
    refine lv_iload_n hx hb dX12_adds_62 rfl (lv_at hl 3 rfl) ?_
    refine lv_iconst (v := nI 4) hx hb dX12_adds_63 (by decide) ?_
    refine lv_icmp_ne (tgt := 71) hx hb dX12_adds_64 (by decide) (fun c64 => ?_) (fun c64 => ?_)
    · skip
      have c64 := cv_ne (by omega) (by omega) c64
      refine lv_iconst (v := nI 0) hx hb dX12_adds_71 (by decide) ?_
      refine lv_iadd hx hb dX12_adds_72 ?_
      refine lv_as (nI_add _ _) ?_
      refine pp_iast hx hb hK h_inputs hS (rng_in (by omega)) (vp_in_nI (by omega) (by omega)) dX12_adds_73 (fun H locs hP9 hk9 _ hS => ?_)
      rw [nI_clamp (by omega)] at hP9
      rw [IF_set (x := nIn N + 0) (N' := addG N kd f s9) rfl] at hP9
      have h_inputs : PP G (ar1 G a 99 4 (IF (upN Ns z (addG N kd f s9)))) H := hP9
      have h_kind : PP G (ar1 G a 94 480 (KF (upN Ns z (addG N kd f s9)))) H := kp hk9 h_kind (dj_cons (ne_a ha (by omega)) (dj_nil))
      have h_first : PP G (ar1 G a 95 480 (upd fs ((120 * z) + (nG N)) (nI f))) H := kp hk9 h_first (dj_cons (ne_a ha (by omega)) (dj_nil))
      have h_second : PP G (ar1 G a 96 480 (upd sc ((120 * z) + (nG N)) (nI f))) H := kp hk9 h_second (dj_cons (ne_a ha (by omega)) (dj_nil))
      have h_stuck : PP G (ar1 G a 97 480 (TF (upN Ns z (addG N kd f s9)))) H := kp hk9 h_stuck (dj_cons (ne_a ha (by omega)) (dj_nil))
      have h_many : PP G (ar1 G a 98 4 (MF (upN Ns z N))) H := kp hk9 h_many (dj_cons (ne_a ha (by omega)) (dj_nil))
      refine lv_aload_n hx hb dX12_adds_74 rfl (lv_at hl 1 rfl) ?_
      refine va_get (D := G.1) (ci := 12) (v := .ref (a 98)) (C := RX12) (T := TX12) (N := 23) hx hb hts inX12_adds_12 hown hK (ro hS h_o (dj_cons (rng_no ha (by omega)) (dj_nil))) 0 rfl rfl 4 (by decide) (hts (.fieldLink RX12 22 "GateLedgerModel" "many" "[I") (List.mem_of_getElem? (i := 1) (by decide +kernel))) (fun _ h9 => h9) rfl dX12_adds_75 ?_
      refine lv_iload_n hx hb dX12_adds_78 rfl (lv_at hl 2 rfl) ?_
      refine lv_dup2_11 hx hb dX12_adds_79 rfl rfl ?_
      refine pp_iald hx hb hK h_many 0 rfl (vp_in_nI (by omega) (by omega)) dX12_adds_80 ?_
      refine lv_as (congrArg (MF (upN Ns z N)) (nI_clamp (by omega))) ?_
      refine lv_as (y := nI (nG N)) MF_U ?_
      refine lv_iconst (v := nI 1) hx hb dX12_adds_81 (by decide) ?_
      refine lv_iadd hx hb dX12_adds_82 ?_
      refine lv_as (nI_add _ _) ?_
      refine pp_iast hx hb hK h_many hS (rng_in (by omega)) (vp_in_nI (by omega) (by omega)) dX12_adds_83 (fun H locs hP9 hk10 _ hS => ?_)
      rw [nI_clamp (by omega)] at hP9
      rw [MF_set (x := nG N + 1) (N' := addG N kd f s9) rfl] at hP9
      have h_many : PP G (ar1 G a 98 4 (MF (upN Ns z (addG N kd f s9)))) H := hP9
      have h_kind : PP G (ar1 G a 94 480 (KF (upN Ns z (addG N kd f s9)))) H := kp hk10 h_kind (dj_cons (ne_a ha (by omega)) (dj_nil))
      have h_first : PP G (ar1 G a 95 480 (upd fs ((120 * z) + (nG N)) (nI f))) H := kp hk10 h_first (dj_cons (ne_a ha (by omega)) (dj_nil))
      have h_second : PP G (ar1 G a 96 480 (upd sc ((120 * z) + (nG N)) (nI f))) H := kp hk10 h_second (dj_cons (ne_a ha (by omega)) (dj_nil))
      have h_stuck : PP G (ar1 G a 97 480 (TF (upN Ns z (addG N kd f s9)))) H := kp hk10 h_stuck (dj_cons (ne_a ha (by omega)) (dj_nil))
      have h_inputs : PP G (ar1 G a 99 4 (IF (upN Ns z (addG N kd f s9)))) H := kp hk10 h_inputs (dj_cons (ne_a ha (by omega)) (dj_nil))
      refine lv_aload_n hx hb dX12_adds_84 rfl (lv_at hl 1 rfl) ?_
      refine va_get (D := G.1) (ci := 12) (v := .ref (a 98)) (C := RX12) (T := TX12) (N := 23) hx hb hts inX12_adds_12 hown hK (ro hS h_o (dj_cons (rng_no ha (by omega)) (dj_nil))) 0 rfl rfl 4 (by decide) (hts (.fieldLink RX12 22 "GateLedgerModel" "many" "[I") (List.mem_of_getElem? (i := 1) (by decide +kernel))) (fun _ h9 => h9) rfl dX12_adds_85 ?_
      refine lv_iload_n hx hb dX12_adds_88 rfl (lv_at hl 2 rfl) ?_
      refine pp_iald hx hb hK h_many 0 rfl (vp_in_nI (by omega) (by omega)) dX12_adds_89 ?_
      refine lv_as (congrArg (MF (upN Ns z (addG N kd f s9))) (nI_clamp (by omega))) ?_
      refine lv_as (y := nI (nG N + 1)) MF_U ?_
      refine lv_iconst (v := nI 1) hx hb dX12_adds_90 (by decide) ?_
      refine lv_isub hx hb dX12_adds_91 ?_
      refine lv_as (y := nI (nG N)) (nI_pred (nG N)) ?_
      exact en_wi (upd fs (120 * z + nG N) (nI f), _) hx hb hr hlocks hS (⟨rfl, FS_G hFS hg (by first | exact ho c37 | rw [h3 c37])⟩) (P_app h_kind (P_app h_first (P_app h_second (P_app h_stuck (P_app h_many h_inputs))))) dX12_adds_92
    · skip
      have c64 := cv_eq (by omega) (by omega) c64
      exact absurd c64 (by omega)
set_option maxHeartbeats 4000000 in
set_option maxRecDepth 100000 in
/-- adds: c_X12_addsI -/
theorem c_X12_addsI (l : Launch) (G : GG) (a : Nat → Nat) (ha : Inj a) (cy th : Int32) (Ns : Nat → NT) (z : Nat) (N : NT) (fs sc : FN)  (hz : z < 4) (hg : nG N < 120) (hFS : FS (upN Ns z N) fs sc)  : Met l yX12_adds wsX12_adds ({ frames := 0, cells := 0, slots := 0, locals := 0 } : Room) (PcB G [.ref (a 93), .int (nI z), .int (nI 4), .int (-1), .int (-1)] (fun H => PP G (modO a cy th) H ∧ PP G (sixW G a (upN Ns z N) fs sc) H)) (QI (fun (r : Int32) (u : FN × FN) => r = nI (nG N) ∧ FS (upN Ns z (addI N)) u.1 u.2) (fun u H => PP G (sixW G a (upN Ns z (addI N)) u.1 u.2) H) (rng a 94 6)) 0 0 (rng a 94 6) := by
  refine Met.ofW (cc := cX12_adds) (maxL := 6) (ret := (some .int)) (by decide) rfl ?_
  intro p e s m args below meth c s₁ B hml hv
  obtain ⟨rfl, hB, hK, hNW⟩ := hv
  have hx := B.exec
  have hb := B.bytes
  have hr := B.returns
  have hts := atoms_spec (ws := wsX12_adds) B.pre
  have hown : s.vm.findClass RX12 = some m.cls := findClass_of_methodNamed B.named
  have hlocks := B.notSynchronized
  have FX : CallFix p m c cX12_adds 6 s ([.ref (a 93), .int (nI z), .int (nI 4), .int (-1), .int (-1)] : List Value).toArray wsX12_adds RX12 := ⟨hx, hb, hml, hown, hts⟩
  have hl := lv_entry ([.ref (a 93), .int (nI z), .int (nI 4), .int (-1), .int (-1)]) (n := 6) (Nat.le_of_ble_eq_true rfl)
  rw [lg_entry_eq]
  generalize (lg_sl ([.ref (a 93), .int (nI z), .int (nI 4), .int (-1), .int (-1)]) ++ List.replicate (6 - (lg_sl ([.ref (a 93), .int (nI z), .int (nI 4), .int (-1), .int (-1)])).length) Slot.unset).toArray = ls at hl ⊢
  have hl : lv_has ls 6 [(0, .ref (a 93)), (1, .int (nI z)), (2, .int (nI 4)), (3, .int (-1)), (4, .int (-1))] := hl
  obtain ⟨h_o, hB⟩ := hB
  have h_kind : PP G (ar1 G a 94 480 (KF (upN Ns z N))) s.heap := P_app1 hB
  have h_first : PP G (ar1 G a 95 480 fs) s.heap := P_app1 (P_app2 hB)
  have h_second : PP G (ar1 G a 96 480 sc) s.heap := P_app1 (P_app2 (P_app2 hB))
  have h_stuck : PP G (ar1 G a 97 480 (TF (upN Ns z N))) s.heap := P_app1 (P_app2 (P_app2 (P_app2 hB)))
  have h_many : PP G (ar1 G a 98 4 (MF (upN Ns z N))) s.heap := P_app1 (P_app2 (P_app2 (P_app2 (P_app2 hB))))
  have h_inputs : PP G (ar1 G a 99 4 (IF (upN Ns z N))) s.heap := P_app2 (P_app2 (P_app2 (P_app2 (P_app2 hB))))
  have hS : va_S (rng a 94 6) s.heap s.heap [] := va_S.rf
  refine lv_bipush (v := nI 120) hx hb dX12_adds_0 (by decide) ?_
  refine lv_iload_n hx hb dX12_adds_2 rfl (lv_at hl 1 rfl) ?_
  refine lv_imul hx hb dX12_adds_3 ?_
  refine lv_as (pk_mul _ _) ?_
  refine lv_aload_n hx hb dX12_adds_4 rfl (lv_at hl 0 rfl) ?_
  refine va_get (D := G.1) (ci := 12) (v := .ref (a 98)) (C := RX12) (T := TX12) (N := 23) hx hb hts inX12_adds_12 hown hK (ro hS h_o (dj_cons (rng_no ha (by omega)) (dj_nil))) 0 rfl rfl 4 (by decide) (hts (.fieldLink RX12 22 "GateLedgerModel" "many" "[I") (List.mem_of_getElem? (i := 1) (by decide +kernel))) (fun _ h9 => h9) rfl dX12_adds_5 ?_
  refine lv_iload_n hx hb dX12_adds_8 rfl (lv_at hl 1 rfl) ?_
  refine pp_iald hx hb hK h_many 0 rfl (vp_in_nI (by omega) (by omega)) dX12_adds_9 ?_
  refine lv_as (congrArg (MF (upN Ns z N)) (nI_clamp (by omega))) ?_
  refine lv_as (y := nI (nG N)) MF_U ?_
  refine lv_iadd hx hb dX12_adds_10 ?_
  refine lv_as (nI_add _ _) ?_
  refine lv_istore (lv' := [(5, .int (nI ((120 * z) + (nG N)))), (0, .ref (a 93)), (1, .int (nI z)), (2, .int (nI 4)), (3, .int (-1)), (4, .int (-1))]) hx hb dX12_adds_11 hl (by decide) rfl (fun ls hl => ?_)
  refine lv_aload_n hx hb dX12_adds_13 rfl (lv_at hl 1 rfl) ?_
  refine va_get (D := G.1) (ci := 12) (v := .ref (a 94)) (C := RX12) (T := TX12) (N := 23) hx hb hts inX12_adds_12 hown hK (ro hS h_o (dj_cons (rng_no ha (by omega)) (dj_nil))) 0 rfl rfl 0 (by decide) (hts (.fieldLink RX12 7 "GateLedgerModel" "kind" "[I") (List.mem_of_getElem? (i := 2) (by decide +kernel))) (fun _ h9 => h9) rfl dX12_adds_14 ?_
  refine lv_iload hx hb dX12_adds_17 (lv_at hl 0 rfl) ?_
  refine lv_iload_n hx hb dX12_adds_19 rfl (lv_at hl 3 rfl) ?_
  refine pp_iast hx hb hK h_kind hS (rng_in (by omega)) (vp_in_nI (by omega) (by omega)) dX12_adds_20 (fun H locs hP9 hk1 _ hS => ?_)
  rw [nI_clamp (by omega)] at hP9
  rw [KF_set (N' := addI N) hg rfl] at hP9
  have h_kind : PP G (ar1 G a 94 480 (KF (upN Ns z (addI N)))) H := hP9
  have h_first : PP G (ar1 G a 95 480 fs) H := kp hk1 h_first (dj_cons (ne_a ha (by omega)) (dj_nil))
  have h_second : PP G (ar1 G a 96 480 sc) H := kp hk1 h_second (dj_cons (ne_a ha (by omega)) (dj_nil))
  have h_stuck : PP G (ar1 G a 97 480 (TF (upN Ns z N))) H := kp hk1 h_stuck (dj_cons (ne_a ha (by omega)) (dj_nil))
  have h_many : PP G (ar1 G a 98 4 (MF (upN Ns z N))) H := kp hk1 h_many (dj_cons (ne_a ha (by omega)) (dj_nil))
  have h_inputs : PP G (ar1 G a 99 4 (IF (upN Ns z N))) H := kp hk1 h_inputs (dj_cons (ne_a ha (by omega)) (dj_nil))
  refine lv_aload_n hx hb dX12_adds_21 rfl (lv_at hl 1 rfl) ?_
  refine va_get (D := G.1) (ci := 12) (v := .ref (a 95)) (C := RX12) (T := TX12) (N := 23) hx hb hts inX12_adds_12 hown hK (ro hS h_o (dj_cons (rng_no ha (by omega)) (dj_nil))) 0 rfl rfl 1 (by decide) (hts (.fieldLink RX12 13 "GateLedgerModel" "first" "[I") (List.mem_of_getElem? (i := 3) (by decide +kernel))) (fun _ h9 => h9) rfl dX12_adds_22 ?_
  refine lv_iload hx hb dX12_adds_25 (lv_at hl 0 rfl) ?_
  refine lv_iload_n hx hb dX12_adds_27 rfl (lv_at hl 4 rfl) ?_
  refine pp_iast hx hb hK h_first hS (rng_in (by omega)) (vp_in_nI (by omega) (by omega)) dX12_adds_28 (fun H locs hP9 hk2 _ hS => ?_)
  rw [nI_clamp (by omega)] at hP9
  have h_first : PP G (ar1 G a 95 480 (upd fs ((120 * z) + (nG N)) (-1))) H := hP9
  have h_kind : PP G (ar1 G a 94 480 (KF (upN Ns z (addI N)))) H := kp hk2 h_kind (dj_cons (ne_a ha (by omega)) (dj_nil))
  have h_second : PP G (ar1 G a 96 480 sc) H := kp hk2 h_second (dj_cons (ne_a ha (by omega)) (dj_nil))
  have h_stuck : PP G (ar1 G a 97 480 (TF (upN Ns z N))) H := kp hk2 h_stuck (dj_cons (ne_a ha (by omega)) (dj_nil))
  have h_many : PP G (ar1 G a 98 4 (MF (upN Ns z N))) H := kp hk2 h_many (dj_cons (ne_a ha (by omega)) (dj_nil))
  have h_inputs : PP G (ar1 G a 99 4 (IF (upN Ns z N))) H := kp hk2 h_inputs (dj_cons (ne_a ha (by omega)) (dj_nil))
  refine lv_aload_n hx hb dX12_adds_29 rfl (lv_at hl 1 rfl) ?_
  refine va_get (D := G.1) (ci := 12) (v := .ref (a 96)) (C := RX12) (T := TX12) (N := 23) hx hb hts inX12_adds_12 hown hK (ro hS h_o (dj_cons (rng_no ha (by omega)) (dj_nil))) 0 rfl rfl 2 (by decide) (hts (.fieldLink RX12 16 "GateLedgerModel" "second" "[I") (List.mem_of_getElem? (i := 4) (by decide +kernel))) (fun _ h9 => h9) rfl dX12_adds_30 ?_
  refine lv_iload hx hb dX12_adds_33 (lv_at hl 0 rfl) ?_
  refine lv_iload_n hx hb dX12_adds_35 rfl (lv_at hl 3 rfl) ?_
  refine lv_iconst (v := nI 3) hx hb dX12_adds_36 (by decide) ?_
  refine lv_icmp_ne (tgt := 44) hx hb dX12_adds_37 (by decide) (fun c37 => ?_) (fun c37 => ?_)
  · skip
    refine lv_iload hx hb dX12_adds_44 (lv_at hl 5 rfl) ?_
    refine pp_iast hx hb hK h_second hS (rng_in (by omega)) (vp_in_nI (by omega) (by omega)) dX12_adds_46 (fun H locs hP9 hk3 _ hS => ?_)
    rw [nI_clamp (by omega)] at hP9
    have h_second : PP G (ar1 G a 96 480 (upd sc ((120 * z) + (nG N)) (-1))) H := hP9
    have h_kind : PP G (ar1 G a 94 480 (KF (upN Ns z (addI N)))) H := kp hk3 h_kind (dj_cons (ne_a ha (by omega)) (dj_nil))
    have h_first : PP G (ar1 G a 95 480 (upd fs ((120 * z) + (nG N)) (-1))) H := kp hk3 h_first (dj_cons (ne_a ha (by omega)) (dj_nil))
    have h_stuck : PP G (ar1 G a 97 480 (TF (upN Ns z N))) H := kp hk3 h_stuck (dj_cons (ne_a ha (by omega)) (dj_nil))
    have h_many : PP G (ar1 G a 98 4 (MF (upN Ns z N))) H := kp hk3 h_many (dj_cons (ne_a ha (by omega)) (dj_nil))
    have h_inputs : PP G (ar1 G a 99 4 (IF (upN Ns z N))) H := kp hk3 h_inputs (dj_cons (ne_a ha (by omega)) (dj_nil))
    refine lv_aload_n hx hb dX12_adds_47 rfl (lv_at hl 1 rfl) ?_
    refine va_get (D := G.1) (ci := 12) (v := .ref (a 97)) (C := RX12) (T := TX12) (N := 23) hx hb hts inX12_adds_12 hown hK (ro hS h_o (dj_cons (rng_no ha (by omega)) (dj_nil))) 0 rfl rfl 3 (by decide) (hts (.fieldLink RX12 19 "GateLedgerModel" "stuck" "[I") (List.mem_of_getElem? (i := 5) (by decide +kernel))) (fun _ h9 => h9) rfl dX12_adds_48 ?_
    refine lv_iload hx hb dX12_adds_51 (lv_at hl 0 rfl) ?_
    refine lv_iconst (v := -1) hx hb dX12_adds_53 (by decide) ?_
    refine pp_iast hx hb hK h_stuck hS (rng_in (by omega)) (vp_in_nI (by omega) (by omega)) dX12_adds_54 (fun H locs hP9 hk4 _ hS => ?_)
    rw [nI_clamp (by omega)] at hP9
    rw [TF_set (N' := addI N) hg rfl] at hP9
    have h_stuck : PP G (ar1 G a 97 480 (TF (upN Ns z (addI N)))) H := hP9
    have h_kind : PP G (ar1 G a 94 480 (KF (upN Ns z (addI N)))) H := kp hk4 h_kind (dj_cons (ne_a ha (by omega)) (dj_nil))
    have h_first : PP G (ar1 G a 95 480 (upd fs ((120 * z) + (nG N)) (-1))) H := kp hk4 h_first (dj_cons (ne_a ha (by omega)) (dj_nil))
    have h_second : PP G (ar1 G a 96 480 (upd sc ((120 * z) + (nG N)) (-1))) H := kp hk4 h_second (dj_cons (ne_a ha (by omega)) (dj_nil))
    have h_many : PP G (ar1 G a 98 4 (MF (upN Ns z N))) H := kp hk4 h_many (dj_cons (ne_a ha (by omega)) (dj_nil))
    have h_inputs : PP G (ar1 G a 99 4 (IF (upN Ns z N))) H := kp hk4 h_inputs (dj_cons (ne_a ha (by omega)) (dj_nil))
    refine lv_aload_n hx hb dX12_adds_55 rfl (lv_at hl 1 rfl) ?_
    refine va_get (D := G.1) (ci := 12) (v := .ref (a 99)) (C := RX12) (T := TX12) (N := 23) hx hb hts inX12_adds_12 hown hK (ro hS h_o (dj_cons (rng_no ha (by omega)) (dj_nil))) 0 rfl rfl 5 (by decide) (hts (.fieldLink RX12 25 "GateLedgerModel" "inputs" "[I") (List.mem_of_getElem? (i := 6) (by decide +kernel))) (fun _ h9 => h9) rfl dX12_adds_56 ?_
    refine lv_iload_n hx hb dX12_adds_59 rfl (lv_at hl 2 rfl) ?_
    refine lv_dup2_11 hx hb dX12_adds_60 rfl rfl ?_
    refine pp_iald hx hb hK h_inputs 0 rfl (vp_in_nI (by omega) (by omega)) dX12_adds_61 ?_
    refine lv_as (congrArg (IF (upN Ns z N)) (nI_clamp (by omega))) ?_
    refine lv_as (y := nI (nIn N)) IF_U ?_
    refine lv_iload_n hx hb dX12_adds_62 rfl (lv_at hl 3 rfl) ?_
    refine lv_iconst (v := nI 4) hx hb dX12_adds_63 (by decide) ?_
    refine lv_icmp_ne (tgt := 71) hx hb dX12_adds_64 (by decide) (fun c64 => ?_) (fun c64 => ?_)
    · exact absurd c64 (by decide)
    · skip
      refine lv_iconst (v := nI 1) hx hb dX12_adds_67 (by decide) ?_
      refine lv_goto (tgt := 72) hx hb dX12_adds_68 (by decide) ?_
      refine lv_iadd hx hb dX12_adds_72 ?_
      refine lv_as (nI_add _ _) ?_
      refine pp_iast hx hb hK h_inputs hS (rng_in (by omega)) (vp_in_nI (by omega) (by omega)) dX12_adds_73 (fun H locs hP9 hk5 _ hS => ?_)
      rw [nI_clamp (by omega)] at hP9
      rw [IF_set (x := nIn N + 1) (N' := addI N) rfl] at hP9
      have h_inputs : PP G (ar1 G a 99 4 (IF (upN Ns z (addI N)))) H := hP9
      have h_kind : PP G (ar1 G a 94 480 (KF (upN Ns z (addI N)))) H := kp hk5 h_kind (dj_cons (ne_a ha (by omega)) (dj_nil))
      have h_first : PP G (ar1 G a 95 480 (upd fs ((120 * z) + (nG N)) (-1))) H := kp hk5 h_first (dj_cons (ne_a ha (by omega)) (dj_nil))
      have h_second : PP G (ar1 G a 96 480 (upd sc ((120 * z) + (nG N)) (-1))) H := kp hk5 h_second (dj_cons (ne_a ha (by omega)) (dj_nil))
      have h_stuck : PP G (ar1 G a 97 480 (TF (upN Ns z (addI N)))) H := kp hk5 h_stuck (dj_cons (ne_a ha (by omega)) (dj_nil))
      have h_many : PP G (ar1 G a 98 4 (MF (upN Ns z N))) H := kp hk5 h_many (dj_cons (ne_a ha (by omega)) (dj_nil))
      refine lv_aload_n hx hb dX12_adds_74 rfl (lv_at hl 1 rfl) ?_
      refine va_get (D := G.1) (ci := 12) (v := .ref (a 98)) (C := RX12) (T := TX12) (N := 23) hx hb hts inX12_adds_12 hown hK (ro hS h_o (dj_cons (rng_no ha (by omega)) (dj_nil))) 0 rfl rfl 4 (by decide) (hts (.fieldLink RX12 22 "GateLedgerModel" "many" "[I") (List.mem_of_getElem? (i := 1) (by decide +kernel))) (fun _ h9 => h9) rfl dX12_adds_75 ?_
      refine lv_iload_n hx hb dX12_adds_78 rfl (lv_at hl 2 rfl) ?_
      refine lv_dup2_11 hx hb dX12_adds_79 rfl rfl ?_
      refine pp_iald hx hb hK h_many 0 rfl (vp_in_nI (by omega) (by omega)) dX12_adds_80 ?_
      refine lv_as (congrArg (MF (upN Ns z N)) (nI_clamp (by omega))) ?_
      refine lv_as (y := nI (nG N)) MF_U ?_
      refine lv_iconst (v := nI 1) hx hb dX12_adds_81 (by decide) ?_
      refine lv_iadd hx hb dX12_adds_82 ?_
      refine lv_as (nI_add _ _) ?_
      refine pp_iast hx hb hK h_many hS (rng_in (by omega)) (vp_in_nI (by omega) (by omega)) dX12_adds_83 (fun H locs hP9 hk6 _ hS => ?_)
      rw [nI_clamp (by omega)] at hP9
      rw [MF_set (x := nG N + 1) (N' := addI N) rfl] at hP9
      have h_many : PP G (ar1 G a 98 4 (MF (upN Ns z (addI N)))) H := hP9
      have h_kind : PP G (ar1 G a 94 480 (KF (upN Ns z (addI N)))) H := kp hk6 h_kind (dj_cons (ne_a ha (by omega)) (dj_nil))
      have h_first : PP G (ar1 G a 95 480 (upd fs ((120 * z) + (nG N)) (-1))) H := kp hk6 h_first (dj_cons (ne_a ha (by omega)) (dj_nil))
      have h_second : PP G (ar1 G a 96 480 (upd sc ((120 * z) + (nG N)) (-1))) H := kp hk6 h_second (dj_cons (ne_a ha (by omega)) (dj_nil))
      have h_stuck : PP G (ar1 G a 97 480 (TF (upN Ns z (addI N)))) H := kp hk6 h_stuck (dj_cons (ne_a ha (by omega)) (dj_nil))
      have h_inputs : PP G (ar1 G a 99 4 (IF (upN Ns z (addI N)))) H := kp hk6 h_inputs (dj_cons (ne_a ha (by omega)) (dj_nil))
      refine lv_aload_n hx hb dX12_adds_84 rfl (lv_at hl 1 rfl) ?_
      refine va_get (D := G.1) (ci := 12) (v := .ref (a 98)) (C := RX12) (T := TX12) (N := 23) hx hb hts inX12_adds_12 hown hK (ro hS h_o (dj_cons (rng_no ha (by omega)) (dj_nil))) 0 rfl rfl 4 (by decide) (hts (.fieldLink RX12 22 "GateLedgerModel" "many" "[I") (List.mem_of_getElem? (i := 1) (by decide +kernel))) (fun _ h9 => h9) rfl dX12_adds_85 ?_
      refine lv_iload_n hx hb dX12_adds_88 rfl (lv_at hl 2 rfl) ?_
      refine pp_iald hx hb hK h_many 0 rfl (vp_in_nI (by omega) (by omega)) dX12_adds_89 ?_
      refine lv_as (congrArg (MF (upN Ns z (addI N))) (nI_clamp (by omega))) ?_
      refine lv_as (y := nI (nG N + 1)) MF_U ?_
      refine lv_iconst (v := nI 1) hx hb dX12_adds_90 (by decide) ?_
      refine lv_isub hx hb dX12_adds_91 ?_
      refine lv_as (y := nI (nG N)) (nI_pred (nG N)) ?_
      exact en_wi (upd fs (120 * z + nG N) (-1), upd sc (120 * z + nG N) (-1)) hx hb hr hlocks hS (⟨rfl, FS_I hFS hg⟩) (P_app h_kind (P_app h_first (P_app h_second (P_app h_stuck (P_app h_many h_inputs))))) dX12_adds_92
  · exact absurd c37 (by decide)
set_option maxRecDepth 20000 in
theorem inX12_addsOut_12 : ∀ w ∈ u_ws RX12 TX12 23, w ∈ wsX12_addsOut := by decide +kernel
set_option maxHeartbeats 4000000 in
set_option maxRecDepth 100000 in
/-- addsOut -/
theorem c_X12_addsOut (l : Launch) (G : GG) (a : Nat → Nat) (ha : Inj a) (cy th : Int32) (Ns : Nat → NT) (z : Nat) (N : NT) (g : Nat) (hz : z < 4) (ho : nO N < 16) : Met l yX12_addsOut wsX12_addsOut ({ frames := 0, cells := 0, slots := 0, locals := 0 } : Room) (PcB G [.ref (a 93), .int (nI z), .int (nI g)] (fun H => PP G (modO a cy th) H ∧ PP G (twoW G a (upN Ns z N)) H)) (QI (fun (r : Int32) (_ : Unit) => r = nI (nO N)) (fun _ H => PP G (twoW G a (upN Ns z (addO N g))) H) (rng a 100 2)) 0 0 (rng a 100 2) := by
  refine Met.ofW (cc := cX12_addsOut) (maxL := 3) (ret := (some .int)) (by decide) rfl ?_
  intro p e s m args below meth c s₁ B hml hv
  obtain ⟨rfl, hB, hK, hNW⟩ := hv
  have hx := B.exec
  have hb := B.bytes
  have hr := B.returns
  have hts := atoms_spec (ws := wsX12_addsOut) B.pre
  have hown : s.vm.findClass RX12 = some m.cls := findClass_of_methodNamed B.named
  have hlocks := B.notSynchronized
  have FX : CallFix p m c cX12_addsOut 3 s ([.ref (a 93), .int (nI z), .int (nI g)] : List Value).toArray wsX12_addsOut RX12 := ⟨hx, hb, hml, hown, hts⟩
  have hl := lv_entry ([.ref (a 93), .int (nI z), .int (nI g)]) (n := 3) (Nat.le_of_ble_eq_true rfl)
  rw [lg_entry_eq]
  generalize (lg_sl ([.ref (a 93), .int (nI z), .int (nI g)]) ++ List.replicate (3 - (lg_sl ([.ref (a 93), .int (nI z), .int (nI g)])).length) Slot.unset).toArray = ls at hl ⊢
  have hl : lv_has ls 3 [(0, .ref (a 93)), (1, .int (nI z)), (2, .int (nI g))] := hl
  obtain ⟨h_o, hB⟩ := hB
  have h_outs : PP G (ar1 G a 100 64 (UF (upN Ns z N))) s.heap := P_app1 hB
  have h_outMany : PP G (ar1 G a 101 4 (OF (upN Ns z N))) s.heap := P_app2 hB
  have hS : va_S (rng a 100 2) s.heap s.heap [] := va_S.rf
  refine lv_aload_n hx hb dX12_addsOut_0 rfl (lv_at hl 0 rfl) ?_
  refine va_get (D := G.1) (ci := 12) (v := .ref (a 100)) (C := RX12) (T := TX12) (N := 23) hx hb hts inX12_addsOut_12 hown hK (ro hS h_o (dj_cons (rng_no ha (by omega)) (dj_nil))) 0 rfl rfl 6 (by decide) (hts (.fieldLink RX12 28 "GateLedgerModel" "outs" "[I") (List.mem_of_getElem? (i := 1) (by decide +kernel))) (fun _ h9 => h9) rfl dX12_addsOut_1 ?_
  refine lv_bipush (v := nI 16) hx hb dX12_addsOut_4 (by decide) ?_
  refine lv_iload_n hx hb dX12_addsOut_6 rfl (lv_at hl 1 rfl) ?_
  refine lv_imul hx hb dX12_addsOut_7 ?_
  refine lv_as (pk_mul _ _) ?_
  refine lv_aload_n hx hb dX12_addsOut_8 rfl (lv_at hl 0 rfl) ?_
  refine va_get (D := G.1) (ci := 12) (v := .ref (a 101)) (C := RX12) (T := TX12) (N := 23) hx hb hts inX12_addsOut_12 hown hK (ro hS h_o (dj_cons (rng_no ha (by omega)) (dj_nil))) 0 rfl rfl 7 (by decide) (hts (.fieldLink RX12 31 "GateLedgerModel" "outMany" "[I") (List.mem_of_getElem? (i := 2) (by decide +kernel))) (fun _ h9 => h9) rfl dX12_addsOut_9 ?_
  refine lv_iload_n hx hb dX12_addsOut_12 rfl (lv_at hl 1 rfl) ?_
  refine pp_iald hx hb hK h_outMany 0 rfl (vp_in_nI (by omega) (by omega)) dX12_addsOut_13 ?_
  refine lv_as (congrArg (OF (upN Ns z N)) (nI_clamp (by omega))) ?_
  refine lv_as (y := nI (nO N)) OF_U ?_
  refine lv_iadd hx hb dX12_addsOut_14 ?_
  refine lv_as (nI_add _ _) ?_
  refine lv_iload_n hx hb dX12_addsOut_15 rfl (lv_at hl 2 rfl) ?_
  refine pp_iast hx hb hK h_outs hS (rng_in (by omega)) (vp_in_nI (by omega) (by omega)) dX12_addsOut_16 (fun H locs hP9 hk1 _ hS => ?_)
  rw [nI_clamp (by omega)] at hP9
  rw [UF_set (N' := addO N g) ho rfl] at hP9
  have h_outs : PP G (ar1 G a 100 64 (UF (upN Ns z (addO N g)))) H := hP9
  have h_outMany : PP G (ar1 G a 101 4 (OF (upN Ns z N))) H := kp hk1 h_outMany (dj_cons (ne_a ha (by omega)) (dj_nil))
  refine lv_aload_n hx hb dX12_addsOut_17 rfl (lv_at hl 0 rfl) ?_
  refine va_get (D := G.1) (ci := 12) (v := .ref (a 101)) (C := RX12) (T := TX12) (N := 23) hx hb hts inX12_addsOut_12 hown hK (ro hS h_o (dj_cons (rng_no ha (by omega)) (dj_nil))) 0 rfl rfl 7 (by decide) (hts (.fieldLink RX12 31 "GateLedgerModel" "outMany" "[I") (List.mem_of_getElem? (i := 2) (by decide +kernel))) (fun _ h9 => h9) rfl dX12_addsOut_18 ?_
  refine lv_iload_n hx hb dX12_addsOut_21 rfl (lv_at hl 1 rfl) ?_
  refine lv_dup2_11 hx hb dX12_addsOut_22 rfl rfl ?_
  refine pp_iald hx hb hK h_outMany 0 rfl (vp_in_nI (by omega) (by omega)) dX12_addsOut_23 ?_
  refine lv_as (congrArg (OF (upN Ns z N)) (nI_clamp (by omega))) ?_
  refine lv_as (y := nI (nO N)) OF_U ?_
  refine lv_iconst (v := nI 1) hx hb dX12_addsOut_24 (by decide) ?_
  refine lv_iadd hx hb dX12_addsOut_25 ?_
  refine lv_as (nI_add _ _) ?_
  refine pp_iast hx hb hK h_outMany hS (rng_in (by omega)) (vp_in_nI (by omega) (by omega)) dX12_addsOut_26 (fun H locs hP9 hk2 _ hS => ?_)
  rw [nI_clamp (by omega)] at hP9
  rw [OF_set (x := nO N + 1) (N' := addO N g) rfl] at hP9
  have h_outMany : PP G (ar1 G a 101 4 (OF (upN Ns z (addO N g)))) H := hP9
  have h_outs : PP G (ar1 G a 100 64 (UF (upN Ns z (addO N g)))) H := kp hk2 h_outs (dj_cons (ne_a ha (by omega)) (dj_nil))
  refine lv_aload_n hx hb dX12_addsOut_27 rfl (lv_at hl 0 rfl) ?_
  refine va_get (D := G.1) (ci := 12) (v := .ref (a 101)) (C := RX12) (T := TX12) (N := 23) hx hb hts inX12_addsOut_12 hown hK (ro hS h_o (dj_cons (rng_no ha (by omega)) (dj_nil))) 0 rfl rfl 7 (by decide) (hts (.fieldLink RX12 31 "GateLedgerModel" "outMany" "[I") (List.mem_of_getElem? (i := 2) (by decide +kernel))) (fun _ h9 => h9) rfl dX12_addsOut_28 ?_
  refine lv_iload_n hx hb dX12_addsOut_31 rfl (lv_at hl 1 rfl) ?_
  refine pp_iald hx hb hK h_outMany 0 rfl (vp_in_nI (by omega) (by omega)) dX12_addsOut_32 ?_
  refine lv_as (congrArg (OF (upN Ns z (addO N g))) (nI_clamp (by omega))) ?_
  refine lv_as (y := nI (nO N + 1)) OF_U ?_
  refine lv_iconst (v := nI 1) hx hb dX12_addsOut_33 (by decide) ?_
  refine lv_isub hx hb dX12_addsOut_34 ?_
  refine lv_as (y := nI (nO N)) (nI_pred (nO N)) ?_
  exact en_wi () hx hb hr hlocks hS (rfl) (P_app h_outs h_outMany) dX12_addsOut_35
