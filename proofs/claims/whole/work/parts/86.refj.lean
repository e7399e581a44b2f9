set_option maxRecDepth 20000 in
theorem inX12_canBeHeld_12 : ∀ w ∈ u_ws RX12 TX12 23, w ∈ wsX12_canBeHeld := by decide +kernel
set_option maxHeartbeats 4000000 in
set_option maxRecDepth 100000 in
/-- canBeHeld -/
theorem c_X12_canBeHeld (l : Launch) (G : GG) (a : Nat → Nat) (cy th : Int32) (Ns : Nat → NT) (z : Nat) (fs sc : FN)  (hz : z < 4) (hN : WF (Ns z)) : Met l yX12_canBeHeld wsX12_canBeHeld ({ frames := 1, cells := 0, slots := 0, locals := 22 } : Room) (PcB G [.ref (a 93), .int (nI z)] (fun H => PP G (modO a cy th) H ∧ PP G (sixW G a Ns fs sc) H)) (vp_Si (fun r => r = bI (2 ≤ nIn (Ns z) ∧ nIn (Ns z) ≤ 12 ∧ nIn (Ns z) % 2 = 0))) 0 0 (fun _ => False) := by
  refine Met.ofW (cc := cX12_canBeHeld) (maxL := 2) (ret := (some .boolean)) (by decide) rfl ?_
  intro p e s m args below meth c s₁ B hml hv
  obtain ⟨rfl, hB, hK, hNW⟩ := hv
  have hx := B.exec
  have hb := B.bytes
  have hr := B.returns
  have hts := atoms_spec (ws := wsX12_canBeHeld) B.pre
  have hown : s.vm.findClass RX12 = some m.cls := findClass_of_methodNamed B.named
  have hlocks := B.notSynchronized
  have FX : CallFix p m c cX12_canBeHeld 2 s ([.ref (a 93), .int (nI z)] : List Value).toArray wsX12_canBeHeld RX12 := ⟨hx, hb, hml, hown, hts⟩
  have hl := lv_entry ([.ref (a 93), .int (nI z)]) (n := 2) (Nat.le_of_ble_eq_true rfl)
  rw [lg_entry_eq]
  generalize (lg_sl ([.ref (a 93), .int (nI z)]) ++ List.replicate (2 - (lg_sl ([.ref (a 93), .int (nI z)])).length) Slot.unset).toArray = ls at hl ⊢
  have hl : lv_has ls 2 [(0, .ref (a 93)), (1, .int (nI z))] := hl
  obtain ⟨h_o, h_x⟩ := hB
  have hg9 := hN.g
  have ho9 := hN.o
  have hi9 := hN.2.1
  refine lv_aload_n hx hb dX12_canBeHeld_0 rfl (lv_at hl 0 rfl) ?_
  refine va_get (D := G.1) (ci := 12) (v := .ref (a 99)) (C := RX12) (T := TX12) (N := 23) hx hb hts inX12_canBeHeld_12 hown hK h_o 0 rfl rfl 5 (by decide) (hts (.fieldLink RX12 25 "GateLedgerModel" "inputs" "[I") (List.mem_of_getElem? (i := 1) (by decide +kernel))) (fun _ h9 => h9) rfl dX12_canBeHeld_1 ?_
  refine lv_iload_n hx hb dX12_canBeHeld_4 rfl (lv_at hl 1 rfl) ?_
  refine pp_iald hx hb hK h_x 5 rfl (vp_in_nI (by omega) (by omega)) dX12_canBeHeld_5 ?_
  refine lv_as (congrArg (IF Ns) (nI_clamp (by omega))) ?_
  refine lv_as (y := nI (nIn (Ns z))) rfl ?_
  refine lv_iconst (v := nI 2) hx hb dX12_canBeHeld_6 (by decide) ?_
  refine lv_bipush (v := nI 12) hx hb dX12_canBeHeld_7 (by decide) ?_
  refine ro_i (va_runS (As := [.int (nI (nIn (Ns z))), .int (nI 2), .int (nI 12)]) (rest := []) FX (c_X12_isIn l G (nI (nIn (Ns z))) (nI 2) (nI 12)) (va_cwS 3 hts gX12_canBeHeld_X12_isIn rfl rfl rfl (by decide +kernel) ⟨Nat.le_of_ble_eq_true rfl, Nat.le_of_ble_eq_true rfl⟩) (preS hK hNW trivial) rfl rfl hl.1 rfl (lv_room (Nat.le_of_ble_eq_true rfl)) dX12_canBeHeld_9 ⟨Nat.le_of_ble_eq_true rfl, Nat.le_of_ble_eq_true rfl⟩) ?_
  refine lv_if_eq (tgt := 30) hx hb dX12_canBeHeld_12 (by decide) (fun c12 => ?_) (fun c12 => ?_)
  · skip
    have c12 := bI_0.mp c12
    have c12 : ¬ (2 ≤ nIn (Ns z) ∧ nIn (Ns z) ≤ 12) := fun q => c12 ⟨fun r => by have := cv_lt (by omega) (by omega) r; omega, (nI_leI (by omega) (by omega)).mpr q.2⟩
    refine lv_iconst (v := nI 0) hx hb dX12_canBeHeld_30 (by decide) ?_
    exact en_z hx hb hr hlocks (rfl) (by first | exact bI_t ⟨by omega, by omega, by omega⟩ | exact bI_f (by omega)) dX12_canBeHeld_31
  · skip
    have c12 := bI_1 c12
    have c12a := cv_nlt (by omega) (by omega) c12.1
    have c12b := cv_le (by omega) (by omega) c12.2
    refine lv_aload_n hx hb dX12_canBeHeld_15 rfl (lv_at hl 0 rfl) ?_
    refine va_get (D := G.1) (ci := 12) (v := .ref (a 99)) (C := RX12) (T := TX12) (N := 23) hx hb hts inX12_canBeHeld_12 hown hK h_o 0 rfl rfl 5 (by decide) (hts (.fieldLink RX12 25 "GateLedgerModel" "inputs" "[I") (List.mem_of_getElem? (i := 1) (by decide +kernel))) (fun _ h9 => h9) rfl dX12_canBeHeld_16 ?_
    refine lv_iload_n hx hb dX12_canBeHeld_19 rfl (lv_at hl 1 rfl) ?_
    refine pp_iald hx hb hK h_x 5 rfl (vp_in_nI (by omega) (by omega)) dX12_canBeHeld_20 ?_
    refine lv_as (congrArg (IF Ns) (nI_clamp (by omega))) ?_
    refine lv_as (y := nI (nIn (Ns z))) rfl ?_
    refine lv_iconst (v := nI 2) hx hb dX12_canBeHeld_21 (by decide) ?_
    refine lv_irem hx hb dX12_canBeHeld_22 (nI_ne0 (by omega) (by omega)) ?_
    refine lv_as (pk_rem (by omega) (by omega) (by omega)) ?_
    refine lv_if_ne (tgt := 30) hx hb dX12_canBeHeld_23 (by decide) (fun c23 => ?_) (fun c23 => ?_)
    · skip
      have c23 := cv_ne (by omega) (by omega) (show ¬ nI ((nIn (Ns z)) % 2) = nI 0 from c23)
      refine lv_iconst (v := nI 0) hx hb dX12_canBeHeld_30 (by decide) ?_
      exact en_z hx hb hr hlocks (rfl) (by first | exact bI_t ⟨by omega, by omega, by omega⟩ | exact bI_f (by omega)) dX12_canBeHeld_31
    · skip
      have c23 := cv_eq (by omega) (by omega) (show nI ((nIn (Ns z)) % 2) = nI 0 from c23)
      refine lv_iconst (v := nI 1) hx hb dX12_canBeHeld_26 (by decide) ?_
      refine lv_goto (tgt := 31) hx hb dX12_canBeHeld_27 (by decide) ?_
      exact en_z hx hb hr hlocks (rfl) (by first | exact bI_t ⟨by omega, by omega, by omega⟩ | exact bI_f (by omega)) dX12_canBeHeld_31
set_option maxRecDepth 20000 in
theorem inX12_due_12 : ∀ w ∈ u_ws RX12 TX12 23, w ∈ wsX12_due := by decide +kernel
set_option maxHeartbeats 4000000 in
set_option maxRecDepth 100000 in
/-- due -/
theorem c_X12_due (l : Launch) (G : GG) (a : Nat → Nat) (cy th : Int32) (Ns : Nat → NT) (z : Nat) (fs sc : FN) (op nn : Nat) (hz : z < 4) (hN : WF (Ns z)) (hop : op < 2) (hnn : nn < 2 ^ 31) : Met l yX12_due wsX12_due ({ frames := 0, cells := 0, slots := 0, locals := 0 } : Room) (PcB G [.ref (a 93), .int (nI z), .int (nI op), .int (nI nn)] (fun H => PP G (modO a cy th) H ∧ PP G (sixW G a Ns fs sc) H)) (vp_Si (fun r => r = nI (dueN op (nIn (Ns z) / 2) nn))) 0 0 (fun _ => False) := by
  refine Met.ofW (cc := cX12_due) (maxL := 7) (ret := (some .int)) (by decide) rfl ?_
  intro p e s m args below meth c s₁ B hml hv
  obtain ⟨rfl, hB, hK, hNW⟩ := hv
  have hx := B.exec
  have hb := B.bytes
  have hr := B.returns
  have hts := atoms_spec (ws := wsX12_due) B.pre
  have hown : s.vm.findClass RX12 = some m.cls := findClass_of_methodNamed B.named
  have hlocks := B.notSynchronized
  have FX : CallFix p m c cX12_due 7 s ([.ref (a 93), .int (nI z), .int (nI op), .int (nI nn)] : List Value).toArray wsX12_due RX12 := ⟨hx, hb, hml, hown, hts⟩
  have hl := lv_entry ([.ref (a 93), .int (nI z), .int (nI op), .int (nI nn)]) (n := 7) (Nat.le_of_ble_eq_true rfl)
  rw [lg_entry_eq]
  generalize (lg_sl ([.ref (a 93), .int (nI z), .int (nI op), .int (nI nn)]) ++ List.replicate (7 - (lg_sl ([.ref (a 93), .int (nI z), .int (nI op), .int (nI nn)])).length) Slot.unset).toArray = ls at hl ⊢
  have hl : lv_has ls 7 [(0, .ref (a 93)), (1, .int (nI z)), (2, .int (nI op)), (3, .int (nI nn))] := hl
  obtain ⟨h_o, h_x⟩ := hB
  have hg9 := hN.g
  have ho9 := hN.o
  have hi9 := hN.2.1
  refine lv_aload_n hx hb dX12_due_0 rfl (lv_at hl 0 rfl) ?_
  refine va_get (D := G.1) (ci := 12) (v := .ref (a 99)) (C := RX12) (T := TX12) (N := 23) hx hb hts inX12_due_12 hown hK h_o 0 rfl rfl 5 (by decide) (hts (.fieldLink RX12 25 "GateLedgerModel" "inputs" "[I") (List.mem_of_getElem? (i := 1) (by decide +kernel))) (fun _ h9 => h9) rfl dX12_due_1 ?_
  refine lv_iload_n hx hb dX12_due_4 rfl (lv_at hl 1 rfl) ?_
  refine pp_iald hx hb hK h_x 5 rfl (vp_in_nI (by omega) (by omega)) dX12_due_5 ?_
  refine lv_as (congrArg (IF Ns) (nI_clamp (by omega))) ?_
  refine lv_as (y := nI (nIn (Ns z))) rfl ?_
  refine lv_iconst (v := nI 2) hx hb dX12_due_6 (by decide) ?_
  refine lv_idiv hx hb dX12_due_7 (nI_ne0 (by omega) (by omega)) ?_
  refine lv_as (pk_div (by omega) (by omega) (by omega)) ?_
  refine lv_istore (lv' := [(4, .int (nI ((nIn (Ns z)) / 2))), (0, .ref (a 93)), (1, .int (nI z)), (2, .int (nI op)), (3, .int (nI nn))]) hx hb dX12_due_8 hl (by decide) rfl (fun ls hl => ?_)
  refine lv_iload_n hx hb dX12_due_10 rfl (lv_at hl 4 rfl) ?_
  refine lv_iconst (v := nI 1) hx hb dX12_due_11 (by decide) ?_
  refine lv_iload hx hb dX12_due_12 (lv_at hl 0 rfl) ?_
  refine lv_ishl hx hb dX12_due_14 ?_
  refine lv_as (y := nI (2 ^ (nIn (Ns z) / 2))) (shl1 (by omega)) ?_
  refine lv_iconst (v := nI 1) hx hb dX12_due_15 (by decide) ?_
  refine lv_isub hx hb dX12_due_16 ?_
  refine lv_iand hx hb dX12_due_17 ?_
  refine lv_as (y := nI (nn % 2 ^ (nIn (Ns z) / 2))) (mskN (by omega) (by omega)) ?_
  refine lv_istore (lv' := [(5, .int (nI (nn % 2 ^ (nIn (Ns z) / 2)))), (4, .int (nI ((nIn (Ns z)) / 2))), (0, .ref (a 93)), (1, .int (nI z)), (2, .int (nI op)), (3, .int (nI nn))]) hx hb dX12_due_18 hl (by decide) rfl (fun ls hl => ?_)
  refine lv_iload_n hx hb dX12_due_20 rfl (lv_at hl 5 rfl) ?_
  refine lv_iload hx hb dX12_due_21 (lv_at hl 1 rfl) ?_
  refine lv_ishr hx hb dX12_due_23 ?_
  refine lv_as (y := nI (nn / 2 ^ (nIn (Ns z) / 2))) (shrN (by omega) (by omega)) ?_
  refine lv_istore (lv' := [(6, .int (nI (nn / 2 ^ (nIn (Ns z) / 2)))), (5, .int (nI (nn % 2 ^ (nIn (Ns z) / 2)))), (4, .int (nI ((nIn (Ns z)) / 2))), (0, .ref (a 93)), (1, .int (nI z)), (2, .int (nI op)), (3, .int (nI nn))]) hx hb dX12_due_24 hl (by decide) rfl (fun ls hl => ?_)
  refine lv_iload_n hx hb dX12_due_26 rfl (lv_at hl 5 rfl) ?_
  refine lv_if_ne (tgt := 38) hx hb dX12_due_27 (by decide) (fun c27 => ?_) (fun c27 => ?_)
  · skip
    have c27 := cv_ne (by omega) (by omega) (show ¬ nI op = nI 0 from c27)
    refine lv_iload hx hb dX12_due_38 (lv_at hl 1 rfl) ?_
    refine lv_iload hx hb dX12_due_40 (lv_at hl 0 rfl) ?_
    refine lv_imul hx hb dX12_due_42 ?_
    refine lv_as (pk_mul _ _) ?_
    exact en_i hx hb hr hlocks (by unfold dueN; first | rw [if_pos c27] | rw [if_neg c27]) dX12_due_43
  · skip
    have c27 := cv_eq (by omega) (by omega) (show nI op = nI 0 from c27)
    refine lv_iload hx hb dX12_due_30 (lv_at hl 1 rfl) ?_
    refine lv_iload hx hb dX12_due_32 (lv_at hl 0 rfl) ?_
    refine lv_iadd hx hb dX12_due_34 ?_
    refine lv_as (nI_add _ _) ?_
    refine lv_goto (tgt := 43) hx hb dX12_due_35 (by decide) ?_
    exact en_i hx hb hr hlocks (by unfold dueN; first | rw [if_pos c27] | rw [if_neg c27]) dX12_due_43
set_option maxRecDepth 20000 in
theorem inX12_off_12 : ∀ w ∈ u_ws RX12 TX12 23, w ∈ wsX12_off := by decide +kernel
set_option maxHeartbeats 4000000 in
set_option maxRecDepth 100000 in
/-- off -/
theorem c_X12_off (l : Launch) (G : GG) (a : Nat → Nat) (ha : Inj a) (cy th : Int32) (Ns : Nat → NT) (fs sc b0 : FN) (p9 op9 w9 : Int32) (hW : ∀ z, z < 4 → WF (Ns z)) (hFS : FS Ns fs sc)  : Met l yX12_off wsX12_off ({ frames := 3, cells := 0, slots := 0, locals := 73 } : Room) (PcB G [.ref (a 93), .int p9, .int op9, .int w9] (fun H => PP G (modO a cy th) H ∧ PP G (sixW G a Ns fs sc) H ∧ PP G (twoW G a Ns) H ∧ PP G (ar1 G a 104 120 b0) H)) (QI (fun (r : Int32) (u : FN) => (cOff Ns p9 op9 w9 = 0 → r = offV (Ns (ix p9)) (ix op9) (ix w9)) ∧ True) (fun u H => PP G (modO a cy (nI (cOff Ns p9 op9 w9))) H ∧ PP G (ar1 G a 104 120 u) H) (orA (rng a 93 1) (rng a 104 1))) 0 0 (orA (rng a 93 1) (rng a 104 1)) := by
  refine Met.ofW (cc := cX12_off) (maxL := 10) (ret := (some .int)) (by decide) rfl ?_
  intro p e s m args below meth c s₁ B hml hv
  obtain ⟨rfl, hB, hK, hNW⟩ := hv
  have hx := B.exec
  have hb := B.bytes
  have hr := B.returns
  have hts := atoms_spec (ws := wsX12_off) B.pre
  have hown : s.vm.findClass RX12 = some m.cls := findClass_of_methodNamed B.named
  have hlocks := B.notSynchronized
  have FX : CallFix p m c cX12_off 10 s ([.ref (a 93), .int p9, .int op9, .int w9] : List Value).toArray wsX12_off RX12 := ⟨hx, hb, hml, hown, hts⟩
  have hl := lv_entry ([.ref (a 93), .int p9, .int op9, .int w9]) (n := 10) (Nat.le_of_ble_eq_true rfl)
  rw [lg_entry_eq]
  generalize (lg_sl ([.ref (a 93), .int p9, .int op9, .int w9]) ++ List.replicate (10 - (lg_sl ([.ref (a 93), .int p9, .int op9, .int w9])).length) Slot.unset).toArray = ls at hl ⊢
  have hl : lv_has ls 10 [(0, .ref (a 93)), (1, .int p9), (2, .int op9), (3, .int w9)] := hl
  obtain ⟨h_o, h_x, h_y, h_bits⟩ := hB
  have hS : va_S (orA (rng a 93 1) (rng a 104 1)) s.heap s.heap [] := va_S.rf
  refine lv_aload_n hx hb dX12_off_0 rfl (lv_at hl 0 rfl) ?_
  refine lv_iload_n hx hb dX12_off_1 rfl (lv_at hl 1 rfl) ?_
  refine ro_i (va_runS (As := [.int p9]) (rest := [.ref (a 93)]) FX (c_X12_isNet l G p9) (va_cwS 1 hts gX12_off_X12_isNet rfl rfl rfl (by decide +kernel) ⟨Nat.le_of_ble_eq_true rfl, Nat.le_of_ble_eq_true rfl⟩) (preS hK hNW trivial) rfl rfl hl.1 rfl (lv_room (Nat.le_of_ble_eq_true rfl)) dX12_off_2 ⟨Nat.le_of_ble_eq_true rfl, Nat.le_of_ble_eq_true rfl⟩) ?_
  refine lv_if_ne (tgt := 12) hx hb dX12_off_5 (by decide) (fun c5 => ?_) (fun c5 => ?_)
  · skip
    have c5 := bI_1 c5
    obtain ⟨z, hz, ez, ep⟩ := inBd_z c5 (by omega)
    rw [ep] at hl
    have hl : lv_has ls 10 [(0, .ref (a 93)), (1, .int (nI z)), (2, .int op9), (3, .int w9)] := hl
    have hN := hW _ hz
    have hg9 := hN.g
    have ho9 := hN.o
    have hi9 := hN.2.1
    refine lv_iload_n hx hb dX12_off_12 rfl (lv_at hl 2 rfl) ?_
    refine ro_i (va_runS (As := [.int op9]) (rest := [.ref (a 93)]) FX (c_X12_isOperation l G op9) (va_cwS 1 hts gX12_off_X12_isOperation rfl rfl rfl (by decide +kernel) ⟨Nat.le_of_ble_eq_true rfl, Nat.le_of_ble_eq_true rfl⟩) (preS hK hNW trivial) rfl rfl hl.1 rfl (lv_room (Nat.le_of_ble_eq_true rfl)) dX12_off_13 ⟨Nat.le_of_ble_eq_true rfl, Nat.le_of_ble_eq_true rfl⟩) ?_
    refine lv_if_eq (tgt := 28) hx hb dX12_off_16 (by decide) (fun c16 => ?_) (fun c16 => ?_)
    · skip
      have c16 := bI_0.mp c16
      refine lv_iconst (v := nI 2) hx hb dX12_off_28 (by decide) ?_
      refine lv_goto (tgt := 45) hx hb dX12_off_29 (by decide) ?_
      refine pp_put (ci := 12) (v := .int (nI 2)) (ty := .int) (C := RX12) (T := TX12) (N := 23) hx hb hts inX12_off_12 tyX12 tyX12_ok nmX12 hown hK h_o hS (Or.inl (rng_in (by omega))) rfl 22 (by decide) (hts (.fieldLink RX12 73 "GateLedgerModel" "thrown" "I") (List.mem_of_getElem? (i := 1) (by decide +kernel))) (fun _ h9 => h9) rfl (by decide +kernel) rfl rfl (Nat.le_of_ble_eq_true rfl) dX12_off_45 (fun H locs hP9 hk1 _ hS => ?_)
      have h_o : PP G (modO a cy (nI 2)) H := hP9
      have h_bits : PP G (ar1 G a 104 120 b0) H := kp hk1 h_bits (dj_cons (ne_a ha (by omega)) (dj_nil))
      refine lv_aload_n hx hb dX12_off_48 rfl (lv_at hl 0 rfl) ?_
      refine va_get (D := G.1) (ci := 12) (v := .int (nI 2)) (C := RX12) (T := TX12) (N := 23) hx hb hts inX12_off_12 hown hK h_o 0 rfl rfl 22 (by decide) (hts (.fieldLink RX12 73 "GateLedgerModel" "thrown" "I") (List.mem_of_getElem? (i := 1) (by decide +kernel))) (fun _ h9 => h9) rfl dX12_off_49 ?_
      refine lv_if_le (tgt := 57) hx hb dX12_off_52 (by decide) (fun c52 => ?_) (fun c52 => ?_)
      · exact absurd c52 (by decide)
      · skip
        refine lv_iconst (v := nI 0) hx hb dX12_off_55 (by decide) ?_
        have e1 : cOff Ns p9 op9 w9 = 2 := (if_pos c5).trans (if_neg c16)
        exact en_wi b0 hx hb hr hlocks hS ⟨fun q => absurd (e1.symm.trans q) (by decide), trivial⟩ (by rw [e1]; exact ⟨h_o, h_bits⟩) dX12_off_56
    · skip
      have c16 := bI_1 c16
      obtain ⟨op, eo, epo, ho1, ho2⟩ := rg_z c16 (by omega) (by omega)
      rw [epo] at hl
      have hl : lv_has ls 10 [(0, .ref (a 93)), (1, .int (nI z)), (2, .int (nI op)), (3, .int w9)] := hl
      refine lv_iload_n hx hb dX12_off_19 rfl (lv_at hl 3 rfl) ?_
      refine lv_iconst (v := nI 0) hx hb dX12_off_20 (by decide) ?_
      refine lv_iconst (v := nI 3) hx hb dX12_off_21 (by decide) ?_
      refine ro_i (va_runS (As := [.int w9, .int (nI 0), .int (nI 3)]) (rest := [.ref (a 93)]) FX (c_X12_isIn l G w9 (nI 0) (nI 3)) (va_cwS 3 hts gX12_off_X12_isIn rfl rfl rfl (by decide +kernel) ⟨Nat.le_of_ble_eq_true rfl, Nat.le_of_ble_eq_true rfl⟩) (preS hK hNW trivial) rfl rfl hl.1 rfl (lv_room (Nat.le_of_ble_eq_true rfl)) dX12_off_22 ⟨Nat.le_of_ble_eq_true rfl, Nat.le_of_ble_eq_true rfl⟩) ?_
      refine lv_if_ne (tgt := 32) hx hb dX12_off_25 (by decide) (fun c25 => ?_) (fun c25 => ?_)
      · skip
        have c25 := bI_1 c25
        obtain ⟨w, ew, epw, hw1, hw2⟩ := rg_z c25 (by omega) (by omega)
        rw [epw] at hl
        have hl : lv_has ls 10 [(0, .ref (a 93)), (1, .int (nI z)), (2, .int (nI op)), (3, .int (nI w))] := hl
        refine lv_aload_n hx hb dX12_off_32 rfl (lv_at hl 0 rfl) ?_
        refine lv_iload_n hx hb dX12_off_33 rfl (lv_at hl 1 rfl) ?_
        refine ro_i (va_runV (As := [.int (nI z)]) (rest := [.ref (a 93)]) FX (c_X12_canBeHeld l G a cy th Ns z fs sc hz hN) (cwV 1 hts gX12_off_X12_canBeHeld rfl rfl rfl (by decide +kernel) ⟨Nat.le_of_ble_eq_true rfl, Nat.le_of_ble_eq_true rfl⟩) (preV hK hNW (⟨h_o, (ro hS h_x (dj_cons (or_no (rng_no ha (by omega)) (rng_no ha (by omega))) (dj_cons (or_no (rng_no ha (by omega)) (rng_no ha (by omega))) (dj_cons (or_no (rng_no ha (by omega)) (rng_no ha (by omega))) (dj_cons (or_no (rng_no ha (by omega)) (rng_no ha (by omega))) (dj_cons (or_no (rng_no ha (by omega)) (rng_no ha (by omega))) (dj_cons (or_no (rng_no ha (by omega)) (rng_no ha (by omega))) (dj_nil))))))))⟩) (va_recv hK h_o (ci := 12) (q0 := 0) rfl rfl)) rfl rfl hl.1 rfl (lv_room (Nat.le_of_ble_eq_true rfl)) dX12_off_34 ⟨Nat.le_of_ble_eq_true rfl, Nat.le_of_ble_eq_true rfl⟩) ?_
        refine lv_if_ne (tgt := 44) hx hb dX12_off_37 (by decide) (fun c37 => ?_) (fun c37 => ?_)
        · skip
          have c37 := bI_1 c37
          have hpw : 2 ^ nIn (Ns z) ≤ 2 ^ 12 := Nat.pow_le_pow_right (by omega) (by omega)
          refine lv_iconst (v := nI 0) hx hb dX12_off_44 (by decide) ?_
          refine pp_put (ci := 12) (v := .int (nI 0)) (ty := .int) (C := RX12) (T := TX12) (N := 23) hx hb hts inX12_off_12 tyX12 tyX12_ok nmX12 hown hK h_o hS (Or.inl (rng_in (by omega))) rfl 22 (by decide) (hts (.fieldLink RX12 73 "GateLedgerModel" "thrown" "I") (List.mem_of_getElem? (i := 1) (by decide +kernel))) (fun _ h9 => h9) rfl (by decide +kernel) rfl rfl (Nat.le_of_ble_eq_true rfl) dX12_off_45 (fun H locs hP9 hk2 _ hS => ?_)
          have h_o : PP G (modO a cy (nI 0)) H := hP9
          have h_bits : PP G (ar1 G a 104 120 b0) H := kp hk2 h_bits (dj_cons (ne_a ha (by omega)) (dj_nil))
          refine lv_aload_n hx hb dX12_off_48 rfl (lv_at hl 0 rfl) ?_
          refine va_get (D := G.1) (ci := 12) (v := .int (nI 0)) (C := RX12) (T := TX12) (N := 23) hx hb hts inX12_off_12 hown hK h_o 0 rfl rfl 22 (by decide) (hts (.fieldLink RX12 73 "GateLedgerModel" "thrown" "I") (List.mem_of_getElem? (i := 1) (by decide +kernel))) (fun _ h9 => h9) rfl dX12_off_49 ?_
          refine lv_if_le (tgt := 57) hx hb dX12_off_52 (by decide) (fun c52 => ?_) (fun c52 => ?_)
          · skip
            refine lv_iconst (v := nI 0) hx hb dX12_off_57 (by decide) ?_
            refine lv_istore (lv' := [(4, .int (nI 0)), (0, .ref (a 93)), (1, .int (nI z)), (2, .int (nI op)), (3, .int (nI w))]) hx hb dX12_off_58 hl (by decide) rfl (fun ls hl => ?_)
            refine lv_iconst (v := nI 0) hx hb dX12_off_60 (by decide) ?_
            refine lv_istore (lv' := [(5, .int (nI 0)), (4, .int (nI 0)), (0, .ref (a 93)), (1, .int (nI z)), (2, .int (nI op)), (3, .int (nI w))]) hx hb dX12_off_61 hl (by decide) rfl (fun ls hl => ?_)
            refine lv_iconst (v := nI 0) hx hb dX12_off_63 (by decide) ?_
            refine lv_istore (lv' := [(6, .int (nI 0)), (5, .int (nI 0)), (4, .int (nI 0)), (0, .ref (a 93)), (1, .int (nI z)), (2, .int (nI op)), (3, .int (nI w))]) hx hb dX12_off_64 hl (by decide) rfl (fun ls hl => ?_)
            refine lv_iconst (v := -1) hx hb dX12_off_66 (by decide) ?_
            refine lv_istore (lv' := [(7, .int (-1)), (6, .int (nI 0)), (5, .int (nI 0)), (4, .int (nI 0)), (0, .ref (a 93)), (1, .int (nI z)), (2, .int (nI op)), (3, .int (nI w))]) hx hb dX12_off_67 hl (by decide) rfl (fun ls hl => ?_)
            refine lv_iconst (v := nI 0) hx hb dX12_off_69 (by decide) ?_
            refine lv_istore (lv' := [(8, .int (nI 0)), (7, .int (-1)), (6, .int (nI 0)), (5, .int (nI 0)), (4, .int (nI 0)), (0, .ref (a 93)), (1, .int (nI z)), (2, .int (nI op)), (3, .int (nI w))]) hx hb dX12_off_70 hl (by decide) rfl (fun ls hl => ?_)
            refine lv_loop2 72 (fun (n : Nat) (b : FN) => 2 ^ nIn (Ns z) - n) (fun (n : Nat) (b : FN) (H : Heap) (locs : List Loc) (ls : Array Slot) => (PP G (modO a cy (nI 0)) H) ∧ (PP G (ar1 G a 104 120 b) H) ∧ (va_S (orA (rng a 93 1) (rng a 104 1)) s.heap H locs) ∧ (lv_has ls 10 [(0, .ref (a 93)), (1, .int (nI z)), (2, .int (nI op)), (3, .int (nI w)), (4, .int (nI (AX (Ns z) op n))), (5, .int (AY (Ns z) op n)), (6, .int (AZ (Ns z) op n)), (7, .int (AV (Ns z) op n)), (8, .int (nI n))]) ∧ (n ≤ 2 ^ nIn (Ns z))) (fun _ _ => []) (fun n b H locs ls hI ih => ?_) 0 b0 ⟨h_o, h_bits, hS, lv_sub hl [5, 6, 7, 8, 4, 3, 2, 1, 0] rfl, Nat.zero_le _⟩ rfl
            obtain ⟨h_o, h_bits, hS, hl, hn⟩ := hI
            have ih3 := @ih
            clear ih
            have hax := AX_le (Ns z) op n
            refine lv_iload hx hb dX12_off_72 (lv_at hl 8 rfl) ?_
            refine lv_iconst (v := nI 1) hx hb dX12_off_74 (by decide) ?_
            refine lv_aload_n hx hb dX12_off_75 rfl (lv_at hl 0 rfl) ?_
            refine va_get (D := G.1) (ci := 12) (v := .ref (a 99)) (C := RX12) (T := TX12) (N := 23) hx hb hts inX12_off_12 hown hK h_o 0 rfl rfl 5 (by decide) (hts (.fieldLink RX12 25 "GateLedgerModel" "inputs" "[I") (List.mem_of_getElem? (i := 2) (by decide +kernel))) (fun _ h9 => h9) rfl dX12_off_76 ?_
            refine lv_iload_n hx hb dX12_off_79 rfl (lv_at hl 1 rfl) ?_
            refine pp_iald hx hb hK (ro hS h_x (dj_cons (or_no (rng_no ha (by omega)) (rng_no ha (by omega))) (dj_cons (or_no (rng_no ha (by omega)) (rng_no ha (by omega))) (dj_cons (or_no (rng_no ha (by omega)) (rng_no ha (by omega))) (dj_cons (or_no (rng_no ha (by omega)) (rng_no ha (by omega))) (dj_cons (or_no (rng_no ha (by omega)) (rng_no ha (by omega))) (dj_cons (or_no (rng_no ha (by omega)) (rng_no ha (by omega))) (dj_nil)))))))) 5 rfl (vp_in_nI (by omega) (by omega)) dX12_off_80 ?_
            refine lv_as (congrArg (IF Ns) (nI_clamp (by omega))) ?_
            refine lv_as (y := nI (nIn (Ns z))) rfl ?_
            refine lv_ishl hx hb dX12_off_81 ?_
            refine lv_as (y := nI (2 ^ nIn (Ns z))) (shl1 (by omega)) ?_
            refine lv_icmp_ge (tgt := 182) hx hb dX12_off_82 (by decide) (fun c82 => ?_) (fun c82 => ?_)
            · skip
              have c82 := cv_le (by omega) (by omega) c82
              refine lv_iload_n hx hb dX12_off_182 rfl (lv_at hl 3 rfl) ?_
              refine lv_if_ne (tgt := 191) hx hb dX12_off_183 (by decide) (fun c183 => ?_) (fun c183 => ?_)
              · skip
                have c183 := cv_ne (by omega) (by omega) (show ¬ nI w = nI 0 from c183)
                refine lv_iload_n hx hb dX12_off_191 rfl (lv_at hl 3 rfl) ?_
                refine lv_iconst (v := nI 1) hx hb dX12_off_192 (by decide) ?_
                refine lv_icmp_ne (tgt := 201) hx hb dX12_off_193 (by decide) (fun c193 => ?_) (fun c193 => ?_)
                · skip
                  have c193 := cv_ne (by omega) (by omega) c193
                  refine lv_iload_n hx hb dX12_off_201 rfl (lv_at hl 3 rfl) ?_
                  refine lv_iconst (v := nI 2) hx hb dX12_off_202 (by decide) ?_
                  refine lv_icmp_ne (tgt := 211) hx hb dX12_off_203 (by decide) (fun c203 => ?_) (fun c203 => ?_)
                  · skip
                    have c203 := cv_ne (by omega) (by omega) c203
                    refine lv_iload hx hb dX12_off_211 (lv_at hl 7 rfl) ?_
                    have e1 : cOff Ns p9 op9 w9 = 0 := (if_pos c5).trans ((if_pos c16).trans ((if_pos c25).trans (if_pos (by rw [ez]; exact c37))))
                    exact en_wi b hx hb hr hlocks hS ⟨fun _ => by rw [ez, eo, ew]; unfold offV; rw [← show n = 2 ^ nIn (Ns z) by omega]; first | rw [if_pos c183] | rw [if_neg c183, if_pos c193] | rw [if_neg c183, if_neg c193, if_pos c203] | rw [if_neg c183, if_neg c193, if_neg c203], trivial⟩ (by rw [e1]; exact ⟨h_o, h_bits⟩) dX12_off_213
                  · skip
                    have c203 := cv_eq (by omega) (by omega) c203
                    refine lv_iload hx hb dX12_off_206 (lv_at hl 6 rfl) ?_
                    refine lv_goto (tgt := 213) hx hb dX12_off_208 (by decide) ?_
                    have e1 : cOff Ns p9 op9 w9 = 0 := (if_pos c5).trans ((if_pos c16).trans ((if_pos c25).trans (if_pos (by rw [ez]; exact c37))))
                    exact en_wi b hx hb hr hlocks hS ⟨fun _ => by rw [ez, eo, ew]; unfold offV; rw [← show n = 2 ^ nIn (Ns z) by omega]; first | rw [if_pos c183] | rw [if_neg c183, if_pos c193] | rw [if_neg c183, if_neg c193, if_pos c203] | rw [if_neg c183, if_neg c193, if_neg c203], trivial⟩ (by rw [e1]; exact ⟨h_o, h_bits⟩) dX12_off_213
                · skip
                  have c193 := cv_eq (by omega) (by omega) c193
                  refine lv_iload hx hb dX12_off_196 (lv_at hl 5 rfl) ?_
                  refine lv_goto (tgt := 213) hx hb dX12_off_198 (by decide) ?_
                  have e1 : cOff Ns p9 op9 w9 = 0 := (if_pos c5).trans ((if_pos c16).trans ((if_pos c25).trans (if_pos (by rw [ez]; exact c37))))
                  exact en_wi b hx hb hr hlocks hS ⟨fun _ => by rw [ez, eo, ew]; unfold offV; rw [← show n = 2 ^ nIn (Ns z) by omega]; first | rw [if_pos c183] | rw [if_neg c183, if_pos c193] | rw [if_neg c183, if_neg c193, if_pos c203] | rw [if_neg c183, if_neg c193, if_neg c203], trivial⟩ (by rw [e1]; exact ⟨h_o, h_bits⟩) dX12_off_213
              · skip
                have c183 := cv_eq (by omega) (by omega) (show nI w = nI 0 from c183)
                refine lv_iload hx hb dX12_off_186 (lv_at hl 4 rfl) ?_
                refine lv_goto (tgt := 213) hx hb dX12_off_188 (by decide) ?_
                have e1 : cOff Ns p9 op9 w9 = 0 := (if_pos c5).trans ((if_pos c16).trans ((if_pos c25).trans (if_pos (by rw [ez]; exact c37))))
                exact en_wi b hx hb hr hlocks hS ⟨fun _ => by rw [ez, eo, ew]; unfold offV; rw [← show n = 2 ^ nIn (Ns z) by omega]; first | rw [if_pos c183] | rw [if_neg c183, if_pos c193] | rw [if_neg c183, if_neg c193, if_pos c203] | rw [if_neg c183, if_neg c193, if_neg c203], trivial⟩ (by rw [e1]; exact ⟨h_o, h_bits⟩) dX12_off_213
            · skip
              have c82 := cv_nle (by omega) (by omega) c82
              refine lv_aload_n hx hb dX12_off_85 rfl (lv_at hl 0 rfl) ?_
              refine lv_iload_n hx hb dX12_off_86 rfl (lv_at hl 1 rfl) ?_
              refine lv_iload hx hb dX12_off_87 (lv_at hl 8 rfl) ?_
              refine wr_i (va_runV (As := [.int (nI z), .int (nI n)]) (rest := []) FX (c_X12_valueOf l G a ha cy (nI 0) Ns z fs sc b n hz hN hFS (by omega)) (cwV 2 hts gX12_off_X12_valueOf rfl rfl rfl (by decide +kernel) ⟨Nat.le_of_ble_eq_true rfl, Nat.le_of_ble_eq_true rfl⟩) (preV hK hNW (⟨h_o, (ro hS h_x (dj_cons (or_no (rng_no ha (by omega)) (rng_no ha (by omega))) (dj_cons (or_no (rng_no ha (by omega)) (rng_no ha (by omega))) (dj_cons (or_no (rng_no ha (by omega)) (rng_no ha (by omega))) (dj_cons (or_no (rng_no ha (by omega)) (rng_no ha (by omega))) (dj_cons (or_no (rng_no ha (by omega)) (rng_no ha (by omega))) (dj_cons (or_no (rng_no ha (by omega)) (rng_no ha (by omega))) (dj_nil)))))))), (ro hS h_y (dj_cons (or_no (rng_no ha (by omega)) (rng_no ha (by omega))) (dj_cons (or_no (rng_no ha (by omega)) (rng_no ha (by omega))) (dj_nil)))), h_bits⟩) (va_recv hK h_o (ci := 12) (q0 := 0) rfl rfl)) rfl rfl hl.1 rfl (lv_room (Nat.le_of_ble_eq_true rfl)) dX12_off_89 ⟨Nat.le_of_ble_eq_true rfl, Nat.le_of_ble_eq_true rfl⟩) hS (fun q h => Or.inr ((rng_sub (by omega)) q h)) (fun rr u4 H locs er5 hP9 hk6 hS => ?_)
              have h_bits : PP G (ar1 G a 104 120 u4) H := hP9
              have h_o : PP G (modO a cy (nI 0)) H := kp hk6 h_o (dj_cons (rng_no ha (by omega)) (dj_nil))
              refine lv_as (y := vl (Ns z) n) er5 ?_
              refine lv_aload_n hx hb dX12_off_92 rfl (lv_at hl 0 rfl) ?_
              refine lv_iload_n hx hb dX12_off_93 rfl (lv_at hl 1 rfl) ?_
              refine lv_iload_n hx hb dX12_off_94 rfl (lv_at hl 2 rfl) ?_
              refine lv_iload hx hb dX12_off_95 (lv_at hl 8 rfl) ?_
              refine ro_i (va_runV (As := [.int (nI z), .int (nI op), .int (nI n)]) (rest := [.int (vl (Ns z) n)]) FX (c_X12_due l G a cy (nI 0) Ns z fs sc op n hz hN (by omega) (by omega)) (cwV 3 hts gX12_off_X12_due rfl rfl rfl (by decide +kernel) ⟨Nat.le_of_ble_eq_true rfl, Nat.le_of_ble_eq_true rfl⟩) (preV hK hNW (⟨h_o, (ro hS h_x (dj_cons (or_no (rng_no ha (by omega)) (rng_no ha (by omega))) (dj_cons (or_no (rng_no ha (by omega)) (rng_no ha (by omega))) (dj_cons (or_no (rng_no ha (by omega)) (rng_no ha (by omega))) (dj_cons (or_no (rng_no ha (by omega)) (rng_no ha (by omega))) (dj_cons (or_no (rng_no ha (by omega)) (rng_no ha (by omega))) (dj_cons (or_no (rng_no ha (by omega)) (rng_no ha (by omega))) (dj_nil))))))))⟩) (va_recv hK h_o (ci := 12) (q0 := 0) rfl rfl)) rfl rfl hl.1 rfl (lv_room (Nat.le_of_ble_eq_true rfl)) dX12_off_97 ⟨Nat.le_of_ble_eq_true rfl, Nat.le_of_ble_eq_true rfl⟩) ?_
              refine lv_isub hx hb dX12_off_100 ?_
              refine lv_istore (lv' := [(9, .int ((vl (Ns z) n) - (nI (dueN op (nIn (Ns z) / 2) n)))), (0, .ref (a 93)), (1, .int (nI z)), (2, .int (nI op)), (3, .int (nI w)), (4, .int (nI (AX (Ns z) op n))), (5, .int (AY (Ns z) op n)), (6, .int (AZ (Ns z) op n)), (7, .int (AV (Ns z) op n)), (8, .int (nI n))]) hx hb dX12_off_101 hl (by decide) rfl (fun ls hl => ?_)
              refine lv_iload hx hb dX12_off_103 (lv_at hl 0 rfl) ?_
              refine lv_if_ge (tgt := 114) hx hb dX12_off_105 (by decide) (fun c105 => ?_) (fun c105 => ?_)
              · skip
                refine lv_iload hx hb dX12_off_114 (lv_at hl 0 rfl) ?_
                refine lv_as (y := gapN (Ns z) op n) (show _ = absI _ from (if_pos c105).symm) ?_
                refine lv_istore (lv' := [(9, .int (gapN (Ns z) op n)), (0, .ref (a 93)), (1, .int (nI z)), (2, .int (nI op)), (3, .int (nI w)), (4, .int (nI (AX (Ns z) op n))), (5, .int (AY (Ns z) op n)), (6, .int (AZ (Ns z) op n)), (7, .int (AV (Ns z) op n)), (8, .int (nI n))]) hx hb dX12_off_116 hl (by decide) rfl (fun ls hl => ?_)
                refine lv_iload hx hb dX12_off_118 (lv_at hl 5 rfl) ?_
                refine lv_iload hx hb dX12_off_120 (lv_at hl 0 rfl) ?_
                refine lv_if_le (tgt := 129) hx hb dX12_off_122 (by decide) (fun c122 => ?_) (fun c122 => ?_)
                · skip
                  have c0 : ¬ 0 < gapN (Ns z) op n := Int32.not_lt.mpr c122
                  refine lv_iconst (v := nI 0) hx hb dX12_off_129 (by decide) ?_
                  refine lv_iadd hx hb dX12_off_130 ?_
                  refine lv_as (nI_add _ _) ?_
                  refine lv_istore (lv' := [(4, .int (nI ((AX (Ns z) op n) + 0))), (9, .int (gapN (Ns z) op n)), (0, .ref (a 93)), (1, .int (nI z)), (2, .int (nI op)), (3, .int (nI w)), (5, .int (AY (Ns z) op n)), (6, .int (AZ (Ns z) op n)), (7, .int (AV (Ns z) op n)), (8, .int (nI n))]) hx hb dX12_off_131 hl (by decide) rfl (fun ls hl => ?_)
                  refine lv_iload hx hb dX12_off_133 (lv_at hl 1 rfl) ?_
                  refine lv_iload hx hb dX12_off_135 (lv_at hl 6 rfl) ?_
                  refine lv_icmp_le (tgt := 145) hx hb dX12_off_137 (by decide) (fun c137 => ?_) (fun c137 => ?_)
                  · skip
                    refine lv_iload hx hb dX12_off_145 (lv_at hl 6 rfl) ?_
                    refine lv_istore (lv' := [(5, .int (AY (Ns z) op n)), (4, .int (nI ((AX (Ns z) op n) + 0))), (9, .int (gapN (Ns z) op n)), (0, .ref (a 93)), (1, .int (nI z)), (2, .int (nI op)), (3, .int (nI w)), (6, .int (AZ (Ns z) op n)), (7, .int (AV (Ns z) op n)), (8, .int (nI n))]) hx hb dX12_off_147 hl (by decide) rfl (fun ls hl => ?_)
                    refine lv_iload hx hb dX12_off_149 (lv_at hl 7 rfl) ?_
                    refine lv_iload hx hb dX12_off_151 (lv_at hl 2 rfl) ?_
                    refine lv_iadd hx hb dX12_off_153 ?_
                    refine lv_istore (lv' := [(6, .int ((AZ (Ns z) op n) + (gapN (Ns z) op n))), (5, .int (AY (Ns z) op n)), (4, .int (nI ((AX (Ns z) op n) + 0))), (9, .int (gapN (Ns z) op n)), (0, .ref (a 93)), (1, .int (nI z)), (2, .int (nI op)), (3, .int (nI w)), (7, .int (AV (Ns z) op n)), (8, .int (nI n))]) hx hb dX12_off_154 hl (by decide) rfl (fun ls hl => ?_)
                    refine lv_iload hx hb dX12_off_156 (lv_at hl 3 rfl) ?_
                    refine lv_if_le (tgt := 172) hx hb dX12_off_158 (by decide) (fun c158 => ?_) (fun c158 => ?_)
                    · skip
                      refine lv_iload hx hb dX12_off_172 (lv_at hl 8 rfl) ?_
                      refine lv_istore (lv' := [(7, .int (AV (Ns z) op n)), (6, .int ((AZ (Ns z) op n) + (gapN (Ns z) op n))), (5, .int (AY (Ns z) op n)), (4, .int (nI ((AX (Ns z) op n) + 0))), (9, .int (gapN (Ns z) op n)), (0, .ref (a 93)), (1, .int (nI z)), (2, .int (nI op)), (3, .int (nI w)), (8, .int (nI n))]) hx hb dX12_off_174 hl (by decide) rfl (fun ls hl => ?_)
                      refine lv_iinc (v := nI (n + 1)) (lv' := [(8, .int (nI (n + 1))), (7, .int (AV (Ns z) op n)), (6, .int ((AZ (Ns z) op n) + (gapN (Ns z) op n))), (5, .int (AY (Ns z) op n)), (4, .int (nI ((AX (Ns z) op n) + 0))), (9, .int (gapN (Ns z) op n)), (0, .ref (a 93)), (1, .int (nI z)), (2, .int (nI op)), (3, .int (nI w))]) hx hb dX12_off_176 hl (k := 9) rfl (by first | exact nI_add _ 1 | decide) (by decide) rfl (fun ls hl => ?_)
                      refine lv_goto (tgt := 72) hx hb dX12_off_179 (by decide) ?_
                      exact ih3 (n + 1) u4 _ _ _ ⟨h_o, h_bits, hS, (by rw [show AX (Ns z) op (n + 1) = AX (Ns z) op n + 0 from congrArg (fun q => AX (Ns z) op n + q) (if_neg c0), show AY (Ns z) op (n + 1) = AY (Ns z) op n from if_neg c0, show AZ (Ns z) op (n + 1) = AZ (Ns z) op n + gapN (Ns z) op n from (if_neg c0).trans (by rw [gap_0 hN (by omega) c0, Int32.add_zero]), show AV (Ns z) op (n + 1) = AV (Ns z) op n from if_neg c0]; exact lv_sub hl [6, 7, 8, 9, 4, 3, 2, 1, 0] rfl), by omega⟩ (by show 2 ^ nIn (Ns z) - (n + 1) < 2 ^ nIn (Ns z) - n; omega)
                    · skip
                      first | exact absurd c158 c122 | exact absurd c122 c158
                  · skip
                    exact absurd (Int32.le_trans c122 (AY_ge n)) c137
                · skip
                  have c0 : 0 < gapN (Ns z) op n := Int32.not_le.mp c122
                  refine lv_iconst (v := nI 1) hx hb dX12_off_125 (by decide) ?_
                  refine lv_goto (tgt := 130) hx hb dX12_off_126 (by decide) ?_
                  refine lv_iadd hx hb dX12_off_130 ?_
                  refine lv_as (nI_add _ _) ?_
                  refine lv_istore (lv' := [(4, .int (nI ((AX (Ns z) op n) + 1))), (9, .int (gapN (Ns z) op n)), (0, .ref (a 93)), (1, .int (nI z)), (2, .int (nI op)), (3, .int (nI w)), (5, .int (AY (Ns z) op n)), (6, .int (AZ (Ns z) op n)), (7, .int (AV (Ns z) op n)), (8, .int (nI n))]) hx hb dX12_off_131 hl (by decide) rfl (fun ls hl => ?_)
                  refine lv_iload hx hb dX12_off_133 (lv_at hl 1 rfl) ?_
                  refine lv_iload hx hb dX12_off_135 (lv_at hl 6 rfl) ?_
                  refine lv_icmp_le (tgt := 145) hx hb dX12_off_137 (by decide) (fun c137 => ?_) (fun c137 => ?_)
                  · skip
                    refine lv_iload hx hb dX12_off_145 (lv_at hl 6 rfl) ?_
                    refine lv_istore (lv' := [(5, .int (AY (Ns z) op n)), (4, .int (nI ((AX (Ns z) op n) + 1))), (9, .int (gapN (Ns z) op n)), (0, .ref (a 93)), (1, .int (nI z)), (2, .int (nI op)), (3, .int (nI w)), (6, .int (AZ (Ns z) op n)), (7, .int (AV (Ns z) op n)), (8, .int (nI n))]) hx hb dX12_off_147 hl (by decide) rfl (fun ls hl => ?_)
                    refine lv_iload hx hb dX12_off_149 (lv_at hl 7 rfl) ?_
                    refine lv_iload hx hb dX12_off_151 (lv_at hl 2 rfl) ?_
                    refine lv_iadd hx hb dX12_off_153 ?_
                    refine lv_istore (lv' := [(6, .int ((AZ (Ns z) op n) + (gapN (Ns z) op n))), (5, .int (AY (Ns z) op n)), (4, .int (nI ((AX (Ns z) op n) + 1))), (9, .int (gapN (Ns z) op n)), (0, .ref (a 93)), (1, .int (nI z)), (2, .int (nI op)), (3, .int (nI w)), (7, .int (AV (Ns z) op n)), (8, .int (nI n))]) hx hb dX12_off_154 hl (by decide) rfl (fun ls hl => ?_)
                    refine lv_iload hx hb dX12_off_156 (lv_at hl 3 rfl) ?_
                    refine lv_if_le (tgt := 172) hx hb dX12_off_158 (by decide) (fun c158 => ?_) (fun c158 => ?_)
                    · skip
                      first | exact absurd c158 c122 | exact absurd c122 c158
                    · skip
                      refine lv_iload hx hb dX12_off_161 (lv_at hl 8 rfl) ?_
                      refine lv_iconst (v := -1) hx hb dX12_off_163 (by decide) ?_
                      refine lv_icmp_ne (tgt := 172) hx hb dX12_off_164 (by decide) (fun c164 => ?_) (fun c164 => ?_)
                      · skip
                        have hx0 : ¬ AX (Ns z) op n = 0 := fun q => c164 ((AV_AX n (by omega)).1 q)
                        refine lv_iload hx hb dX12_off_172 (lv_at hl 8 rfl) ?_
                        refine lv_istore (lv' := [(7, .int (AV (Ns z) op n)), (6, .int ((AZ (Ns z) op n) + (gapN (Ns z) op n))), (5, .int (AY (Ns z) op n)), (4, .int (nI ((AX (Ns z) op n) + 1))), (9, .int (gapN (Ns z) op n)), (0, .ref (a 93)), (1, .int (nI z)), (2, .int (nI op)), (3, .int (nI w)), (8, .int (nI n))]) hx hb dX12_off_174 hl (by decide) rfl (fun ls hl => ?_)
                        refine lv_iinc (v := nI (n + 1)) (lv' := [(8, .int (nI (n + 1))), (7, .int (AV (Ns z) op n)), (6, .int ((AZ (Ns z) op n) + (gapN (Ns z) op n))), (5, .int (AY (Ns z) op n)), (4, .int (nI ((AX (Ns z) op n) + 1))), (9, .int (gapN (Ns z) op n)), (0, .ref (a 93)), (1, .int (nI z)), (2, .int (nI op)), (3, .int (nI w))]) hx hb dX12_off_176 hl (k := 9) rfl (by first | exact nI_add _ 1 | decide) (by decide) rfl (fun ls hl => ?_)
                        refine lv_goto (tgt := 72) hx hb dX12_off_179 (by decide) ?_
                        exact ih3 (n + 1) u4 _ _ _ ⟨h_o, h_bits, hS, (by rw [show AX (Ns z) op (n + 1) = AX (Ns z) op n + 1 from congrArg (fun q => AX (Ns z) op n + q) (if_pos c0), show AY (Ns z) op (n + 1) = _ from (if_pos c0).trans (if_neg (Int32.not_lt.mpr c137)), show AZ (Ns z) op (n + 1) = AZ (Ns z) op n + gapN (Ns z) op n from if_pos c0, show AV (Ns z) op (n + 1) = _ from (if_pos c0).trans (if_neg hx0)]; exact lv_sub hl [6, 7, 8, 9, 4, 3, 2, 1, 0] rfl), by omega⟩ (by show 2 ^ nIn (Ns z) - (n + 1) < 2 ^ nIn (Ns z) - n; omega)
                      · skip
                        have hx0 : AX (Ns z) op n = 0 := Decidable.byContradiction (fun q => (AV_AX n (by omega)).2 q c164)
                        refine lv_iload hx hb dX12_off_167 (lv_at hl 9 rfl) ?_
                        refine lv_goto (tgt := 174) hx hb dX12_off_169 (by decide) ?_
                        refine lv_istore (lv' := [(7, .int (nI n)), (6, .int ((AZ (Ns z) op n) + (gapN (Ns z) op n))), (5, .int (AY (Ns z) op n)), (4, .int (nI ((AX (Ns z) op n) + 1))), (9, .int (gapN (Ns z) op n)), (0, .ref (a 93)), (1, .int (nI z)), (2, .int (nI op)), (3, .int (nI w)), (8, .int (nI n))]) hx hb dX12_off_174 hl (by decide) rfl (fun ls hl => ?_)
                        refine lv_iinc (v := nI (n + 1)) (lv' := [(8, .int (nI (n + 1))), (7, .int (nI n)), (6, .int ((AZ (Ns z) op n) + (gapN (Ns z) op n))), (5, .int (AY (Ns z) op n)), (4, .int (nI ((AX (Ns z) op n) + 1))), (9, .int (gapN (Ns z) op n)), (0, .ref (a 93)), (1, .int (nI z)), (2, .int (nI op)), (3, .int (nI w))]) hx hb dX12_off_176 hl (k := 9) rfl (by first | exact nI_add _ 1 | decide) (by decide) rfl (fun ls hl => ?_)
                        refine lv_goto (tgt := 72) hx hb dX12_off_179 (by decide) ?_
                        exact ih3 (n + 1) u4 _ _ _ ⟨h_o, h_bits, hS, (by rw [show AX (Ns z) op (n + 1) = AX (Ns z) op n + 1 from congrArg (fun q => AX (Ns z) op n + q) (if_pos c0), show AY (Ns z) op (n + 1) = _ from (if_pos c0).trans (if_neg (Int32.not_lt.mpr c137)), show AZ (Ns z) op (n + 1) = AZ (Ns z) op n + gapN (Ns z) op n from if_pos c0, show AV (Ns z) op (n + 1) = _ from (if_pos c0).trans (if_pos hx0)]; exact lv_sub hl [6, 7, 8, 9, 4, 3, 2, 1, 0] rfl), by omega⟩ (by show 2 ^ nIn (Ns z) - (n + 1) < 2 ^ nIn (Ns z) - n; omega)
                  · skip
                    refine lv_iload hx hb dX12_off_140 (lv_at hl 1 rfl) ?_
                    refine lv_goto (tgt := 147) hx hb dX12_off_142 (by decide) ?_
                    refine lv_istore (lv' := [(5, .int (gapN (Ns z) op n)), (4, .int (nI ((AX (Ns z) op n) + 1))), (9, .int (gapN (Ns z) op n)), (0, .ref (a 93)), (1, .int (nI z)), (2, .int (nI op)), (3, .int (nI w)), (6, .int (AZ (Ns z) op n)), (7, .int (AV (Ns z) op n)), (8, .int (nI n))]) hx hb dX12_off_147 hl (by decide) rfl (fun ls hl => ?_)
                    refine lv_iload hx hb dX12_off_149 (lv_at hl 7 rfl) ?_
                    refine lv_iload hx hb dX12_off_151 (lv_at hl 2 rfl) ?_
                    refine lv_iadd hx hb dX12_off_153 ?_
                    refine lv_istore (lv' := [(6, .int ((AZ (Ns z) op n) + (gapN (Ns z) op n))), (5, .int (gapN (Ns z) op n)), (4, .int (nI ((AX (Ns z) op n) + 1))), (9, .int (gapN (Ns z) op n)), (0, .ref (a 93)), (1, .int (nI z)), (2, .int (nI op)), (3, .int (nI w)), (7, .int (AV (Ns z) op n)), (8, .int (nI n))]) hx hb dX12_off_154 hl (by decide) rfl (fun ls hl => ?_)
                    refine lv_iload hx hb dX12_off_156 (lv_at hl 3 rfl) ?_
                    refine lv_if_le (tgt := 172) hx hb dX12_off_158 (by decide) (fun c158 => ?_) (fun c158 => ?_)
                    · skip
                      first | exact absurd c158 c122 | exact absurd c122 c158
                    · skip
                      refine lv_iload hx hb dX12_off_161 (lv_at hl 8 rfl) ?_
                      refine lv_iconst (v := -1) hx hb dX12_off_163 (by decide) ?_
                      refine lv_icmp_ne (tgt := 172) hx hb dX12_off_164 (by decide) (fun c164 => ?_) (fun c164 => ?_)
                      · skip
                        have hx0 : ¬ AX (Ns z) op n = 0 := fun q => c164 ((AV_AX n (by omega)).1 q)
                        refine lv_iload hx hb dX12_off_172 (lv_at hl 8 rfl) ?_
                        refine lv_istore (lv' := [(7, .int (AV (Ns z) op n)), (6, .int ((AZ (Ns z) op n) + (gapN (Ns z) op n))), (5, .int (gapN (Ns z) op n)), (4, .int (nI ((AX (Ns z) op n) + 1))), (9, .int (gapN (Ns z) op n)), (0, .ref (a 93)), (1, .int (nI z)), (2, .int (nI op)), (3, .int (nI w)), (8, .int (nI n))]) hx hb dX12_off_174 hl (by decide) rfl (fun ls hl => ?_)
                        refine lv_iinc (v := nI (n + 1)) (lv' := [(8, .int (nI (n + 1))), (7, .int (AV (Ns z) op n)), (6, .int ((AZ (Ns z) op n) + (gapN (Ns z) op n))), (5, .int (gapN (Ns z) op n)), (4, .int (nI ((AX (Ns z) op n) + 1))), (9, .int (gapN (Ns z) op n)), (0, .ref (a 93)), (1, .int (nI z)), (2, .int (nI op)), (3, .int (nI w))]) hx hb dX12_off_176 hl (k := 9) rfl (by first | exact nI_add _ 1 | decide) (by decide) rfl (fun ls hl => ?_)
                        refine lv_goto (tgt := 72) hx hb dX12_off_179 (by decide) ?_
                        exact ih3 (n + 1) u4 _ _ _ ⟨h_o, h_bits, hS, (by rw [show AX (Ns z) op (n + 1) = AX (Ns z) op n + 1 from congrArg (fun q => AX (Ns z) op n + q) (if_pos c0), show AY (Ns z) op (n + 1) = _ from (if_pos c0).trans (if_pos (Int32.not_le.mp c137)), show AZ (Ns z) op (n + 1) = AZ (Ns z) op n + gapN (Ns z) op n from if_pos c0, show AV (Ns z) op (n + 1) = _ from (if_pos c0).trans (if_neg hx0)]; exact lv_sub hl [6, 7, 8, 9, 4, 3, 2, 1, 0] rfl), by omega⟩ (by show 2 ^ nIn (Ns z) - (n + 1) < 2 ^ nIn (Ns z) - n; omega)
                      · skip
                        have hx0 : AX (Ns z) op n = 0 := Decidable.byContradiction (fun q => (AV_AX n (by omega)).2 q c164)
                        refine lv_iload hx hb dX12_off_167 (lv_at hl 9 rfl) ?_
                        refine lv_goto (tgt := 174) hx hb dX12_off_169 (by decide) ?_
                        refine lv_istore (lv' := [(7, .int (nI n)), (6, .int ((AZ (Ns z) op n) + (gapN (Ns z) op n))), (5, .int (gapN (Ns z) op n)), (4, .int (nI ((AX (Ns z) op n) + 1))), (9, .int (gapN (Ns z) op n)), (0, .ref (a 93)), (1, .int (nI z)), (2, .int (nI op)), (3, .int (nI w)), (8, .int (nI n))]) hx hb dX12_off_174 hl (by decide) rfl (fun ls hl => ?_)
                        refine lv_iinc (v := nI (n + 1)) (lv' := [(8, .int (nI (n + 1))), (7, .int (nI n)), (6, .int ((AZ (Ns z) op n) + (gapN (Ns z) op n))), (5, .int (gapN (Ns z) op n)), (4, .int (nI ((AX (Ns z) op n) + 1))), (9, .int (gapN (Ns z) op n)), (0, .ref (a 93)), (1, .int (nI z)), (2, .int (nI op)), (3, .int (nI w))]) hx hb dX12_off_176 hl (k := 9) rfl (by first | exact nI_add _ 1 | decide) (by decide) rfl (fun ls hl => ?_)
                        refine lv_goto (tgt := 72) hx hb dX12_off_179 (by decide) ?_
                        exact ih3 (n + 1) u4 _ _ _ ⟨h_o, h_bits, hS, (by rw [show AX (Ns z) op (n + 1) = AX (Ns z) op n + 1 from congrArg (fun q => AX (Ns z) op n + q) (if_pos c0), show AY (Ns z) op (n + 1) = _ from (if_pos c0).trans (if_pos (Int32.not_le.mp c137)), show AZ (Ns z) op (n + 1) = AZ (Ns z) op n + gapN (Ns z) op n from if_pos c0, show AV (Ns z) op (n + 1) = _ from (if_pos c0).trans (if_pos hx0)]; exact lv_sub hl [6, 7, 8, 9, 4, 3, 2, 1, 0] rfl), by omega⟩ (by show 2 ^ nIn (Ns z) - (n + 1) < 2 ^ nIn (Ns z) - n; omega)
              · skip
                refine lv_iload hx hb dX12_off_108 (lv_at hl 0 rfl) ?_
                refine lv_ineg hx hb dX12_off_110 ?_
                refine lv_goto (tgt := 116) hx hb dX12_off_111 (by decide) ?_
                refine lv_as (y := gapN (Ns z) op n) (show _ = absI _ from (by unfold absI; rw [if_neg c105]; exact (Int32.zero_sub _).symm)) ?_
                refine lv_istore (lv' := [(9, .int (gapN (Ns z) op n)), (0, .ref (a 93)), (1, .int (nI z)), (2, .int (nI op)), (3, .int (nI w)), (4, .int (nI (AX (Ns z) op n))), (5, .int (AY (Ns z) op n)), (6, .int (AZ (Ns z) op n)), (7, .int (AV (Ns z) op n)), (8, .int (nI n))]) hx hb dX12_off_116 hl (by decide) rfl (fun ls hl => ?_)
                refine lv_iload hx hb dX12_off_118 (lv_at hl 5 rfl) ?_
                refine lv_iload hx hb dX12_off_120 (lv_at hl 0 rfl) ?_
                refine lv_if_le (tgt := 129) hx hb dX12_off_122 (by decide) (fun c122 => ?_) (fun c122 => ?_)
                · skip
                  have c0 : ¬ 0 < gapN (Ns z) op n := Int32.not_lt.mpr c122
                  refine lv_iconst (v := nI 0) hx hb dX12_off_129 (by decide) ?_
                  refine lv_iadd hx hb dX12_off_130 ?_
                  refine lv_as (nI_add _ _) ?_
                  refine lv_istore (lv' := [(4, .int (nI ((AX (Ns z) op n) + 0))), (9, .int (gapN (Ns z) op n)), (0, .ref (a 93)), (1, .int (nI z)), (2, .int (nI op)), (3, .int (nI w)), (5, .int (AY (Ns z) op n)), (6, .int (AZ (Ns z) op n)), (7, .int (AV (Ns z) op n)), (8, .int (nI n))]) hx hb dX12_off_131 hl (by decide) rfl (fun ls hl => ?_)
                  refine lv_iload hx hb dX12_off_133 (lv_at hl 1 rfl) ?_
                  refine lv_iload hx hb dX12_off_135 (lv_at hl 6 rfl) ?_
                  refine lv_icmp_le (tgt := 145) hx hb dX12_off_137 (by decide) (fun c137 => ?_) (fun c137 => ?_)
                  · skip
                    refine lv_iload hx hb dX12_off_145 (lv_at hl 6 rfl) ?_
                    refine lv_istore (lv' := [(5, .int (AY (Ns z) op n)), (4, .int (nI ((AX (Ns z) op n) + 0))), (9, .int (gapN (Ns z) op n)), (0, .ref (a 93)), (1, .int (nI z)), (2, .int (nI op)), (3, .int (nI w)), (6, .int (AZ (Ns z) op n)), (7, .int (AV (Ns z) op n)), (8, .int (nI n))]) hx hb dX12_off_147 hl (by decide) rfl (fun ls hl => ?_)
                    refine lv_iload hx hb dX12_off_149 (lv_at hl 7 rfl) ?_
                    refine lv_iload hx hb dX12_off_151 (lv_at hl 2 rfl) ?_
                    refine lv_iadd hx hb dX12_off_153 ?_
                    refine lv_istore (lv' := [(6, .int ((AZ (Ns z) op n) + (gapN (Ns z) op n))), (5, .int (AY (Ns z) op n)), (4, .int (nI ((AX (Ns z) op n) + 0))), (9, .int (gapN (Ns z) op n)), (0, .ref (a 93)), (1, .int (nI z)), (2, .int (nI op)), (3, .int (nI w)), (7, .int (AV (Ns z) op n)), (8, .int (nI n))]) hx hb dX12_off_154 hl (by decide) rfl (fun ls hl => ?_)
                    refine lv_iload hx hb dX12_off_156 (lv_at hl 3 rfl) ?_
                    refine lv_if_le (tgt := 172) hx hb dX12_off_158 (by decide) (fun c158 => ?_) (fun c158 => ?_)
                    · skip
                      refine lv_iload hx hb dX12_off_172 (lv_at hl 8 rfl) ?_
                      refine lv_istore (lv' := [(7, .int (AV (Ns z) op n)), (6, .int ((AZ (Ns z) op n) + (gapN (Ns z) op n))), (5, .int (AY (Ns z) op n)), (4, .int (nI ((AX (Ns z) op n) + 0))), (9, .int (gapN (Ns z) op n)), (0, .ref (a 93)), (1, .int (nI z)), (2, .int (nI op)), (3, .int (nI w)), (8, .int (nI n))]) hx hb dX12_off_174 hl (by decide) rfl (fun ls hl => ?_)
                      refine lv_iinc (v := nI (n + 1)) (lv' := [(8, .int (nI (n + 1))), (7, .int (AV (Ns z) op n)), (6, .int ((AZ (Ns z) op n) + (gapN (Ns z) op n))), (5, .int (AY (Ns z) op n)), (4, .int (nI ((AX (Ns z) op n) + 0))), (9, .int (gapN (Ns z) op n)), (0, .ref (a 93)), (1, .int (nI z)), (2, .int (nI op)), (3, .int (nI w))]) hx hb dX12_off_176 hl (k := 9) rfl (by first | exact nI_add _ 1 | decide) (by decide) rfl (fun ls hl => ?_)
                      refine lv_goto (tgt := 72) hx hb dX12_off_179 (by decide) ?_
                      exact ih3 (n + 1) u4 _ _ _ ⟨h_o, h_bits, hS, (by rw [show AX (Ns z) op (n + 1) = AX (Ns z) op n + 0 from congrArg (fun q => AX (Ns z) op n + q) (if_neg c0), show AY (Ns z) op (n + 1) = AY (Ns z) op n from if_neg c0, show AZ (Ns z) op (n + 1) = AZ (Ns z) op n + gapN (Ns z) op n from (if_neg c0).trans (by rw [gap_0 hN (by omega) c0, Int32.add_zero]), show AV (Ns z) op (n + 1) = AV (Ns z) op n from if_neg c0]; exact lv_sub hl [6, 7, 8, 9, 4, 3, 2, 1, 0] rfl), by omega⟩ (by show 2 ^ nIn (Ns z) - (n + 1) < 2 ^ nIn (Ns z) - n; omega)
                    · skip
                      first | exact absurd c158 c122 | exact absurd c122 c158
                  · skip
                    exact absurd (Int32.le_trans c122 (AY_ge n)) c137
                · skip
                  have c0 : 0 < gapN (Ns z) op n := Int32.not_le.mp c122
                  refine lv_iconst (v := nI 1) hx hb dX12_off_125 (by decide) ?_
                  refine lv_goto (tgt := 130) hx hb dX12_off_126 (by decide) ?_
                  refine lv_iadd hx hb dX12_off_130 ?_
                  refine lv_as (nI_add _ _) ?_
                  refine lv_istore (lv' := [(4, .int (nI ((AX (Ns z) op n) + 1))), (9, .int (gapN (Ns z) op n)), (0, .ref (a 93)), (1, .int (nI z)), (2, .int (nI op)), (3, .int (nI w)), (5, .int (AY (Ns z) op n)), (6, .int (AZ (Ns z) op n)), (7, .int (AV (Ns z) op n)), (8, .int (nI n))]) hx hb dX12_off_131 hl (by decide) rfl (fun ls hl => ?_)
                  refine lv_iload hx hb dX12_off_133 (lv_at hl 1 rfl) ?_
                  refine lv_iload hx hb dX12_off_135 (lv_at hl 6 rfl) ?_
                  refine lv_icmp_le (tgt := 145) hx hb dX12_off_137 (by decide) (fun c137 => ?_) (fun c137 => ?_)
                  · skip
                    refine lv_iload hx hb dX12_off_145 (lv_at hl 6 rfl) ?_
                    refine lv_istore (lv' := [(5, .int (AY (Ns z) op n)), (4, .int (nI ((AX (Ns z) op n) + 1))), (9, .int (gapN (Ns z) op n)), (0, .ref (a 93)), (1, .int (nI z)), (2, .int (nI op)), (3, .int (nI w)), (6, .int (AZ (Ns z) op n)), (7, .int (AV (Ns z) op n)), (8, .int (nI n))]) hx hb dX12_off_147 hl (by decide) rfl (fun ls hl => ?_)
                    refine lv_iload hx hb dX12_off_149 (lv_at hl 7 rfl) ?_
                    refine lv_iload hx hb dX12_off_151 (lv_at hl 2 rfl) ?_
                    refine lv_iadd hx hb dX12_off_153 ?_
                    refine lv_istore (lv' := [(6, .int ((AZ (Ns z) op n) + (gapN (Ns z) op n))), (5, .int (AY (Ns z) op n)), (4, .int (nI ((AX (Ns z) op n) + 1))), (9, .int (gapN (Ns z) op n)), (0, .ref (a 93)), (1, .int (nI z)), (2, .int (nI op)), (3, .int (nI w)), (7, .int (AV (Ns z) op n)), (8, .int (nI n))]) hx hb dX12_off_154 hl (by decide) rfl (fun ls hl => ?_)
                    refine lv_iload hx hb dX12_off_156 (lv_at hl 3 rfl) ?_
                    refine lv_if_le (tgt := 172) hx hb dX12_off_158 (by decide) (fun c158 => ?_) (fun c158 => ?_)
                    · skip
                      first | exact absurd c158 c122 | exact absurd c122 c158
                    · skip
                      refine lv_iload hx hb dX12_off_161 (lv_at hl 8 rfl) ?_
                      refine lv_iconst (v := -1) hx hb dX12_off_163 (by decide) ?_
                      refine lv_icmp_ne (tgt := 172) hx hb dX12_off_164 (by decide) (fun c164 => ?_) (fun c164 => ?_)
                      · skip
                        have hx0 : ¬ AX (Ns z) op n = 0 := fun q => c164 ((AV_AX n (by omega)).1 q)
                        refine lv_iload hx hb dX12_off_172 (lv_at hl 8 rfl) ?_
                        refine lv_istore (lv' := [(7, .int (AV (Ns z) op n)), (6, .int ((AZ (Ns z) op n) + (gapN (Ns z) op n))), (5, .int (AY (Ns z) op n)), (4, .int (nI ((AX (Ns z) op n) + 1))), (9, .int (gapN (Ns z) op n)), (0, .ref (a 93)), (1, .int (nI z)), (2, .int (nI op)), (3, .int (nI w)), (8, .int (nI n))]) hx hb dX12_off_174 hl (by decide) rfl (fun ls hl => ?_)
                        refine lv_iinc (v := nI (n + 1)) (lv' := [(8, .int (nI (n + 1))), (7, .int (AV (Ns z) op n)), (6, .int ((AZ (Ns z) op n) + (gapN (Ns z) op n))), (5, .int (AY (Ns z) op n)), (4, .int (nI ((AX (Ns z) op n) + 1))), (9, .int (gapN (Ns z) op n)), (0, .ref (a 93)), (1, .int (nI z)), (2, .int (nI op)), (3, .int (nI w))]) hx hb dX12_off_176 hl (k := 9) rfl (by first | exact nI_add _ 1 | decide) (by decide) rfl (fun ls hl => ?_)
                        refine lv_goto (tgt := 72) hx hb dX12_off_179 (by decide) ?_
                        exact ih3 (n + 1) u4 _ _ _ ⟨h_o, h_bits, hS, (by rw [show AX (Ns z) op (n + 1) = AX (Ns z) op n + 1 from congrArg (fun q => AX (Ns z) op n + q) (if_pos c0), show AY (Ns z) op (n + 1) = _ from (if_pos c0).trans (if_neg (Int32.not_lt.mpr c137)), show AZ (Ns z) op (n + 1) = AZ (Ns z) op n + gapN (Ns z) op n from if_pos c0, show AV (Ns z) op (n + 1) = _ from (if_pos c0).trans (if_neg hx0)]; exact lv_sub hl [6, 7, 8, 9, 4, 3, 2, 1, 0] rfl), by omega⟩ (by show 2 ^ nIn (Ns z) - (n + 1) < 2 ^ nIn (Ns z) - n; omega)
                      · skip
                        have hx0 : AX (Ns z) op n = 0 := Decidable.byContradiction (fun q => (AV_AX n (by omega)).2 q c164)
                        refine lv_iload hx hb dX12_off_167 (lv_at hl 9 rfl) ?_
                        refine lv_goto (tgt := 174) hx hb dX12_off_169 (by decide) ?_
                        refine lv_istore (lv' := [(7, .int (nI n)), (6, .int ((AZ (Ns z) op n) + (gapN (Ns z) op n))), (5, .int (AY (Ns z) op n)), (4, .int (nI ((AX (Ns z) op n) + 1))), (9, .int (gapN (Ns z) op n)), (0, .ref (a 93)), (1, .int (nI z)), (2, .int (nI op)), (3, .int (nI w)), (8, .int (nI n))]) hx hb dX12_off_174 hl (by decide) rfl (fun ls hl => ?_)
                        refine lv_iinc (v := nI (n + 1)) (lv' := [(8, .int (nI (n + 1))), (7, .int (nI n)), (6, .int ((AZ (Ns z) op n) + (gapN (Ns z) op n))), (5, .int (AY (Ns z) op n)), (4, .int (nI ((AX (Ns z) op n) + 1))), (9, .int (gapN (Ns z) op n)), (0, .ref (a 93)), (1, .int (nI z)), (2, .int (nI op)), (3, .int (nI w))]) hx hb dX12_off_176 hl (k := 9) rfl (by first | exact nI_add _ 1 | decide) (by decide) rfl (fun ls hl => ?_)
                        refine lv_goto (tgt := 72) hx hb dX12_off_179 (by decide) ?_
                        exact ih3 (n + 1) u4 _ _ _ ⟨h_o, h_bits, hS, (by rw [show AX (Ns z) op (n + 1) = AX (Ns z) op n + 1 from congrArg (fun q => AX (Ns z) op n + q) (if_pos c0), show AY (Ns z) op (n + 1) = _ from (if_pos c0).trans (if_neg (Int32.not_lt.mpr c137)), show AZ (Ns z) op (n + 1) = AZ (Ns z) op n + gapN (Ns z) op n from if_pos c0, show AV (Ns z) op (n + 1) = _ from (if_pos c0).trans (if_pos hx0)]; exact lv_sub hl [6, 7, 8, 9, 4, 3, 2, 1, 0] rfl), by omega⟩ (by show 2 ^ nIn (Ns z) - (n + 1) < 2 ^ nIn (Ns z) - n; omega)
                  · skip
                    refine lv_iload hx hb dX12_off_140 (lv_at hl 1 rfl) ?_
                    refine lv_goto (tgt := 147) hx hb dX12_off_142 (by decide) ?_
                    refine lv_istore (lv' := [(5, .int (gapN (Ns z) op n)), (4, .int (nI ((AX (Ns z) op n) + 1))), (9, .int (gapN (Ns z) op n)), (0, .ref (a 93)), (1, .int (nI z)), (2, .int (nI op)), (3, .int (nI w)), (6, .int (AZ (Ns z) op n)), (7, .int (AV (Ns z) op n)), (8, .int (nI n))]) hx hb dX12_off_147 hl (by decide) rfl (fun ls hl => ?_)
                    refine lv_iload hx hb dX12_off_149 (lv_at hl 7 rfl) ?_
                    refine lv_iload hx hb dX12_off_151 (lv_at hl 2 rfl) ?_
                    refine lv_iadd hx hb dX12_off_153 ?_
                    refine lv_istore (lv' := [(6, .int ((AZ (Ns z) op n) + (gapN (Ns z) op n))), (5, .int (gapN (Ns z) op n)), (4, .int (nI ((AX (Ns z) op n) + 1))), (9, .int (gapN (Ns z) op n)), (0, .ref (a 93)), (1, .int (nI z)), (2, .int (nI op)), (3, .int (nI w)), (7, .int (AV (Ns z) op n)), (8, .int (nI n))]) hx hb dX12_off_154 hl (by decide) rfl (fun ls hl => ?_)
                    refine lv_iload hx hb dX12_off_156 (lv_at hl 3 rfl) ?_
                    refine lv_if_le (tgt := 172) hx hb dX12_off_158 (by decide) (fun c158 => ?_) (fun c158 => ?_)
                    · skip
                      first | exact absurd c158 c122 | exact absurd c122 c158
                    · skip
                      refine lv_iload hx hb dX12_off_161 (lv_at hl 8 rfl) ?_
                      refine lv_iconst (v := -1) hx hb dX12_off_163 (by decide) ?_
                      refine lv_icmp_ne (tgt := 172) hx hb dX12_off_164 (by decide) (fun c164 => ?_) (fun c164 => ?_)
                      · skip
                        have hx0 : ¬ AX (Ns z) op n = 0 := fun q => c164 ((AV_AX n (by omega)).1 q)
                        refine lv_iload hx hb dX12_off_172 (lv_at hl 8 rfl) ?_
                        refine lv_istore (lv' := [(7, .int (AV (Ns z) op n)), (6, .int ((AZ (Ns z) op n) + (gapN (Ns z) op n))), (5, .int (gapN (Ns z) op n)), (4, .int (nI ((AX (Ns z) op n) + 1))), (9, .int (gapN (Ns z) op n)), (0, .ref (a 93)), (1, .int (nI z)), (2, .int (nI op)), (3, .int (nI w)), (8, .int (nI n))]) hx hb dX12_off_174 hl (by decide) rfl (fun ls hl => ?_)
                        refine lv_iinc (v := nI (n + 1)) (lv' := [(8, .int (nI (n + 1))), (7, .int (AV (Ns z) op n)), (6, .int ((AZ (Ns z) op n) + (gapN (Ns z) op n))), (5, .int (gapN (Ns z) op n)), (4, .int (nI ((AX (Ns z) op n) + 1))), (9, .int (gapN (Ns z) op n)), (0, .ref (a 93)), (1, .int (nI z)), (2, .int (nI op)), (3, .int (nI w))]) hx hb dX12_off_176 hl (k := 9) rfl (by first | exact nI_add _ 1 | decide) (by decide) rfl (fun ls hl => ?_)
                        refine lv_goto (tgt := 72) hx hb dX12_off_179 (by decide) ?_
                        exact ih3 (n + 1) u4 _ _ _ ⟨h_o, h_bits, hS, (by rw [show AX (Ns z) op (n + 1) = AX (Ns z) op n + 1 from congrArg (fun q => AX (Ns z) op n + q) (if_pos c0), show AY (Ns z) op (n + 1) = _ from (if_pos c0).trans (if_pos (Int32.not_le.mp c137)), show AZ (Ns z) op (n + 1) = AZ (Ns z) op n + gapN (Ns z) op n from if_pos c0, show AV (Ns z) op (n + 1) = _ from (if_pos c0).trans (if_neg hx0)]; exact lv_sub hl [6, 7, 8, 9, 4, 3, 2, 1, 0] rfl), by omega⟩ (by show 2 ^ nIn (Ns z) - (n + 1) < 2 ^ nIn (Ns z) - n; omega)
                      · skip
                        have hx0 : AX (Ns z) op n = 0 := Decidable.byContradiction (fun q => (AV_AX n (by omega)).2 q c164)
                        refine lv_iload hx hb dX12_off_167 (lv_at hl 9 rfl) ?_
                        refine lv_goto (tgt := 174) hx hb dX12_off_169 (by decide) ?_
                        refine lv_istore (lv' := [(7, .int (nI n)), (6, .int ((AZ (Ns z) op n) + (gapN (Ns z) op n))), (5, .int (gapN (Ns z) op n)), (4, .int (nI ((AX (Ns z) op n) + 1))), (9, .int (gapN (Ns z) op n)), (0, .ref (a 93)), (1, .int (nI z)), (2, .int (nI op)), (3, .int (nI w)), (8, .int (nI n))]) hx hb dX12_off_174 hl (by decide) rfl (fun ls hl => ?_)
                        refine lv_iinc (v := nI (n + 1)) (lv' := [(8, .int (nI (n + 1))), (7, .int (nI n)), (6, .int ((AZ (Ns z) op n) + (gapN (Ns z) op n))), (5, .int (gapN (Ns z) op n)), (4, .int (nI ((AX (Ns z) op n) + 1))), (9, .int (gapN (Ns z) op n)), (0, .ref (a 93)), (1, .int (nI z)), (2, .int (nI op)), (3, .int (nI w))]) hx hb dX12_off_176 hl (k := 9) rfl (by first | exact nI_add _ 1 | decide) (by decide) rfl (fun ls hl => ?_)
                        refine lv_goto (tgt := 72) hx hb dX12_off_179 (by decide) ?_
                        exact ih3 (n + 1) u4 _ _ _ ⟨h_o, h_bits, hS, (by rw [show AX (Ns z) op (n + 1) = AX (Ns z) op n + 1 from congrArg (fun q => AX (Ns z) op n + q) (if_pos c0), show AY (Ns z) op (n + 1) = _ from (if_pos c0).trans (if_pos (Int32.not_le.mp c137)), show AZ (Ns z) op (n + 1) = AZ (Ns z) op n + gapN (Ns z) op n from if_pos c0, show AV (Ns z) op (n + 1) = _ from (if_pos c0).trans (if_pos hx0)]; exact lv_sub hl [6, 7, 8, 9, 4, 3, 2, 1, 0] rfl), by omega⟩ (by show 2 ^ nIn (Ns z) - (n + 1) < 2 ^ nIn (Ns z) - n; omega)
          · exact absurd c52 (by decide)
        · skip
          have c37 := bI_0.mp c37
          refine lv_iconst (v := nI 3) hx hb dX12_off_40 (by decide) ?_
          refine lv_goto (tgt := 45) hx hb dX12_off_41 (by decide) ?_
          refine pp_put (ci := 12) (v := .int (nI 3)) (ty := .int) (C := RX12) (T := TX12) (N := 23) hx hb hts inX12_off_12 tyX12 tyX12_ok nmX12 hown hK h_o hS (Or.inl (rng_in (by omega))) rfl 22 (by decide) (hts (.fieldLink RX12 73 "GateLedgerModel" "thrown" "I") (List.mem_of_getElem? (i := 1) (by decide +kernel))) (fun _ h9 => h9) rfl (by decide +kernel) rfl rfl (Nat.le_of_ble_eq_true rfl) dX12_off_45 (fun H locs hP9 hk8 _ hS => ?_)
          have h_o : PP G (modO a cy (nI 3)) H := hP9
          have h_bits : PP G (ar1 G a 104 120 b0) H := kp hk8 h_bits (dj_cons (ne_a ha (by omega)) (dj_nil))
          refine lv_aload_n hx hb dX12_off_48 rfl (lv_at hl 0 rfl) ?_
          refine va_get (D := G.1) (ci := 12) (v := .int (nI 3)) (C := RX12) (T := TX12) (N := 23) hx hb hts inX12_off_12 hown hK h_o 0 rfl rfl 22 (by decide) (hts (.fieldLink RX12 73 "GateLedgerModel" "thrown" "I") (List.mem_of_getElem? (i := 1) (by decide +kernel))) (fun _ h9 => h9) rfl dX12_off_49 ?_
          refine lv_if_le (tgt := 57) hx hb dX12_off_52 (by decide) (fun c52 => ?_) (fun c52 => ?_)
          · exact absurd c52 (by decide)
          · skip
            refine lv_iconst (v := nI 0) hx hb dX12_off_55 (by decide) ?_
            have e1 : cOff Ns p9 op9 w9 = 3 := (if_pos c5).trans ((if_pos c16).trans ((if_pos c25).trans (if_neg (by rw [ez]; exact c37))))
            exact en_wi b0 hx hb hr hlocks hS ⟨fun q => absurd (e1.symm.trans q) (by decide), trivial⟩ (by rw [e1]; exact ⟨h_o, h_bits⟩) dX12_off_56
      · skip
        have c25 := bI_0.mp c25
        refine lv_iconst (v := nI 2) hx hb dX12_off_28 (by decide) ?_
        refine lv_goto (tgt := 45) hx hb dX12_off_29 (by decide) ?_
        refine pp_put (ci := 12) (v := .int (nI 2)) (ty := .int) (C := RX12) (T := TX12) (N := 23) hx hb hts inX12_off_12 tyX12 tyX12_ok nmX12 hown hK h_o hS (Or.inl (rng_in (by omega))) rfl 22 (by decide) (hts (.fieldLink RX12 73 "GateLedgerModel" "thrown" "I") (List.mem_of_getElem? (i := 1) (by decide +kernel))) (fun _ h9 => h9) rfl (by decide +kernel) rfl rfl (Nat.le_of_ble_eq_true rfl) dX12_off_45 (fun H locs hP9 hk9 _ hS => ?_)
        have h_o : PP G (modO a cy (nI 2)) H := hP9
        have h_bits : PP G (ar1 G a 104 120 b0) H := kp hk9 h_bits (dj_cons (ne_a ha (by omega)) (dj_nil))
        refine lv_aload_n hx hb dX12_off_48 rfl (lv_at hl 0 rfl) ?_
        refine va_get (D := G.1) (ci := 12) (v := .int (nI 2)) (C := RX12) (T := TX12) (N := 23) hx hb hts inX12_off_12 hown hK h_o 0 rfl rfl 22 (by decide) (hts (.fieldLink RX12 73 "GateLedgerModel" "thrown" "I") (List.mem_of_getElem? (i := 1) (by decide +kernel))) (fun _ h9 => h9) rfl dX12_off_49 ?_
        refine lv_if_le (tgt := 57) hx hb dX12_off_52 (by decide) (fun c52 => ?_) (fun c52 => ?_)
        · exact absurd c52 (by decide)
        · skip
          refine lv_iconst (v := nI 0) hx hb dX12_off_55 (by decide) ?_
          have e1 : cOff Ns p9 op9 w9 = 2 := (if_pos c5).trans ((if_pos c16).trans (if_neg c25))
          exact en_wi b0 hx hb hr hlocks hS ⟨fun q => absurd (e1.symm.trans q) (by decide), trivial⟩ (by rw [e1]; exact ⟨h_o, h_bits⟩) dX12_off_56
  · skip
    have c5 := bI_0.mp c5
    refine lv_iconst (v := nI 1) hx hb dX12_off_8 (by decide) ?_
    refine lv_goto (tgt := 45) hx hb dX12_off_9 (by decide) ?_
    refine pp_put (ci := 12) (v := .int (nI 1)) (ty := .int) (C := RX12) (T := TX12) (N := 23) hx hb hts inX12_off_12 tyX12 tyX12_ok nmX12 hown hK h_o hS (Or.inl (rng_in (by omega))) rfl 22 (by decide) (hts (.fieldLink RX12 73 "GateLedgerModel" "thrown" "I") (List.mem_of_getElem? (i := 1) (by decide +kernel))) (fun _ h9 => h9) rfl (by decide +kernel) rfl rfl (Nat.le_of_ble_eq_true rfl) dX12_off_45 (fun H locs hP9 hk10 _ hS => ?_)
    have h_o : PP G (modO a cy (nI 1)) H := hP9
    have h_bits : PP G (ar1 G a 104 120 b0) H := kp hk10 h_bits (dj_cons (ne_a ha (by omega)) (dj_nil))
    refine lv_aload_n hx hb dX12_off_48 rfl (lv_at hl 0 rfl) ?_
    refine va_get (D := G.1) (ci := 12) (v := .int (nI 1)) (C := RX12) (T := TX12) (N := 23) hx hb hts inX12_off_12 hown hK h_o 0 rfl rfl 22 (by decide) (hts (.fieldLink RX12 73 "GateLedgerModel" "thrown" "I") (List.mem_of_getElem? (i := 1) (by decide +kernel))) (fun _ h9 => h9) rfl dX12_off_49 ?_
    refine lv_if_le (tgt := 57) hx hb dX12_off_52 (by decide) (fun c52 => ?_) (fun c52 => ?_)
    · exact absurd c52 (by decide)
    · skip
      refine lv_iconst (v := nI 0) hx hb dX12_off_55 (by decide) ?_
      have e1 : cOff Ns p9 op9 w9 = 1 := if_neg c5
      exact en_wi b0 hx hb hr hlocks hS ⟨fun q => absurd (e1.symm.trans q) (by decide), trivial⟩ (by rw [e1]; exact ⟨h_o, h_bits⟩) dX12_off_56
set_option maxRecDepth 20000 in
theorem inX12_unseen_12 : ∀ w ∈ u_ws RX12 TX12 23, w ∈ wsX12_unseen := by decide +kernel
set_option maxHeartbeats 4000000 in
set_option maxRecDepth 100000 in
/-- unseen -/
theorem c_X12_unseen (l : Launch) (G : GG) (a : Nat → Nat) (ha : Inj a) (cy th : Int32) (Ns : Nat → NT) (fs sc b0 : FN) (p9 op9 w9 : Int32) (hW : ∀ z, z < 4 → WF (Ns z)) (hFS : FS Ns fs sc)  : Met l yX12_unseen wsX12_unseen ({ frames := 3, cells := 0, slots := 0, locals := 73 } : Room) (PcB G [.ref (a 93), .int p9, .int op9, .int w9] (fun H => PP G (modO a cy th) H ∧ PP G (sixW G a Ns fs sc) H ∧ PP G (twoW G a Ns) H ∧ PP G (ar1 G a 104 120 b0) H)) (QI (fun (r : Int32) (u : FN) => (cUns Ns p9 op9 w9 = 0 → r = AU (Ns (ix p9)) (ix op9) (ix w9) (2 ^ nIn (Ns (ix p9)))) ∧ True) (fun u H => PP G (modO a cy (nI (cUns Ns p9 op9 w9))) H ∧ PP G (ar1 G a 104 120 u) H) (orA (rng a 93 1) (rng a 104 1))) 0 0 (orA (rng a 93 1) (rng a 104 1)) := by
  refine Met.ofW (cc := cX12_unseen) (maxL := 7) (ret := (some .int)) (by decide) rfl ?_
  intro p e s m args below meth c s₁ B hml hv
  obtain ⟨rfl, hB, hK, hNW⟩ := hv
  have hx := B.exec
  have hb := B.bytes
  have hr := B.returns
  have hts := atoms_spec (ws := wsX12_unseen) B.pre
  have hown : s.vm.findClass RX12 = some m.cls := findClass_of_methodNamed B.named
  have hlocks := B.notSynchronized
  have FX : CallFix p m c cX12_unseen 7 s ([.ref (a 93), .int p9, .int op9, .int w9] : List Value).toArray wsX12_unseen RX12 := ⟨hx, hb, hml, hown, hts⟩
  have hl := lv_entry ([.ref (a 93), .int p9, .int op9, .int w9]) (n := 7) (Nat.le_of_ble_eq_true rfl)
  rw [lg_entry_eq]
  generalize (lg_sl ([.ref (a 93), .int p9, .int op9, .int w9]) ++ List.replicate (7 - (lg_sl ([.ref (a 93), .int p9, .int op9, .int w9])).length) Slot.unset).toArray = ls at hl ⊢
  have hl : lv_has ls 7 [(0, .ref (a 93)), (1, .int p9), (2, .int op9), (3, .int w9)] := hl
  obtain ⟨h_o, h_x, h_y, h_bits⟩ := hB
  have hS : va_S (orA (rng a 93 1) (rng a 104 1)) s.heap s.heap [] := va_S.rf
  refine lv_aload_n hx hb dX12_unseen_0 rfl (lv_at hl 0 rfl) ?_
  refine lv_iload_n hx hb dX12_unseen_1 rfl (lv_at hl 1 rfl) ?_
  refine ro_i (va_runS (As := [.int p9]) (rest := [.ref (a 93)]) FX (c_X12_isNet l G p9) (va_cwS 1 hts gX12_unseen_X12_isNet rfl rfl rfl (by decide +kernel) ⟨Nat.le_of_ble_eq_true rfl, Nat.le_of_ble_eq_true rfl⟩) (preS hK hNW trivial) rfl rfl hl.1 rfl (lv_room (Nat.le_of_ble_eq_true rfl)) dX12_unseen_2 ⟨Nat.le_of_ble_eq_true rfl, Nat.le_of_ble_eq_true rfl⟩) ?_
  refine lv_if_ne (tgt := 12) hx hb dX12_unseen_5 (by decide) (fun c5 => ?_) (fun c5 => ?_)
  · skip
    have c5 := bI_1 c5
    obtain ⟨z, hz, ez, ep⟩ := inBd_z c5 (by omega)
    rw [ep] at hl
    have hl : lv_has ls 7 [(0, .ref (a 93)), (1, .int (nI z)), (2, .int op9), (3, .int w9)] := hl
    have hN := hW _ hz
    have hg9 := hN.g
    have ho9 := hN.o
    have hi9 := hN.2.1
    refine lv_iload_n hx hb dX12_unseen_12 rfl (lv_at hl 2 rfl) ?_
    refine ro_i (va_runS (As := [.int op9]) (rest := [.ref (a 93)]) FX (c_X12_isOperation l G op9) (va_cwS 1 hts gX12_unseen_X12_isOperation rfl rfl rfl (by decide +kernel) ⟨Nat.le_of_ble_eq_true rfl, Nat.le_of_ble_eq_true rfl⟩) (preS hK hNW trivial) rfl rfl hl.1 rfl (lv_room (Nat.le_of_ble_eq_true rfl)) dX12_unseen_13 ⟨Nat.le_of_ble_eq_true rfl, Nat.le_of_ble_eq_true rfl⟩) ?_
    refine lv_if_eq (tgt := 29) hx hb dX12_unseen_16 (by decide) (fun c16 => ?_) (fun c16 => ?_)
    · skip
      have c16 := bI_0.mp c16
      refine lv_iconst (v := nI 2) hx hb dX12_unseen_29 (by decide) ?_
      refine lv_goto (tgt := 46) hx hb dX12_unseen_30 (by decide) ?_
      refine pp_put (ci := 12) (v := .int (nI 2)) (ty := .int) (C := RX12) (T := TX12) (N := 23) hx hb hts inX12_unseen_12 tyX12 tyX12_ok nmX12 hown hK h_o hS (Or.inl (rng_in (by omega))) rfl 22 (by decide) (hts (.fieldLink RX12 73 "GateLedgerModel" "thrown" "I") (List.mem_of_getElem? (i := 1) (by decide +kernel))) (fun _ h9 => h9) rfl (by decide +kernel) rfl rfl (Nat.le_of_ble_eq_true rfl) dX12_unseen_46 (fun H locs hP9 hk1 _ hS => ?_)
      have h_o : PP G (modO a cy (nI 2)) H := hP9
      have h_bits : PP G (ar1 G a 104 120 b0) H := kp hk1 h_bits (dj_cons (ne_a ha (by omega)) (dj_nil))
      refine lv_aload_n hx hb dX12_unseen_49 rfl (lv_at hl 0 rfl) ?_
      refine va_get (D := G.1) (ci := 12) (v := .int (nI 2)) (C := RX12) (T := TX12) (N := 23) hx hb hts inX12_unseen_12 hown hK h_o 0 rfl rfl 22 (by decide) (hts (.fieldLink RX12 73 "GateLedgerModel" "thrown" "I") (List.mem_of_getElem? (i := 1) (by decide +kernel))) (fun _ h9 => h9) rfl dX12_unseen_50 ?_
      refine lv_if_le (tgt := 58) hx hb dX12_unseen_53 (by decide) (fun c53 => ?_) (fun c53 => ?_)
      · exact absurd c53 (by decide)
      · skip
        refine lv_iconst (v := nI 0) hx hb dX12_unseen_56 (by decide) ?_
        have e1 : cUns Ns p9 op9 w9 = 2 := (if_pos c5).trans (if_neg c16)
        exact en_wi b0 hx hb hr hlocks hS ⟨fun q => absurd (e1.symm.trans q) (by decide), trivial⟩ (by rw [e1]; exact ⟨h_o, h_bits⟩) dX12_unseen_57
    · skip
      have c16 := bI_1 c16
      obtain ⟨op, eo, epo, ho1, ho2⟩ := rg_z c16 (by omega) (by omega)
      rw [epo] at hl
      have hl : lv_has ls 7 [(0, .ref (a 93)), (1, .int (nI z)), (2, .int (nI op)), (3, .int w9)] := hl
      refine lv_iload_n hx hb dX12_unseen_19 rfl (lv_at hl 3 rfl) ?_
      refine lv_iconst (v := nI 2) hx hb dX12_unseen_20 (by decide) ?_
      refine lv_bipush (v := nI 99) hx hb dX12_unseen_21 (by decide) ?_
      refine ro_i (va_runS (As := [.int w9, .int (nI 2), .int (nI 99)]) (rest := [.ref (a 93)]) FX (c_X12_isIn l G w9 (nI 2) (nI 99)) (va_cwS 3 hts gX12_unseen_X12_isIn rfl rfl rfl (by decide +kernel) ⟨Nat.le_of_ble_eq_true rfl, Nat.le_of_ble_eq_true rfl⟩) (preS hK hNW trivial) rfl rfl hl.1 rfl (lv_room (Nat.le_of_ble_eq_true rfl)) dX12_unseen_23 ⟨Nat.le_of_ble_eq_true rfl, Nat.le_of_ble_eq_true rfl⟩) ?_
      refine lv_if_ne (tgt := 33) hx hb dX12_unseen_26 (by decide) (fun c26 => ?_) (fun c26 => ?_)
      · skip
        have c26 := bI_1 c26
        obtain ⟨w, ew, epw, hw1, hw2⟩ := rg_z c26 (by omega) (by omega)
        rw [epw] at hl
        have hl : lv_has ls 7 [(0, .ref (a 93)), (1, .int (nI z)), (2, .int (nI op)), (3, .int (nI w))] := hl
        refine lv_aload_n hx hb dX12_unseen_33 rfl (lv_at hl 0 rfl) ?_
        refine lv_iload_n hx hb dX12_unseen_34 rfl (lv_at hl 1 rfl) ?_
        refine ro_i (va_runV (As := [.int (nI z)]) (rest := [.ref (a 93)]) FX (c_X12_canBeHeld l G a cy th Ns z fs sc hz hN) (cwV 1 hts gX12_unseen_X12_canBeHeld rfl rfl rfl (by decide +kernel) ⟨Nat.le_of_ble_eq_true rfl, Nat.le_of_ble_eq_true rfl⟩) (preV hK hNW (⟨h_o, (ro hS h_x (dj_cons (or_no (rng_no ha (by omega)) (rng_no ha (by omega))) (dj_cons (or_no (rng_no ha (by omega)) (rng_no ha (by omega))) (dj_cons (or_no (rng_no ha (by omega)) (rng_no ha (by omega))) (dj_cons (or_no (rng_no ha (by omega)) (rng_no ha (by omega))) (dj_cons (or_no (rng_no ha (by omega)) (rng_no ha (by omega))) (dj_cons (or_no (rng_no ha (by omega)) (rng_no ha (by omega))) (dj_nil))))))))⟩) (va_recv hK h_o (ci := 12) (q0 := 0) rfl rfl)) rfl rfl hl.1 rfl (lv_room (Nat.le_of_ble_eq_true rfl)) dX12_unseen_35 ⟨Nat.le_of_ble_eq_true rfl, Nat.le_of_ble_eq_true rfl⟩) ?_
        refine lv_if_ne (tgt := 45) hx hb dX12_unseen_38 (by decide) (fun c38 => ?_) (fun c38 => ?_)
        · skip
          have c38 := bI_1 c38
          have hpw : 2 ^ nIn (Ns z) ≤ 2 ^ 12 := Nat.pow_le_pow_right (by omega) (by omega)
          refine lv_iconst (v := nI 0) hx hb dX12_unseen_45 (by decide) ?_
          refine pp_put (ci := 12) (v := .int (nI 0)) (ty := .int) (C := RX12) (T := TX12) (N := 23) hx hb hts inX12_unseen_12 tyX12 tyX12_ok nmX12 hown hK h_o hS (Or.inl (rng_in (by omega))) rfl 22 (by decide) (hts (.fieldLink RX12 73 "GateLedgerModel" "thrown" "I") (List.mem_of_getElem? (i := 1) (by decide +kernel))) (fun _ h9 => h9) rfl (by decide +kernel) rfl rfl (Nat.le_of_ble_eq_true rfl) dX12_unseen_46 (fun H locs hP9 hk2 _ hS => ?_)
          have h_o : PP G (modO a cy (nI 0)) H := hP9
          have h_bits : PP G (ar1 G a 104 120 b0) H := kp hk2 h_bits (dj_cons (ne_a ha (by omega)) (dj_nil))
          refine lv_aload_n hx hb dX12_unseen_49 rfl (lv_at hl 0 rfl) ?_
          refine va_get (D := G.1) (ci := 12) (v := .int (nI 0)) (C := RX12) (T := TX12) (N := 23) hx hb hts inX12_unseen_12 hown hK h_o 0 rfl rfl 22 (by decide) (hts (.fieldLink RX12 73 "GateLedgerModel" "thrown" "I") (List.mem_of_getElem? (i := 1) (by decide +kernel))) (fun _ h9 => h9) rfl dX12_unseen_50 ?_
          refine lv_if_le (tgt := 58) hx hb dX12_unseen_53 (by decide) (fun c53 => ?_) (fun c53 => ?_)
          · skip
            refine lv_iconst (v := nI 0) hx hb dX12_unseen_58 (by decide) ?_
            refine lv_istore (lv' := [(4, .int (nI 0)), (0, .ref (a 93)), (1, .int (nI z)), (2, .int (nI op)), (3, .int (nI w))]) hx hb dX12_unseen_59 hl (by decide) rfl (fun ls hl => ?_)
            refine lv_iconst (v := nI 0) hx hb dX12_unseen_61 (by decide) ?_
            refine lv_istore (lv' := [(5, .int (nI 0)), (4, .int (nI 0)), (0, .ref (a 93)), (1, .int (nI z)), (2, .int (nI op)), (3, .int (nI w))]) hx hb dX12_unseen_62 hl (by decide) rfl (fun ls hl => ?_)
            refine lv_loop2 64 (fun (n : Nat) (b : FN) => 2 ^ nIn (Ns z) - n) (fun (n : Nat) (b : FN) (H : Heap) (locs : List Loc) (ls : Array Slot) => (PP G (modO a cy (nI 0)) H) ∧ (PP G (ar1 G a 104 120 b) H) ∧ (va_S (orA (rng a 93 1) (rng a 104 1)) s.heap H locs) ∧ (lv_has ls 7 [(0, .ref (a 93)), (1, .int (nI z)), (2, .int (nI op)), (3, .int (nI w)), (4, .int (AU (Ns z) op w n)), (5, .int (nI n))]) ∧ (n ≤ 2 ^ nIn (Ns z))) (fun _ _ => []) (fun n b H locs ls hI ih => ?_) 0 b0 ⟨h_o, h_bits, hS, lv_sub hl [2, 3, 4, 5, 1, 0] rfl, Nat.zero_le _⟩ rfl
            obtain ⟨h_o, h_bits, hS, hl, hn⟩ := hI
            have ih3 := @ih
            clear ih
            refine lv_iload hx hb dX12_unseen_64 (lv_at hl 5 rfl) ?_
            refine lv_iconst (v := nI 1) hx hb dX12_unseen_66 (by decide) ?_
            refine lv_aload_n hx hb dX12_unseen_67 rfl (lv_at hl 0 rfl) ?_
            refine va_get (D := G.1) (ci := 12) (v := .ref (a 99)) (C := RX12) (T := TX12) (N := 23) hx hb hts inX12_unseen_12 hown hK h_o 0 rfl rfl 5 (by decide) (hts (.fieldLink RX12 25 "GateLedgerModel" "inputs" "[I") (List.mem_of_getElem? (i := 2) (by decide +kernel))) (fun _ h9 => h9) rfl dX12_unseen_68 ?_
            refine lv_iload_n hx hb dX12_unseen_71 rfl (lv_at hl 1 rfl) ?_
            refine pp_iald hx hb hK (ro hS h_x (dj_cons (or_no (rng_no ha (by omega)) (rng_no ha (by omega))) (dj_cons (or_no (rng_no ha (by omega)) (rng_no ha (by omega))) (dj_cons (or_no (rng_no ha (by omega)) (rng_no ha (by omega))) (dj_cons (or_no (rng_no ha (by omega)) (rng_no ha (by omega))) (dj_cons (or_no (rng_no ha (by omega)) (rng_no ha (by omega))) (dj_cons (or_no (rng_no ha (by omega)) (rng_no ha (by omega))) (dj_nil)))))))) 5 rfl (vp_in_nI (by omega) (by omega)) dX12_unseen_72 ?_
            refine lv_as (congrArg (IF Ns) (nI_clamp (by omega))) ?_
            refine lv_as (y := nI (nIn (Ns z))) rfl ?_
            refine lv_ishl hx hb dX12_unseen_73 ?_
            refine lv_as (y := nI (2 ^ nIn (Ns z))) (shl1 (by omega)) ?_
            refine lv_icmp_ge (tgt := 123) hx hb dX12_unseen_74 (by decide) (fun c74 => ?_) (fun c74 => ?_)
            · skip
              have c74 := cv_le (by omega) (by omega) c74
              refine lv_iload hx hb dX12_unseen_123 (lv_at hl 4 rfl) ?_
              have e1 : cUns Ns p9 op9 w9 = 0 := (if_pos c5).trans ((if_pos c16).trans ((if_pos c26).trans (if_pos (by rw [ez]; exact c38))))
              exact en_wi b hx hb hr hlocks hS ⟨fun _ => by rw [ez, eo, ew]; rw [← show n = 2 ^ nIn (Ns z) by omega], trivial⟩ (by rw [e1]; exact ⟨h_o, h_bits⟩) dX12_unseen_125
            · skip
              have c74 := cv_nle (by omega) (by omega) c74
              refine lv_aload_n hx hb dX12_unseen_77 rfl (lv_at hl 0 rfl) ?_
              refine lv_iload_n hx hb dX12_unseen_78 rfl (lv_at hl 1 rfl) ?_
              refine lv_iload hx hb dX12_unseen_79 (lv_at hl 5 rfl) ?_
              refine wr_i (va_runV (As := [.int (nI z), .int (nI n)]) (rest := []) FX (c_X12_valueOf l G a ha cy (nI 0) Ns z fs sc b n hz hN hFS (by omega)) (cwV 2 hts gX12_unseen_X12_valueOf rfl rfl rfl (by decide +kernel) ⟨Nat.le_of_ble_eq_true rfl, Nat.le_of_ble_eq_true rfl⟩) (preV hK hNW (⟨h_o, (ro hS h_x (dj_cons (or_no (rng_no ha (by omega)) (rng_no ha (by omega))) (dj_cons (or_no (rng_no ha (by omega)) (rng_no ha (by omega))) (dj_cons (or_no (rng_no ha (by omega)) (rng_no ha (by omega))) (dj_cons (or_no (rng_no ha (by omega)) (rng_no ha (by omega))) (dj_cons (or_no (rng_no ha (by omega)) (rng_no ha (by omega))) (dj_cons (or_no (rng_no ha (by omega)) (rng_no ha (by omega))) (dj_nil)))))))), (ro hS h_y (dj_cons (or_no (rng_no ha (by omega)) (rng_no ha (by omega))) (dj_cons (or_no (rng_no ha (by omega)) (rng_no ha (by omega))) (dj_nil)))), h_bits⟩) (va_recv hK h_o (ci := 12) (q0 := 0) rfl rfl)) rfl rfl hl.1 rfl (lv_room (Nat.le_of_ble_eq_true rfl)) dX12_unseen_81 ⟨Nat.le_of_ble_eq_true rfl, Nat.le_of_ble_eq_true rfl⟩) hS (fun q h => Or.inr ((rng_sub (by omega)) q h)) (fun rr u4 H locs er5 hP9 hk6 hS => ?_)
              have h_bits : PP G (ar1 G a 104 120 u4) H := hP9
              have h_o : PP G (modO a cy (nI 0)) H := kp hk6 h_o (dj_cons (rng_no ha (by omega)) (dj_nil))
              refine lv_as (y := vl (Ns z) n) er5 ?_
              refine lv_aload_n hx hb dX12_unseen_84 rfl (lv_at hl 0 rfl) ?_
              refine lv_iload_n hx hb dX12_unseen_85 rfl (lv_at hl 1 rfl) ?_
              refine lv_iload_n hx hb dX12_unseen_86 rfl (lv_at hl 2 rfl) ?_
              refine lv_iload hx hb dX12_unseen_87 (lv_at hl 5 rfl) ?_
              refine ro_i (va_runV (As := [.int (nI z), .int (nI op), .int (nI n)]) (rest := [.int (vl (Ns z) n)]) FX (c_X12_due l G a cy (nI 0) Ns z fs sc op n hz hN (by omega) (by omega)) (cwV 3 hts gX12_unseen_X12_due rfl rfl rfl (by decide +kernel) ⟨Nat.le_of_ble_eq_true rfl, Nat.le_of_ble_eq_true rfl⟩) (preV hK hNW (⟨h_o, (ro hS h_x (dj_cons (or_no (rng_no ha (by omega)) (rng_no ha (by omega))) (dj_cons (or_no (rng_no ha (by omega)) (rng_no ha (by omega))) (dj_cons (or_no (rng_no ha (by omega)) (rng_no ha (by omega))) (dj_cons (or_no (rng_no ha (by omega)) (rng_no ha (by omega))) (dj_cons (or_no (rng_no ha (by omega)) (rng_no ha (by omega))) (dj_cons (or_no (rng_no ha (by omega)) (rng_no ha (by omega))) (dj_nil))))))))⟩) (va_recv hK h_o (ci := 12) (q0 := 0) rfl rfl)) rfl rfl hl.1 rfl (lv_room (Nat.le_of_ble_eq_true rfl)) dX12_unseen_89 ⟨Nat.le_of_ble_eq_true rfl, Nat.le_of_ble_eq_true rfl⟩) ?_
              refine lv_isub hx hb dX12_unseen_92 ?_
              have hux := un_X hN (op := op) (n := n) (m := w) (by omega) ⟨by omega, hw2⟩
              refine lv_istore (lv' := [(6, .int ((vl (Ns z) n) - (nI (dueN op (nIn (Ns z) / 2) n)))), (0, .ref (a 93)), (1, .int (nI z)), (2, .int (nI op)), (3, .int (nI w)), (4, .int (AU (Ns z) op w n)), (5, .int (nI n))]) hx hb dX12_unseen_93 hl (by decide) rfl (fun ls hl => ?_)
              refine lv_iload hx hb dX12_unseen_95 (lv_at hl 5 rfl) ?_
              refine lv_iload hx hb dX12_unseen_97 (lv_at hl 0 rfl) ?_
              refine lv_if_eq (tgt := 113) hx hb dX12_unseen_99 (by decide) (fun c99 => ?_) (fun c99 => ?_)
              · skip
                refine lv_iconst (v := nI 0) hx hb dX12_unseen_113 (by decide) ?_
                refine lv_iadd hx hb dX12_unseen_114 ?_
                refine lv_istore (lv' := [(4, .int ((AU (Ns z) op w n) + (nI 0))), (6, .int ((vl (Ns z) n) - (nI (dueN op (nIn (Ns z) / 2) n)))), (0, .ref (a 93)), (1, .int (nI z)), (2, .int (nI op)), (3, .int (nI w)), (5, .int (nI n))]) hx hb dX12_unseen_115 hl (by decide) rfl (fun ls hl => ?_)
                refine lv_iinc (v := nI (n + 1)) (lv' := [(5, .int (nI (n + 1))), (4, .int ((AU (Ns z) op w n) + (nI 0))), (6, .int ((vl (Ns z) n) - (nI (dueN op (nIn (Ns z) / 2) n)))), (0, .ref (a 93)), (1, .int (nI z)), (2, .int (nI op)), (3, .int (nI w))]) hx hb dX12_unseen_117 hl (k := 6) rfl (by first | exact nI_add _ 1 | decide) (by decide) rfl (fun ls hl => ?_)
                refine lv_goto (tgt := 64) hx hb dX12_unseen_120 (by decide) ?_
                exact ih3 (n + 1) u4 _ _ _ ⟨h_o, h_bits, hS, (by rw [show AU (Ns z) op w n + nI 0 = AU (Ns z) op w n from Int32.add_zero _] at hl; rw [show AU (Ns z) op w (n + 1) = _ from if_neg (hux.1.mp c99)]; exact lv_sub hl [3, 4, 5, 6, 1, 0] rfl), by omega⟩ (by show 2 ^ nIn (Ns z) - (n + 1) < 2 ^ nIn (Ns z) - n; omega)
              · skip
                refine lv_iload hx hb dX12_unseen_102 (lv_at hl 0 rfl) ?_
                refine lv_iload_n hx hb dX12_unseen_104 rfl (lv_at hl 4 rfl) ?_
                refine lv_irem hx hb dX12_unseen_105 (nI_ne0 (by omega) (by omega)) ?_
                refine lv_if_ne (tgt := 113) hx hb dX12_unseen_106 (by decide) (fun c106 => ?_) (fun c106 => ?_)
                · skip
                  refine lv_iconst (v := nI 0) hx hb dX12_unseen_113 (by decide) ?_
                  refine lv_iadd hx hb dX12_unseen_114 ?_
                  refine lv_istore (lv' := [(4, .int ((AU (Ns z) op w n) + (nI 0))), (6, .int ((vl (Ns z) n) - (nI (dueN op (nIn (Ns z) / 2) n)))), (0, .ref (a 93)), (1, .int (nI z)), (2, .int (nI op)), (3, .int (nI w)), (5, .int (nI n))]) hx hb dX12_unseen_115 hl (by decide) rfl (fun ls hl => ?_)
                  refine lv_iinc (v := nI (n + 1)) (lv' := [(5, .int (nI (n + 1))), (4, .int ((AU (Ns z) op w n) + (nI 0))), (6, .int ((vl (Ns z) n) - (nI (dueN op (nIn (Ns z) / 2) n)))), (0, .ref (a 93)), (1, .int (nI z)), (2, .int (nI op)), (3, .int (nI w))]) hx hb dX12_unseen_117 hl (k := 6) rfl (by first | exact nI_add _ 1 | decide) (by decide) rfl (fun ls hl => ?_)
                  refine lv_goto (tgt := 64) hx hb dX12_unseen_120 (by decide) ?_
                  exact ih3 (n + 1) u4 _ _ _ ⟨h_o, h_bits, hS, (by rw [show AU (Ns z) op w n + nI 0 = AU (Ns z) op w n from Int32.add_zero _] at hl; rw [show AU (Ns z) op w (n + 1) = _ from (if_pos (Decidable.byContradiction (fun q => c99 (hux.1.mpr q)))).trans (if_neg (fun q => c106 (hux.2.mpr q)))]; exact lv_sub hl [3, 4, 5, 6, 1, 0] rfl), by omega⟩ (by show 2 ^ nIn (Ns z) - (n + 1) < 2 ^ nIn (Ns z) - n; omega)
                · skip
                  refine lv_iconst (v := nI 1) hx hb dX12_unseen_109 (by decide) ?_
                  refine lv_goto (tgt := 114) hx hb dX12_unseen_110 (by decide) ?_
                  refine lv_iadd hx hb dX12_unseen_114 ?_
                  refine lv_istore (lv' := [(4, .int ((AU (Ns z) op w n) + (nI 1))), (6, .int ((vl (Ns z) n) - (nI (dueN op (nIn (Ns z) / 2) n)))), (0, .ref (a 93)), (1, .int (nI z)), (2, .int (nI op)), (3, .int (nI w)), (5, .int (nI n))]) hx hb dX12_unseen_115 hl (by decide) rfl (fun ls hl => ?_)
                  refine lv_iinc (v := nI (n + 1)) (lv' := [(5, .int (nI (n + 1))), (4, .int ((AU (Ns z) op w n) + (nI 1))), (6, .int ((vl (Ns z) n) - (nI (dueN op (nIn (Ns z) / 2) n)))), (0, .ref (a 93)), (1, .int (nI z)), (2, .int (nI op)), (3, .int (nI w))]) hx hb dX12_unseen_117 hl (k := 6) rfl (by first | exact nI_add _ 1 | decide) (by decide) rfl (fun ls hl => ?_)
                  refine lv_goto (tgt := 64) hx hb dX12_unseen_120 (by decide) ?_
                  exact ih3 (n + 1) u4 _ _ _ ⟨h_o, h_bits, hS, (by rw [show AU (Ns z) op w (n + 1) = _ from (if_pos (Decidable.byContradiction (fun q => c99 (hux.1.mpr q)))).trans (if_pos (hux.2.mp c106))]; exact lv_sub hl [3, 4, 5, 6, 1, 0] rfl), by omega⟩ (by show 2 ^ nIn (Ns z) - (n + 1) < 2 ^ nIn (Ns z) - n; omega)
          · exact absurd c53 (by decide)
        · skip
          have c38 := bI_0.mp c38
          refine lv_iconst (v := nI 3) hx hb dX12_unseen_41 (by decide) ?_
          refine lv_goto (tgt := 46) hx hb dX12_unseen_42 (by decide) ?_
          refine pp_put (ci := 12) (v := .int (nI 3)) (ty := .int) (C := RX12) (T := TX12) (N := 23) hx hb hts inX12_unseen_12 tyX12 tyX12_ok nmX12 hown hK h_o hS (Or.inl (rng_in (by omega))) rfl 22 (by decide) (hts (.fieldLink RX12 73 "GateLedgerModel" "thrown" "I") (List.mem_of_getElem? (i := 1) (by decide +kernel))) (fun _ h9 => h9) rfl (by decide +kernel) rfl rfl (Nat.le_of_ble_eq_true rfl) dX12_unseen_46 (fun H locs hP9 hk8 _ hS => ?_)
          have h_o : PP G (modO a cy (nI 3)) H := hP9
          have h_bits : PP G (ar1 G a 104 120 b0) H := kp hk8 h_bits (dj_cons (ne_a ha (by omega)) (dj_nil))
          refine lv_aload_n hx hb dX12_unseen_49 rfl (lv_at hl 0 rfl) ?_
          refine va_get (D := G.1) (ci := 12) (v := .int (nI 3)) (C := RX12) (T := TX12) (N := 23) hx hb hts inX12_unseen_12 hown hK h_o 0 rfl rfl 22 (by decide) (hts (.fieldLink RX12 73 "GateLedgerModel" "thrown" "I") (List.mem_of_getElem? (i := 1) (by decide +kernel))) (fun _ h9 => h9) rfl dX12_unseen_50 ?_
          refine lv_if_le (tgt := 58) hx hb dX12_unseen_53 (by decide) (fun c53 => ?_) (fun c53 => ?_)
          · exact absurd c53 (by decide)
          · skip
            refine lv_iconst (v := nI 0) hx hb dX12_unseen_56 (by decide) ?_
            have e1 : cUns Ns p9 op9 w9 = 3 := (if_pos c5).trans ((if_pos c16).trans ((if_pos c26).trans (if_neg (by rw [ez]; exact c38))))
            exact en_wi b0 hx hb hr hlocks hS ⟨fun q => absurd (e1.symm.trans q) (by decide), trivial⟩ (by rw [e1]; exact ⟨h_o, h_bits⟩) dX12_unseen_57
      · skip
        have c26 := bI_0.mp c26
        refine lv_iconst (v := nI 2) hx hb dX12_unseen_29 (by decide) ?_
        refine lv_goto (tgt := 46) hx hb dX12_unseen_30 (by decide) ?_
        refine pp_put (ci := 12) (v := .int (nI 2)) (ty := .int) (C := RX12) (T := TX12) (N := 23) hx hb hts inX12_unseen_12 tyX12 tyX12_ok nmX12 hown hK h_o hS (Or.inl (rng_in (by omega))) rfl 22 (by decide) (hts (.fieldLink RX12 73 "GateLedgerModel" "thrown" "I") (List.mem_of_getElem? (i := 1) (by decide +kernel))) (fun _ h9 => h9) rfl (by decide +kernel) rfl rfl (Nat.le_of_ble_eq_true rfl) dX12_unseen_46 (fun H locs hP9 hk9 _ hS => ?_)
        have h_o : PP G (modO a cy (nI 2)) H := hP9
        have h_bits : PP G (ar1 G a 104 120 b0) H := kp hk9 h_bits (dj_cons (ne_a ha (by omega)) (dj_nil))
        refine lv_aload_n hx hb dX12_unseen_49 rfl (lv_at hl 0 rfl) ?_
        refine va_get (D := G.1) (ci := 12) (v := .int (nI 2)) (C := RX12) (T := TX12) (N := 23) hx hb hts inX12_unseen_12 hown hK h_o 0 rfl rfl 22 (by decide) (hts (.fieldLink RX12 73 "GateLedgerModel" "thrown" "I") (List.mem_of_getElem? (i := 1) (by decide +kernel))) (fun _ h9 => h9) rfl dX12_unseen_50 ?_
        refine lv_if_le (tgt := 58) hx hb dX12_unseen_53 (by decide) (fun c53 => ?_) (fun c53 => ?_)
        · exact absurd c53 (by decide)
        · skip
          refine lv_iconst (v := nI 0) hx hb dX12_unseen_56 (by decide) ?_
          have e1 : cUns Ns p9 op9 w9 = 2 := (if_pos c5).trans ((if_pos c16).trans (if_neg c26))
          exact en_wi b0 hx hb hr hlocks hS ⟨fun q => absurd (e1.symm.trans q) (by decide), trivial⟩ (by rw [e1]; exact ⟨h_o, h_bits⟩) dX12_unseen_57
  · skip
    have c5 := bI_0.mp c5
    refine lv_iconst (v := nI 1) hx hb dX12_unseen_8 (by decide) ?_
    refine lv_goto (tgt := 46) hx hb dX12_unseen_9 (by decide) ?_
    refine pp_put (ci := 12) (v := .int (nI 1)) (ty := .int) (C := RX12) (T := TX12) (N := 23) hx hb hts inX12_unseen_12 tyX12 tyX12_ok nmX12 hown hK h_o hS (Or.inl (rng_in (by omega))) rfl 22 (by decide) (hts (.fieldLink RX12 73 "GateLedgerModel" "thrown" "I") (List.mem_of_getElem? (i := 1) (by decide +kernel))) (fun _ h9 => h9) rfl (by decide +kernel) rfl rfl (Nat.le_of_ble_eq_true rfl) dX12_unseen_46 (fun H locs hP9 hk10 _ hS => ?_)
    have h_o : PP G (modO a cy (nI 1)) H := hP9
    have h_bits : PP G (ar1 G a 104 120 b0) H := kp hk10 h_bits (dj_cons (ne_a ha (by omega)) (dj_nil))
    refine lv_aload_n hx hb dX12_unseen_49 rfl (lv_at hl 0 rfl) ?_
    refine va_get (D := G.1) (ci := 12) (v := .int (nI 1)) (C := RX12) (T := TX12) (N := 23) hx hb hts inX12_unseen_12 hown hK h_o 0 rfl rfl 22 (by decide) (hts (.fieldLink RX12 73 "GateLedgerModel" "thrown" "I") (List.mem_of_getElem? (i := 1) (by decide +kernel))) (fun _ h9 => h9) rfl dX12_unseen_50 ?_
    refine lv_if_le (tgt := 58) hx hb dX12_unseen_53 (by decide) (fun c53 => ?_) (fun c53 => ?_)
    · exact absurd c53 (by decide)
    · skip
      refine lv_iconst (v := nI 0) hx hb dX12_unseen_56 (by decide) ?_
      have e1 : cUns Ns p9 op9 w9 = 1 := if_neg c5
      exact en_wi b0 hx hb hr hlocks hS ⟨fun q => absurd (e1.symm.trans q) (by decide), trivial⟩ (by rw [e1]; exact ⟨h_o, h_bits⟩) dX12_unseen_57
set_option maxRecDepth 20000 in
theorem inX12_unlike_12 : ∀ w ∈ u_ws RX12 TX12 23, w ∈ wsX12_unlike := by decide +kernel
set_option maxHeartbeats 4000000 in
set_option maxRecDepth 100000 in
/-- X12_unlike -/
theorem c_X12_unlike (l : Launch) (G : GG) (a : Nat → Nat) (ha : Inj a) (cy th : Int32) (Ns : Nat → NT) (fs sc b0 : FN) (p9 v9 : Int32) (hW : ∀ z, z < 4 → WF (Ns z)) (hFS : FS Ns fs sc)  : Met l yX12_unlike wsX12_unlike ({ frames := 3, cells := 0, slots := 0, locals := 73 } : Room) (PcB G [.ref (a 93), .int p9, .int v9] (fun H => PP G (modO a cy th) H ∧ PP G (sixW G a Ns fs sc) H ∧ PP G (twoW G a Ns) H ∧ PP G (ar1 G a 104 120 b0) H)) (QI (fun (r : Int32) (u : FN) => cUn Ns p9 v9 = 0 → unS (Ns (ix p9)) (Ns (ix v9)) (2 ^ nIn (Ns (ix p9))) r) (fun u H => PP G (modO a cy (nI (c2 (cUn Ns p9 v9)))) H ∧ PP G (ar1 G a 104 120 u) H) (orA (rng a 93 1) (rng a 104 1))) 0 0 (orA (rng a 93 1) (rng a 104 1)) := by
  refine Met.ofW (cc := cX12_unlike) (maxL := 5) (ret := (some .int)) (by decide) rfl ?_
  intro p e s m args below meth c s₁ B hml hv
  obtain ⟨rfl, hB, hK, hNW⟩ := hv
  have hx := B.exec
  have hb := B.bytes
  have hr := B.returns
  have hts := atoms_spec (ws := wsX12_unlike) B.pre
  have hown : s.vm.findClass RX12 = some m.cls := findClass_of_methodNamed B.named
  have hlocks := B.notSynchronized
  have FX : CallFix p m c cX12_unlike 5 s ([.ref (a 93), .int p9, .int v9] : List Value).toArray wsX12_unlike RX12 := ⟨hx, hb, hml, hown, hts⟩
  have hl := lv_entry ([.ref (a 93), .int p9, .int v9]) (n := 5) (Nat.le_of_ble_eq_true rfl)
  rw [lg_entry_eq]
  generalize (lg_sl ([.ref (a 93), .int p9, .int v9]) ++ List.replicate (5 - (lg_sl ([.ref (a 93), .int p9, .int v9])).length) Slot.unset).toArray = ls at hl ⊢
  have hl : lv_has ls 5 [(0, .ref (a 93)), (1, .int p9), (2, .int v9)] := hl
  obtain ⟨h_o, h_x, h_y, h_bits⟩ := hB
  have hS : va_S (orA (rng a 93 1) (rng a 104 1)) s.heap s.heap [] := va_S.rf
  refine lv_aload_n hx hb dX12_unlike_0 rfl (lv_at hl 0 rfl) ?_
  refine lv_iload_n hx hb dX12_unlike_1 rfl (lv_at hl 1 rfl) ?_
  refine ro_i (va_runS (As := [.int p9]) (rest := [.ref (a 93)]) FX (c_X12_isNet l G p9) (va_cwS 1 hts gX12_unlike_X12_isNet rfl rfl rfl (by decide +kernel) ⟨Nat.le_of_ble_eq_true rfl, Nat.le_of_ble_eq_true rfl⟩) (preS hK hNW trivial) rfl rfl hl.1 rfl (lv_room (Nat.le_of_ble_eq_true rfl)) dX12_unlike_2 ⟨Nat.le_of_ble_eq_true rfl, Nat.le_of_ble_eq_true rfl⟩) ?_
  refine lv_if_eq (tgt := 15) hx hb dX12_unlike_5 (by decide) (fun c5 => ?_) (fun c5 => ?_)
  · skip
    have c5 := bI_0.mp c5
    refine lv_iconst (v := nI 1) hx hb dX12_unlike_15 (by decide) ?_
    refine lv_goto (tgt := 50) hx hb dX12_unlike_16 (by decide) ?_
    refine pp_put (ci := 12) (v := .int (nI 1)) (ty := .int) (C := RX12) (T := TX12) (N := 23) hx hb hts inX12_unlike_12 tyX12 tyX12_ok nmX12 hown hK h_o hS (Or.inl (rng_in (by omega))) rfl 22 (by decide) (hts (.fieldLink RX12 73 "GateLedgerModel" "thrown" "I") (List.mem_of_getElem? (i := 2) (by decide +kernel))) (fun _ h9 => h9) rfl (by decide +kernel) rfl rfl (Nat.le_of_ble_eq_true rfl) dX12_unlike_50 (fun H locs hP9 hk1 _ hS => ?_)
    have h_o : PP G (modO a cy (nI 1)) H := hP9
    have h_bits : PP G (ar1 G a 104 120 b0) H := kp hk1 h_bits (dj_cons (ne_a ha (by omega)) (dj_nil))
    refine lv_aload_n hx hb dX12_unlike_53 rfl (lv_at hl 0 rfl) ?_
    refine va_get (D := G.1) (ci := 12) (v := .int (nI 1)) (C := RX12) (T := TX12) (N := 23) hx hb hts inX12_unlike_12 hown hK h_o 0 rfl rfl 22 (by decide) (hts (.fieldLink RX12 73 "GateLedgerModel" "thrown" "I") (List.mem_of_getElem? (i := 2) (by decide +kernel))) (fun _ h9 => h9) rfl dX12_unlike_54 ?_
    refine lv_if_le (tgt := 62) hx hb dX12_unlike_57 (by decide) (fun c57 => ?_) (fun c57 => ?_)
    · exact absurd c57 (by decide)
    · skip
      refine lv_iconst (v := nI 0) hx hb dX12_unlike_60 (by decide) ?_
      have e1 : cUn Ns p9 v9 = 1 := if_neg c5
      exact en_wi b0 hx hb hr hlocks hS (fun q => absurd (e1.symm.trans q) (by decide)) (by rw [e1]; exact ⟨h_o, h_bits⟩) dX12_unlike_61
  · skip
    have c5 := bI_1 c5
    obtain ⟨z, hz, ez, ep⟩ := inBd_z c5 (by omega)
    rw [ep] at hl
    have hl : lv_has ls 5 [(0, .ref (a 93)), (1, .int (nI z)), (2, .int v9)] := hl
    have hN := hW _ hz
    have hg9 := hN.g
    have ho9 := hN.o
    have hi9 := hN.2.1
    refine lv_iload_n hx hb dX12_unlike_8 rfl (lv_at hl 2 rfl) ?_
    refine ro_i (va_runS (As := [.int v9]) (rest := [.ref (a 93)]) FX (c_X12_isNet l G v9) (va_cwS 1 hts gX12_unlike_X12_isNet rfl rfl rfl (by decide +kernel) ⟨Nat.le_of_ble_eq_true rfl, Nat.le_of_ble_eq_true rfl⟩) (preS hK hNW trivial) rfl rfl hl.1 rfl (lv_room (Nat.le_of_ble_eq_true rfl)) dX12_unlike_9 ⟨Nat.le_of_ble_eq_true rfl, Nat.le_of_ble_eq_true rfl⟩) ?_
    refine lv_if_ne (tgt := 19) hx hb dX12_unlike_12 (by decide) (fun c12 => ?_) (fun c12 => ?_)
    · skip
      have c12 := bI_1 c12
      obtain ⟨v, hv, ev, epv⟩ := inBd_z c12 (by omega)
      rw [epv] at hl
      have hl : lv_has ls 5 [(0, .ref (a 93)), (1, .int (nI z)), (2, .int (nI v))] := hl
      have hNv := hW _ hv
      have hiv := hNv.2.1
      refine lv_aload_n hx hb dX12_unlike_19 rfl (lv_at hl 0 rfl) ?_
      refine va_get (D := G.1) (ci := 12) (v := .ref (a 99)) (C := RX12) (T := TX12) (N := 23) hx hb hts inX12_unlike_12 hown hK h_o 0 rfl rfl 5 (by decide) (hts (.fieldLink RX12 25 "GateLedgerModel" "inputs" "[I") (List.mem_of_getElem? (i := 1) (by decide +kernel))) (fun _ h9 => h9) rfl dX12_unlike_20 ?_
      refine lv_iload_n hx hb dX12_unlike_23 rfl (lv_at hl 1 rfl) ?_
      refine pp_iald hx hb hK (ro hS h_x (dj_cons (or_no (rng_no ha (by omega)) (rng_no ha (by omega))) (dj_cons (or_no (rng_no ha (by omega)) (rng_no ha (by omega))) (dj_cons (or_no (rng_no ha (by omega)) (rng_no ha (by omega))) (dj_cons (or_no (rng_no ha (by omega)) (rng_no ha (by omega))) (dj_cons (or_no (rng_no ha (by omega)) (rng_no ha (by omega))) (dj_cons (or_no (rng_no ha (by omega)) (rng_no ha (by omega))) (dj_nil)))))))) 5 rfl (vp_in_nI (by omega) (by omega)) dX12_unlike_24 ?_
      refine lv_as (congrArg (IF Ns) (nI_clamp (by omega))) ?_
      refine lv_as (y := nI (nIn (Ns z))) rfl ?_
      refine lv_aload_n hx hb dX12_unlike_25 rfl (lv_at hl 0 rfl) ?_
      refine va_get (D := G.1) (ci := 12) (v := .ref (a 99)) (C := RX12) (T := TX12) (N := 23) hx hb hts inX12_unlike_12 hown hK h_o 0 rfl rfl 5 (by decide) (hts (.fieldLink RX12 25 "GateLedgerModel" "inputs" "[I") (List.mem_of_getElem? (i := 1) (by decide +kernel))) (fun _ h9 => h9) rfl dX12_unlike_26 ?_
      refine lv_iload_n hx hb dX12_unlike_29 rfl (lv_at hl 2 rfl) ?_
      refine pp_iald hx hb hK (ro hS h_x (dj_cons (or_no (rng_no ha (by omega)) (rng_no ha (by omega))) (dj_cons (or_no (rng_no ha (by omega)) (rng_no ha (by omega))) (dj_cons (or_no (rng_no ha (by omega)) (rng_no ha (by omega))) (dj_cons (or_no (rng_no ha (by omega)) (rng_no ha (by omega))) (dj_cons (or_no (rng_no ha (by omega)) (rng_no ha (by omega))) (dj_cons (or_no (rng_no ha (by omega)) (rng_no ha (by omega))) (dj_nil)))))))) 5 rfl (vp_in_nI (by omega) (by omega)) dX12_unlike_30 ?_
      refine lv_as (congrArg (IF Ns) (nI_clamp (by omega))) ?_
      refine lv_as (y := nI (nIn (Ns v))) rfl ?_
      refine lv_icmp_ne (tgt := 45) hx hb dX12_unlike_31 (by decide) (fun c31 => ?_) (fun c31 => ?_)
      · skip
        have c31 := cv_ne (by omega) (by omega) c31
        refine lv_iconst (v := nI 2) hx hb dX12_unlike_45 (by decide) ?_
        refine lv_goto (tgt := 50) hx hb dX12_unlike_46 (by decide) ?_
        refine pp_put (ci := 12) (v := .int (nI 2)) (ty := .int) (C := RX12) (T := TX12) (N := 23) hx hb hts inX12_unlike_12 tyX12 tyX12_ok nmX12 hown hK h_o hS (Or.inl (rng_in (by omega))) rfl 22 (by decide) (hts (.fieldLink RX12 73 "GateLedgerModel" "thrown" "I") (List.mem_of_getElem? (i := 2) (by decide +kernel))) (fun _ h9 => h9) rfl (by decide +kernel) rfl rfl (Nat.le_of_ble_eq_true rfl) dX12_unlike_50 (fun H locs hP9 hk2 _ hS => ?_)
        have h_o : PP G (modO a cy (nI 2)) H := hP9
        have h_bits : PP G (ar1 G a 104 120 b0) H := kp hk2 h_bits (dj_cons (ne_a ha (by omega)) (dj_nil))
        refine lv_aload_n hx hb dX12_unlike_53 rfl (lv_at hl 0 rfl) ?_
        refine va_get (D := G.1) (ci := 12) (v := .int (nI 2)) (C := RX12) (T := TX12) (N := 23) hx hb hts inX12_unlike_12 hown hK h_o 0 rfl rfl 22 (by decide) (hts (.fieldLink RX12 73 "GateLedgerModel" "thrown" "I") (List.mem_of_getElem? (i := 2) (by decide +kernel))) (fun _ h9 => h9) rfl dX12_unlike_54 ?_
        refine lv_if_le (tgt := 62) hx hb dX12_unlike_57 (by decide) (fun c57 => ?_) (fun c57 => ?_)
        · exact absurd c57 (by decide)
        · skip
          refine lv_iconst (v := nI 0) hx hb dX12_unlike_60 (by decide) ?_
          have e1 : cUn Ns p9 v9 = 3 := (if_pos c5).trans ((if_pos c12).trans (if_neg (by rw [ez, ev]; omega)))
          exact en_wi b0 hx hb hr hlocks hS (fun q => absurd (e1.symm.trans q) (by decide)) (by rw [e1]; exact ⟨h_o, h_bits⟩) dX12_unlike_61
      · skip
        have c31 := cv_eq (by omega) (by omega) c31
        refine lv_aload_n hx hb dX12_unlike_34 rfl (lv_at hl 0 rfl) ?_
        refine va_get (D := G.1) (ci := 12) (v := .ref (a 99)) (C := RX12) (T := TX12) (N := 23) hx hb hts inX12_unlike_12 hown hK h_o 0 rfl rfl 5 (by decide) (hts (.fieldLink RX12 25 "GateLedgerModel" "inputs" "[I") (List.mem_of_getElem? (i := 1) (by decide +kernel))) (fun _ h9 => h9) rfl dX12_unlike_35 ?_
        refine lv_iload_n hx hb dX12_unlike_38 rfl (lv_at hl 1 rfl) ?_
        refine pp_iald hx hb hK (ro hS h_x (dj_cons (or_no (rng_no ha (by omega)) (rng_no ha (by omega))) (dj_cons (or_no (rng_no ha (by omega)) (rng_no ha (by omega))) (dj_cons (or_no (rng_no ha (by omega)) (rng_no ha (by omega))) (dj_cons (or_no (rng_no ha (by omega)) (rng_no ha (by omega))) (dj_cons (or_no (rng_no ha (by omega)) (rng_no ha (by omega))) (dj_cons (or_no (rng_no ha (by omega)) (rng_no ha (by omega))) (dj_nil)))))))) 5 rfl (vp_in_nI (by omega) (by omega)) dX12_unlike_39 ?_
        refine lv_as (congrArg (IF Ns) (nI_clamp (by omega))) ?_
        refine lv_as (y := nI (nIn (Ns z))) rfl ?_
        refine lv_bipush (v := nI 12) hx hb dX12_unlike_40 (by decide) ?_
        refine lv_icmp_le (tgt := 49) hx hb dX12_unlike_42 (by decide) (fun c42 => ?_) (fun c42 => ?_)
        · skip
          have c42 := cv_le (by omega) (by omega) c42
          have hpw : 2 ^ nIn (Ns z) ≤ 2 ^ 12 := Nat.pow_le_pow_right (by omega) (by omega)
          refine lv_iconst (v := nI 0) hx hb dX12_unlike_49 (by decide) ?_
          refine pp_put (ci := 12) (v := .int (nI 0)) (ty := .int) (C := RX12) (T := TX12) (N := 23) hx hb hts inX12_unlike_12 tyX12 tyX12_ok nmX12 hown hK h_o hS (Or.inl (rng_in (by omega))) rfl 22 (by decide) (hts (.fieldLink RX12 73 "GateLedgerModel" "thrown" "I") (List.mem_of_getElem? (i := 2) (by decide +kernel))) (fun _ h9 => h9) rfl (by decide +kernel) rfl rfl (Nat.le_of_ble_eq_true rfl) dX12_unlike_50 (fun H locs hP9 hk3 _ hS => ?_)
          have h_o : PP G (modO a cy (nI 0)) H := hP9
          have h_bits : PP G (ar1 G a 104 120 b0) H := kp hk3 h_bits (dj_cons (ne_a ha (by omega)) (dj_nil))
          refine lv_aload_n hx hb dX12_unlike_53 rfl (lv_at hl 0 rfl) ?_
          refine va_get (D := G.1) (ci := 12) (v := .int (nI 0)) (C := RX12) (T := TX12) (N := 23) hx hb hts inX12_unlike_12 hown hK h_o 0 rfl rfl 22 (by decide) (hts (.fieldLink RX12 73 "GateLedgerModel" "thrown" "I") (List.mem_of_getElem? (i := 2) (by decide +kernel))) (fun _ h9 => h9) rfl dX12_unlike_54 ?_
          refine lv_if_le (tgt := 62) hx hb dX12_unlike_57 (by decide) (fun c57 => ?_) (fun c57 => ?_)
          · skip
            refine lv_iconst (v := nI 0) hx hb dX12_unlike_62 (by decide) ?_
            refine lv_istore_n (lv' := [(3, .int (nI 0)), (0, .ref (a 93)), (1, .int (nI z)), (2, .int (nI v))]) hx hb dX12_unlike_63 rfl hl (by decide) rfl (fun ls hl => ?_)
            refine lv_loop2 64 (fun (n : Nat) (b : FN) => 2 ^ nIn (Ns z) - n) (fun (n : Nat) (b : FN) (H : Heap) (locs : List Loc) (ls : Array Slot) => (PP G (modO a cy (nI 0)) H) ∧ (PP G (ar1 G a 104 120 b) H) ∧ (va_S (orA (rng a 93 1) (rng a 104 1)) s.heap H locs) ∧ (lv_has ls 5 [(0, .ref (a 93)), (1, .int (nI z)), (2, .int (nI v)), (3, .int (nI n))]) ∧ (n ≤ 2 ^ nIn (Ns z)) ∧ (∀ y, y < n → dfT (Ns z) (Ns v) y 16 = false)) (fun _ _ => []) (fun n b H locs ls hI ih => ?_) 0 b0 ⟨h_o, h_bits, hS, lv_sub hl [1, 2, 3, 0] rfl, Nat.zero_le _, fun y h => absurd h (Nat.not_lt_zero y)⟩ rfl
            obtain ⟨h_o, h_bits, hS, hl, hn, hdf⟩ := hI
            have ih4 := @ih
            clear ih
            refine lv_iload_n hx hb dX12_unlike_64 rfl (lv_at hl 3 rfl) ?_
            refine lv_iconst (v := nI 1) hx hb dX12_unlike_65 (by decide) ?_
            refine lv_aload_n hx hb dX12_unlike_66 rfl (lv_at hl 0 rfl) ?_
            refine va_get (D := G.1) (ci := 12) (v := .ref (a 99)) (C := RX12) (T := TX12) (N := 23) hx hb hts inX12_unlike_12 hown hK h_o 0 rfl rfl 5 (by decide) (hts (.fieldLink RX12 25 "GateLedgerModel" "inputs" "[I") (List.mem_of_getElem? (i := 1) (by decide +kernel))) (fun _ h9 => h9) rfl dX12_unlike_67 ?_
            refine lv_iload_n hx hb dX12_unlike_70 rfl (lv_at hl 1 rfl) ?_
            refine pp_iald hx hb hK (ro hS h_x (dj_cons (or_no (rng_no ha (by omega)) (rng_no ha (by omega))) (dj_cons (or_no (rng_no ha (by omega)) (rng_no ha (by omega))) (dj_cons (or_no (rng_no ha (by omega)) (rng_no ha (by omega))) (dj_cons (or_no (rng_no ha (by omega)) (rng_no ha (by omega))) (dj_cons (or_no (rng_no ha (by omega)) (rng_no ha (by omega))) (dj_cons (or_no (rng_no ha (by omega)) (rng_no ha (by omega))) (dj_nil)))))))) 5 rfl (vp_in_nI (by omega) (by omega)) dX12_unlike_71 ?_
            refine lv_as (congrArg (IF Ns) (nI_clamp (by omega))) ?_
            refine lv_as (y := nI (nIn (Ns z))) rfl ?_
            refine lv_ishl hx hb dX12_unlike_72 ?_
            refine lv_as (y := nI (2 ^ nIn (Ns z))) (shl1 (by omega)) ?_
            refine lv_icmp_ge (tgt := 103) hx hb dX12_unlike_73 (by decide) (fun c73 => ?_) (fun c73 => ?_)
            · skip
              have c73 := cv_le (by omega) (by omega) c73
              refine lv_iconst (v := -1) hx hb dX12_unlike_103 (by decide) ?_
              have e1 : cUn Ns p9 v9 = 0 := (if_pos c5).trans ((if_pos c12).trans (if_pos (by rw [ez, ev]; omega)))
              exact en_wi b hx hb hr hlocks hS (fun _ => by rw [ez, ev]; exact Or.inl ⟨rfl, fun y h => hdf y (by omega)⟩) (by rw [e1]; exact ⟨h_o, h_bits⟩) dX12_unlike_104
            · skip
              have c73 := cv_nle (by omega) (by omega) c73
              refine lv_aload_n hx hb dX12_unlike_76 rfl (lv_at hl 0 rfl) ?_
              refine lv_iload_n hx hb dX12_unlike_77 rfl (lv_at hl 1 rfl) ?_
              refine lv_iload_n hx hb dX12_unlike_78 rfl (lv_at hl 3 rfl) ?_
              refine wr_i (va_runV (As := [.int (nI z), .int (nI n)]) (rest := []) FX (c_X12_valueOf l G a ha cy (nI 0) Ns z fs sc b n hz hN hFS (by omega)) (cwV 2 hts gX12_unlike_X12_valueOf rfl rfl rfl (by decide +kernel) ⟨Nat.le_of_ble_eq_true rfl, Nat.le_of_ble_eq_true rfl⟩) (preV hK hNW (⟨h_o, (ro hS h_x (dj_cons (or_no (rng_no ha (by omega)) (rng_no ha (by omega))) (dj_cons (or_no (rng_no ha (by omega)) (rng_no ha (by omega))) (dj_cons (or_no (rng_no ha (by omega)) (rng_no ha (by omega))) (dj_cons (or_no (rng_no ha (by omega)) (rng_no ha (by omega))) (dj_cons (or_no (rng_no ha (by omega)) (rng_no ha (by omega))) (dj_cons (or_no (rng_no ha (by omega)) (rng_no ha (by omega))) (dj_nil)))))))), (ro hS h_y (dj_cons (or_no (rng_no ha (by omega)) (rng_no ha (by omega))) (dj_cons (or_no (rng_no ha (by omega)) (rng_no ha (by omega))) (dj_nil)))), h_bits⟩) (va_recv hK h_o (ci := 12) (q0 := 0) rfl rfl)) rfl rfl hl.1 rfl (lv_room (Nat.le_of_ble_eq_true rfl)) dX12_unlike_79 ⟨Nat.le_of_ble_eq_true rfl, Nat.le_of_ble_eq_true rfl⟩) hS (fun q h => Or.inr ((rng_sub (by omega)) q h)) (fun rr u5 H locs er6 hP9 hk7 hS => ?_)
              have h_bits : PP G (ar1 G a 104 120 u5) H := hP9
              have h_o : PP G (modO a cy (nI 0)) H := kp hk7 h_o (dj_cons (rng_no ha (by omega)) (dj_nil))
              refine lv_as (y := vl (Ns z) n) er6 ?_
              refine lv_istore (lv' := [(4, .int (vl (Ns z) n)), (0, .ref (a 93)), (1, .int (nI z)), (2, .int (nI v)), (3, .int (nI n))]) hx hb dX12_unlike_82 hl (by decide) rfl (fun ls hl => ?_)
              refine lv_aload_n hx hb dX12_unlike_84 rfl (lv_at hl 1 rfl) ?_
              refine lv_iload_n hx hb dX12_unlike_85 rfl (lv_at hl 3 rfl) ?_
              refine lv_iload_n hx hb dX12_unlike_86 rfl (lv_at hl 4 rfl) ?_
              refine wr_i (va_runV (As := [.int (nI v), .int (nI n)]) (rest := []) FX (c_X12_valueOf l G a ha cy (nI 0) Ns v fs sc u5 n hv hNv hFS (by omega)) (cwV 2 hts gX12_unlike_X12_valueOf rfl rfl rfl (by decide +kernel) ⟨Nat.le_of_ble_eq_true rfl, Nat.le_of_ble_eq_true rfl⟩) (preV hK hNW (⟨h_o, (ro hS h_x (dj_cons (or_no (rng_no ha (by omega)) (rng_no ha (by omega))) (dj_cons (or_no (rng_no ha (by omega)) (rng_no ha (by omega))) (dj_cons (or_no (rng_no ha (by omega)) (rng_no ha (by omega))) (dj_cons (or_no (rng_no ha (by omega)) (rng_no ha (by omega))) (dj_cons (or_no (rng_no ha (by omega)) (rng_no ha (by omega))) (dj_cons (or_no (rng_no ha (by omega)) (rng_no ha (by omega))) (dj_nil)))))))), (ro hS h_y (dj_cons (or_no (rng_no ha (by omega)) (rng_no ha (by omega))) (dj_cons (or_no (rng_no ha (by omega)) (rng_no ha (by omega))) (dj_nil)))), h_bits⟩) (va_recv hK h_o (ci := 12) (q0 := 0) rfl rfl)) rfl rfl hl.1 rfl (lv_room (Nat.le_of_ble_eq_true rfl)) dX12_unlike_87 ⟨Nat.le_of_ble_eq_true rfl, Nat.le_of_ble_eq_true rfl⟩) hS (fun q h => Or.inr ((rng_sub (by omega)) q h)) (fun rr u9 H locs er10 hP9 hk11 hS => ?_)
              have h_bits : PP G (ar1 G a 104 120 u9) H := hP9
              have h_o : PP G (modO a cy (nI 0)) H := kp hk11 h_o (dj_cons (rng_no ha (by omega)) (dj_nil))
              refine lv_as (y := vl (Ns v) n) er10 ?_
              refine lv_iload hx hb dX12_unlike_90 (lv_at hl 0 rfl) ?_
              refine lv_icmp_eq (tgt := 97) hx hb dX12_unlike_92 (by decide) (fun c92 => ?_) (fun c92 => ?_)
              · skip
                refine lv_iinc (v := nI (n + 1)) (lv' := [(3, .int (nI (n + 1))), (4, .int (vl (Ns z) n)), (0, .ref (a 93)), (1, .int (nI z)), (2, .int (nI v))]) hx hb dX12_unlike_97 hl (k := 4) rfl (by first | exact nI_add _ 1 | decide) (by decide) rfl (fun ls hl => ?_)
                refine lv_goto (tgt := 64) hx hb dX12_unlike_100 (by decide) ?_
                exact ih4 (n + 1) u9 _ _ _ ⟨h_o, h_bits, hS, lv_sub hl [2, 3, 4, 0] rfl, by omega, fun y h => by rcases Nat.lt_succ_iff_lt_or_eq.mp h with h | h; exact hdf y h; rw [h]; exact (vl_df hN hNv).mp c92.symm⟩ (by show 2 ^ nIn (Ns z) - (n + 1) < 2 ^ nIn (Ns z) - n; omega)
              · skip
                refine lv_iload_n hx hb dX12_unlike_95 rfl (lv_at hl 4 rfl) ?_
                have e1 : cUn Ns p9 v9 = 0 := (if_pos c5).trans ((if_pos c12).trans (if_pos (by rw [ez, ev]; omega)))
                exact en_wi u9 hx hb hr hlocks hS (fun _ => by rw [ez, ev]; exact Or.inr ⟨n, by omega, rfl, (by cases h9 : dfT (Ns z) (Ns v) n 16 with | true => rfl | false => exact absurd ((vl_df hN hNv).mpr h9).symm c92), hdf⟩) (by rw [e1]; exact ⟨h_o, h_bits⟩) dX12_unlike_96
          · exact absurd c57 (by decide)
        · skip
          have c42 := cv_nle (by omega) (by omega) c42
          refine lv_iconst (v := nI 2) hx hb dX12_unlike_45 (by decide) ?_
          refine lv_goto (tgt := 50) hx hb dX12_unlike_46 (by decide) ?_
          refine pp_put (ci := 12) (v := .int (nI 2)) (ty := .int) (C := RX12) (T := TX12) (N := 23) hx hb hts inX12_unlike_12 tyX12 tyX12_ok nmX12 hown hK h_o hS (Or.inl (rng_in (by omega))) rfl 22 (by decide) (hts (.fieldLink RX12 73 "GateLedgerModel" "thrown" "I") (List.mem_of_getElem? (i := 2) (by decide +kernel))) (fun _ h9 => h9) rfl (by decide +kernel) rfl rfl (Nat.le_of_ble_eq_true rfl) dX12_unlike_50 (fun H locs hP9 hk13 _ hS => ?_)
          have h_o : PP G (modO a cy (nI 2)) H := hP9
          have h_bits : PP G (ar1 G a 104 120 b0) H := kp hk13 h_bits (dj_cons (ne_a ha (by omega)) (dj_nil))
          refine lv_aload_n hx hb dX12_unlike_53 rfl (lv_at hl 0 rfl) ?_
          refine va_get (D := G.1) (ci := 12) (v := .int (nI 2)) (C := RX12) (T := TX12) (N := 23) hx hb hts inX12_unlike_12 hown hK h_o 0 rfl rfl 22 (by decide) (hts (.fieldLink RX12 73 "GateLedgerModel" "thrown" "I") (List.mem_of_getElem? (i := 2) (by decide +kernel))) (fun _ h9 => h9) rfl dX12_unlike_54 ?_
          refine lv_if_le (tgt := 62) hx hb dX12_unlike_57 (by decide) (fun c57 => ?_) (fun c57 => ?_)
          · exact absurd c57 (by decide)
          · skip
            refine lv_iconst (v := nI 0) hx hb dX12_unlike_60 (by decide) ?_
            have e1 : cUn Ns p9 v9 = 3 := (if_pos c5).trans ((if_pos c12).trans (if_neg (by rw [ez, ev]; omega)))
            exact en_wi b0 hx hb hr hlocks hS (fun q => absurd (e1.symm.trans q) (by decide)) (by rw [e1]; exact ⟨h_o, h_bits⟩) dX12_unlike_61
    · skip
      have c12 := bI_0.mp c12
      refine lv_iconst (v := nI 1) hx hb dX12_unlike_15 (by decide) ?_
      refine lv_goto (tgt := 50) hx hb dX12_unlike_16 (by decide) ?_
      refine pp_put (ci := 12) (v := .int (nI 1)) (ty := .int) (C := RX12) (T := TX12) (N := 23) hx hb hts inX12_unlike_12 tyX12 tyX12_ok nmX12 hown hK h_o hS (Or.inl (rng_in (by omega))) rfl 22 (by decide) (hts (.fieldLink RX12 73 "GateLedgerModel" "thrown" "I") (List.mem_of_getElem? (i := 2) (by decide +kernel))) (fun _ h9 => h9) rfl (by decide +kernel) rfl rfl (Nat.le_of_ble_eq_true rfl) dX12_unlike_50 (fun H locs hP9 hk14 _ hS => ?_)
      have h_o : PP G (modO a cy (nI 1)) H := hP9
      have h_bits : PP G (ar1 G a 104 120 b0) H := kp hk14 h_bits (dj_cons (ne_a ha (by omega)) (dj_nil))
      refine lv_aload_n hx hb dX12_unlike_53 rfl (lv_at hl 0 rfl) ?_
      refine va_get (D := G.1) (ci := 12) (v := .int (nI 1)) (C := RX12) (T := TX12) (N := 23) hx hb hts inX12_unlike_12 hown hK h_o 0 rfl rfl 22 (by decide) (hts (.fieldLink RX12 73 "GateLedgerModel" "thrown" "I") (List.mem_of_getElem? (i := 2) (by decide +kernel))) (fun _ h9 => h9) rfl dX12_unlike_54 ?_
      refine lv_if_le (tgt := 62) hx hb dX12_unlike_57 (by decide) (fun c57 => ?_) (fun c57 => ?_)
      · exact absurd c57 (by decide)
      · skip
        refine lv_iconst (v := nI 0) hx hb dX12_unlike_60 (by decide) ?_
        have e1 : cUn Ns p9 v9 = 1 := (if_pos c5).trans (if_neg c12)
        exact en_wi b0 hx hb hr hlocks hS (fun q => absurd (e1.symm.trans q) (by decide)) (by rw [e1]; exact ⟨h_o, h_bits⟩) dX12_unlike_61
set_option maxRecDepth 20000 in
theorem inX12_digit_12 : ∀ w ∈ u_ws RX12 TX12 23, w ∈ wsX12_digit := by decide +kernel
set_option maxHeartbeats 4000000 in
set_option maxRecDepth 100000 in
/-- digit -/
theorem c_X12_digit (l : Launch) (G : GG) (a : Nat → Nat) (ha : Inj a) (cy th : Int32) (x9 k9 : Int32)  : Met l yX12_digit wsX12_digit ({ frames := 1, cells := 0, slots := 0, locals := 22 } : Room) (PcB G [.ref (a 93), .int x9, .int k9] (fun H => PP G (modO a cy th) H)) (QI (fun (r : Int32) (_ : Unit) => cDi x9 k9 = 0 → r = diV x9 (ix k9)) (fun _ H => PP G (modO a cy (nI (cDi x9 k9))) H) (rng a 93 1)) 0 0 (rng a 93 1) := by
  refine Met.ofW (cc := cX12_digit) (maxL := 4) (ret := (some .int)) (by decide) rfl ?_
  intro p e s m args below meth c s₁ B hml hv
  obtain ⟨rfl, hB, hK, hNW⟩ := hv
  have hx := B.exec
  have hb := B.bytes
  have hr := B.returns
  have hts := atoms_spec (ws := wsX12_digit) B.pre
  have hown : s.vm.findClass RX12 = some m.cls := findClass_of_methodNamed B.named
  have hlocks := B.notSynchronized
  have FX : CallFix p m c cX12_digit 4 s ([.ref (a 93), .int x9, .int k9] : List Value).toArray wsX12_digit RX12 := ⟨hx, hb, hml, hown, hts⟩
  have hl := lv_entry ([.ref (a 93), .int x9, .int k9]) (n := 4) (Nat.le_of_ble_eq_true rfl)
  rw [lg_entry_eq]
  generalize (lg_sl ([.ref (a 93), .int x9, .int k9]) ++ List.replicate (4 - (lg_sl ([.ref (a 93), .int x9, .int k9])).length) Slot.unset).toArray = ls at hl ⊢
  have hl : lv_has ls 4 [(0, .ref (a 93)), (1, .int x9), (2, .int k9)] := hl
  have h_o := hB
  have hS : va_S (rng a 93 1) s.heap s.heap [] := va_S.rf
  refine lv_aload_n hx hb dX12_digit_0 rfl (lv_at hl 0 rfl) ?_
  refine lv_iload_n hx hb dX12_digit_1 rfl (lv_at hl 2 rfl) ?_
  refine lv_iconst (v := nI 0) hx hb dX12_digit_2 (by decide) ?_
  refine lv_bipush (v := nI 15) hx hb dX12_digit_3 (by decide) ?_
  refine ro_i (va_runS (As := [.int k9, .int (nI 0), .int (nI 15)]) (rest := [.ref (a 93)]) FX (c_X12_isIn l G k9 (nI 0) (nI 15)) (va_cwS 3 hts gX12_digit_X12_isIn rfl rfl rfl (by decide +kernel) ⟨Nat.le_of_ble_eq_true rfl, Nat.le_of_ble_eq_true rfl⟩) (preS hK hNW trivial) rfl rfl hl.1 rfl (lv_room (Nat.le_of_ble_eq_true rfl)) dX12_digit_5 ⟨Nat.le_of_ble_eq_true rfl, Nat.le_of_ble_eq_true rfl⟩) ?_
  refine lv_if_ne (tgt := 15) hx hb dX12_digit_8 (by decide) (fun c8 => ?_) (fun c8 => ?_)
  · skip
    have c8 := bI_1 c8
    obtain ⟨k, ek, epk, hk1, hk2⟩ := rg_z c8 (by omega) (by omega)
    rw [epk] at hl
    have hl : lv_has ls 4 [(0, .ref (a 93)), (1, .int x9), (2, .int (nI k))] := hl
    refine lv_iload_n hx hb dX12_digit_15 rfl (lv_at hl 1 rfl) ?_
    refine lv_if_ge (tgt := 23) hx hb dX12_digit_16 (by decide) (fun c16 => ?_) (fun c16 => ?_)
    · skip
      refine lv_iconst (v := nI 0) hx hb dX12_digit_23 (by decide) ?_
      refine pp_put (ci := 12) (v := .int (nI 0)) (ty := .int) (C := RX12) (T := TX12) (N := 23) hx hb hts inX12_digit_12 tyX12 tyX12_ok nmX12 hown hK h_o hS (rng_in (by omega)) rfl 22 (by decide) (hts (.fieldLink RX12 73 "GateLedgerModel" "thrown" "I") (List.mem_of_getElem? (i := 1) (by decide +kernel))) (fun _ h9 => h9) rfl (by decide +kernel) rfl rfl (Nat.le_of_ble_eq_true rfl) dX12_digit_24 (fun H locs hP9 hk1 _ hS => ?_)
      have h_o : PP G (modO a cy (nI 0)) H := hP9
      refine lv_aload_n hx hb dX12_digit_27 rfl (lv_at hl 0 rfl) ?_
      refine va_get (D := G.1) (ci := 12) (v := .int (nI 0)) (C := RX12) (T := TX12) (N := 23) hx hb hts inX12_digit_12 hown hK h_o 0 rfl rfl 22 (by decide) (hts (.fieldLink RX12 73 "GateLedgerModel" "thrown" "I") (List.mem_of_getElem? (i := 1) (by decide +kernel))) (fun _ h9 => h9) rfl dX12_digit_28 ?_
      refine lv_if_le (tgt := 36) hx hb dX12_digit_31 (by decide) (fun c31 => ?_) (fun c31 => ?_)
      · skip
        refine lv_iload_n hx hb dX12_digit_36 rfl (lv_at hl 2 rfl) ?_
        refine lv_if_ne (tgt := 44) hx hb dX12_digit_37 (by decide) (fun c37 => ?_) (fun c37 => ?_)
        · skip
          have c37 := cv_ne (by omega) (by omega) (show ¬ nI k = nI 0 from c37)
          refine lv_iload_n hx hb dX12_digit_44 rfl (lv_at hl 1 rfl) ?_
          refine lv_iconst (v := nI 2) hx hb dX12_digit_45 (by decide) ?_
          refine lv_iload_n hx hb dX12_digit_46 rfl (lv_at hl 2 rfl) ?_
          refine lv_imul hx hb dX12_digit_47 ?_
          refine lv_as (pk_mul _ _) ?_
          refine lv_iconst (v := nI 1) hx hb dX12_digit_48 (by decide) ?_
          refine lv_isub hx hb dX12_digit_49 ?_
          refine lv_as (pk_sub (by omega)) ?_
          refine lv_ishr hx hb dX12_digit_50 ?_
          refine lv_iconst (v := nI 1) hx hb dX12_digit_51 (by decide) ?_
          refine lv_iand hx hb dX12_digit_52 ?_
          refine lv_istore_n (lv' := [(3, .int ((x9 >>> ((nI ((2 * k) - 1)) &&& 31)) &&& (nI 1))), (0, .ref (a 93)), (1, .int x9), (2, .int (nI k))]) hx hb dX12_digit_53 rfl hl (by decide) rfl (fun ls hl => ?_)
          refine lv_iload_n hx hb dX12_digit_54 rfl (lv_at hl 2 rfl) ?_
          refine lv_iconst (v := nI 2) hx hb dX12_digit_55 (by decide) ?_
          refine lv_iload_n hx hb dX12_digit_56 rfl (lv_at hl 3 rfl) ?_
          refine lv_imul hx hb dX12_digit_57 ?_
          refine lv_as (pk_mul _ _) ?_
          refine lv_ishr hx hb dX12_digit_58 ?_
          refine lv_iconst (v := nI 1) hx hb dX12_digit_59 (by decide) ?_
          refine lv_iand hx hb dX12_digit_60 ?_
          refine lv_iload_n hx hb dX12_digit_61 rfl (lv_at hl 0 rfl) ?_
          refine lv_iadd hx hb dX12_digit_62 ?_
          refine lv_iconst (v := nI 2) hx hb dX12_digit_63 (by decide) ?_
          refine lv_iload_n hx hb dX12_digit_64 rfl (lv_at hl 2 rfl) ?_
          refine lv_iconst (v := nI 2) hx hb dX12_digit_65 (by decide) ?_
          refine lv_iload_n hx hb dX12_digit_66 rfl (lv_at hl 3 rfl) ?_
          refine lv_imul hx hb dX12_digit_67 ?_
          refine lv_as (pk_mul _ _) ?_
          refine lv_iconst (v := nI 1) hx hb dX12_digit_68 (by decide) ?_
          refine lv_iadd hx hb dX12_digit_69 ?_
          refine lv_as (nI_add _ _) ?_
          refine lv_ishr hx hb dX12_digit_70 ?_
          refine lv_iconst (v := nI 1) hx hb dX12_digit_71 (by decide) ?_
          refine lv_iand hx hb dX12_digit_72 ?_
          refine lv_imul hx hb dX12_digit_73 ?_
          refine lv_isub hx hb dX12_digit_74 ?_
          have e1 : cDi x9 k9 = 0 := (if_pos c8).trans (if_pos ⟨Int32.not_lt.mpr c16, le_mx⟩)
          exact en_wi () hx hb hr hlocks hS (fun _ => by rw [ek]; unfold diV; first | rw [if_pos c37] | rw [if_neg c37]) (by rw [e1]; exact h_o) dX12_digit_75
        · skip
          have c37 := cv_eq (by omega) (by omega) (show nI k = nI 0 from c37)
          refine lv_iconst (v := nI 0) hx hb dX12_digit_40 (by decide) ?_
          refine lv_goto (tgt := 53) hx hb dX12_digit_41 (by decide) ?_
          refine lv_istore_n (lv' := [(3, .int (nI 0)), (0, .ref (a 93)), (1, .int x9), (2, .int (nI k))]) hx hb dX12_digit_53 rfl hl (by decide) rfl (fun ls hl => ?_)
          refine lv_iload_n hx hb dX12_digit_54 rfl (lv_at hl 2 rfl) ?_
          refine lv_iconst (v := nI 2) hx hb dX12_digit_55 (by decide) ?_
          refine lv_iload_n hx hb dX12_digit_56 rfl (lv_at hl 3 rfl) ?_
          refine lv_imul hx hb dX12_digit_57 ?_
          refine lv_as (pk_mul _ _) ?_
          refine lv_ishr hx hb dX12_digit_58 ?_
          refine lv_iconst (v := nI 1) hx hb dX12_digit_59 (by decide) ?_
          refine lv_iand hx hb dX12_digit_60 ?_
          refine lv_iload_n hx hb dX12_digit_61 rfl (lv_at hl 0 rfl) ?_
          refine lv_iadd hx hb dX12_digit_62 ?_
          refine lv_iconst (v := nI 2) hx hb dX12_digit_63 (by decide) ?_
          refine lv_iload_n hx hb dX12_digit_64 rfl (lv_at hl 2 rfl) ?_
          refine lv_iconst (v := nI 2) hx hb dX12_digit_65 (by decide) ?_
          refine lv_iload_n hx hb dX12_digit_66 rfl (lv_at hl 3 rfl) ?_
          refine lv_imul hx hb dX12_digit_67 ?_
          refine lv_as (pk_mul _ _) ?_
          refine lv_iconst (v := nI 1) hx hb dX12_digit_68 (by decide) ?_
          refine lv_iadd hx hb dX12_digit_69 ?_
          refine lv_as (nI_add _ _) ?_
          refine lv_ishr hx hb dX12_digit_70 ?_
          refine lv_iconst (v := nI 1) hx hb dX12_digit_71 (by decide) ?_
          refine lv_iand hx hb dX12_digit_72 ?_
          refine lv_imul hx hb dX12_digit_73 ?_
          refine lv_isub hx hb dX12_digit_74 ?_
          have e1 : cDi x9 k9 = 0 := (if_pos c8).trans (if_pos ⟨Int32.not_lt.mpr c16, le_mx⟩)
          exact en_wi () hx hb hr hlocks hS (fun _ => by rw [ek]; unfold diV; first | rw [if_pos c37] | rw [if_neg c37]) (by rw [e1]; exact h_o) dX12_digit_75
      · exact absurd c31 (by decide)
    · skip
      refine lv_iconst (v := nI 2) hx hb dX12_digit_19 (by decide) ?_
      refine lv_goto (tgt := 24) hx hb dX12_digit_20 (by decide) ?_
      refine pp_put (ci := 12) (v := .int (nI 2)) (ty := .int) (C := RX12) (T := TX12) (N := 23) hx hb hts inX12_digit_12 tyX12 tyX12_ok nmX12 hown hK h_o hS (rng_in (by omega)) rfl 22 (by decide) (hts (.fieldLink RX12 73 "GateLedgerModel" "thrown" "I") (List.mem_of_getElem? (i := 1) (by decide +kernel))) (fun _ h9 => h9) rfl (by decide +kernel) rfl rfl (Nat.le_of_ble_eq_true rfl) dX12_digit_24 (fun H locs hP9 hk2 _ hS => ?_)
      have h_o : PP G (modO a cy (nI 2)) H := hP9
      refine lv_aload_n hx hb dX12_digit_27 rfl (lv_at hl 0 rfl) ?_
      refine va_get (D := G.1) (ci := 12) (v := .int (nI 2)) (C := RX12) (T := TX12) (N := 23) hx hb hts inX12_digit_12 hown hK h_o 0 rfl rfl 22 (by decide) (hts (.fieldLink RX12 73 "GateLedgerModel" "thrown" "I") (List.mem_of_getElem? (i := 1) (by decide +kernel))) (fun _ h9 => h9) rfl dX12_digit_28 ?_
      refine lv_if_le (tgt := 36) hx hb dX12_digit_31 (by decide) (fun c31 => ?_) (fun c31 => ?_)
      · exact absurd c31 (by decide)
      · skip
        refine lv_iconst (v := nI 0) hx hb dX12_digit_34 (by decide) ?_
        have e1 : cDi x9 k9 = 2 := (if_pos c8).trans (if_neg (fun q => c16 (Int32.not_lt.mp q.1)))
        exact en_wi () hx hb hr hlocks hS (fun q => absurd (e1.symm.trans q) (by decide)) (by rw [e1]; exact h_o) dX12_digit_35
  · skip
    have c8 := bI_0.mp c8
    refine lv_iconst (v := nI 1) hx hb dX12_digit_11 (by decide) ?_
    refine lv_goto (tgt := 24) hx hb dX12_digit_12 (by decide) ?_
    refine pp_put (ci := 12) (v := .int (nI 1)) (ty := .int) (C := RX12) (T := TX12) (N := 23) hx hb hts inX12_digit_12 tyX12 tyX12_ok nmX12 hown hK h_o hS (rng_in (by omega)) rfl 22 (by decide) (hts (.fieldLink RX12 73 "GateLedgerModel" "thrown" "I") (List.mem_of_getElem? (i := 1) (by decide +kernel))) (fun _ h9 => h9) rfl (by decide +kernel) rfl rfl (Nat.le_of_ble_eq_true rfl) dX12_digit_24 (fun H locs hP9 hk3 _ hS => ?_)
    have h_o : PP G (modO a cy (nI 1)) H := hP9
    refine lv_aload_n hx hb dX12_digit_27 rfl (lv_at hl 0 rfl) ?_
    refine va_get (D := G.1) (ci := 12) (v := .int (nI 1)) (C := RX12) (T := TX12) (N := 23) hx hb hts inX12_digit_12 hown hK h_o 0 rfl rfl 22 (by decide) (hts (.fieldLink RX12 73 "GateLedgerModel" "thrown" "I") (List.mem_of_getElem? (i := 1) (by decide +kernel))) (fun _ h9 => h9) rfl dX12_digit_28 ?_
    refine lv_if_le (tgt := 36) hx hb dX12_digit_31 (by decide) (fun c31 => ?_) (fun c31 => ?_)
    · exact absurd c31 (by decide)
    · skip
      refine lv_iconst (v := nI 0) hx hb dX12_digit_34 (by decide) ?_
      have e1 : cDi x9 k9 = 1 := if_neg c8
      exact en_wi () hx hb hr hlocks hS (fun q => absurd (e1.symm.trans q) (by decide)) (by rw [e1]; exact h_o) dX12_digit_35
