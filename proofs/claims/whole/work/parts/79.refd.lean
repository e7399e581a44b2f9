set_option maxRecDepth 20000 in
theorem inX12_input_12 : ∀ w ∈ u_ws RX12 TX12 23, w ∈ wsX12_input := by decide +kernel
set_option maxHeartbeats 4000000 in
set_option maxRecDepth 100000 in
/-- input -/
theorem c_X12_input (l : Launch) (G : GG) (a : Nat → Nat) (ha : Inj a) (cy th : Int32) (Ns : Nat → NT) (fs sc : FN) (p9 : Int32) (hW : ∀ z, z < 4 → WF (Ns z)) (hFS : FS Ns fs sc)  : Met l yX12_input wsX12_input ({ frames := 2, cells := 0, slots := 0, locals := 42 } : Room) (PcB G [.ref (a 93), .int p9] (fun H => PP G (modO a cy th) H ∧ PP G (sixW G a Ns fs sc) H)) (QI (fun (r : Int32) (u : FN × FN × Unit) => (cIn Ns p9 = 0 → r = nI (nG (Ns (ix p9)))) ∧ FS (stN (cIn Ns p9) (upN Ns (ix p9) (addI (Ns (ix p9)))) Ns) u.1 u.2.1) (fun u H => PP G (modO a cy (nI (c2 (cIn Ns p9)))) H ∧ PP G (sixW G a (stN (cIn Ns p9) (upN Ns (ix p9) (addI (Ns (ix p9)))) Ns) u.1 u.2.1) H) (rng a 93 7)) 0 0 (rng a 93 7) := by
  refine Met.ofW (cc := cX12_input) (maxL := 2) (ret := (some .int)) (by decide) rfl ?_
  intro p e s m args below meth c s₁ B hml hv
  obtain ⟨rfl, hB, hK, hNW⟩ := hv
  have hx := B.exec
  have hb := B.bytes
  have hr := B.returns
  have hts := atoms_spec (ws := wsX12_input) B.pre
  have hown : s.vm.findClass RX12 = some m.cls := findClass_of_methodNamed B.named
  have hlocks := B.notSynchronized
  have FX : CallFix p m c cX12_input 2 s ([.ref (a 93), .int p9] : List Value).toArray wsX12_input RX12 := ⟨hx, hb, hml, hown, hts⟩
  have hl := lv_entry ([.ref (a 93), .int p9]) (n := 2) (Nat.le_of_ble_eq_true rfl)
  rw [lg_entry_eq]
  generalize (lg_sl ([.ref (a 93), .int p9]) ++ List.replicate (2 - (lg_sl ([.ref (a 93), .int p9])).length) Slot.unset).toArray = ls at hl ⊢
  have hl : lv_has ls 2 [(0, .ref (a 93)), (1, .int p9)] := hl
  obtain ⟨h_o, h_x⟩ := hB
  have hS : va_S (rng a 93 7) s.heap s.heap [] := va_S.rf
  refine lv_aload_n hx hb dX12_input_0 rfl (lv_at hl 0 rfl) ?_
  refine lv_iload_n hx hb dX12_input_1 rfl (lv_at hl 1 rfl) ?_
  refine ro_i (va_runS (As := [.int p9]) (rest := [.ref (a 93)]) FX (c_X12_isNet l G p9) (va_cwS 1 hts gX12_input_X12_isNet rfl rfl rfl (by decide +kernel) ⟨Nat.le_of_ble_eq_true rfl, Nat.le_of_ble_eq_true rfl⟩) (preS hK hNW trivial) rfl rfl hl.1 rfl (lv_room (Nat.le_of_ble_eq_true rfl)) dX12_input_2 ⟨Nat.le_of_ble_eq_true rfl, Nat.le_of_ble_eq_true rfl⟩) ?_
  refine lv_if_ne (tgt := 12) hx hb dX12_input_5 (by decide) (fun c5 => ?_) (fun c5 => ?_)
  · skip
    have c5 := bI_1 c5
    obtain ⟨z, hz, ez, ep⟩ := inBd_z c5 (by omega)
    rw [ep] at hl
    have hl : lv_has ls 2 [(0, .ref (a 93)), (1, .int (nI z))] := hl
    have hN := hW _ hz
    have hg9 := hN.g
    have ho9 := hN.o
    have hi9 := hN.2.1
    refine lv_aload_n hx hb dX12_input_12 rfl (lv_at hl 0 rfl) ?_
    refine va_get (D := G.1) (ci := 12) (v := .ref (a 98)) (C := RX12) (T := TX12) (N := 23) hx hb hts inX12_input_12 hown hK h_o 0 rfl rfl 4 (by decide) (hts (.fieldLink RX12 22 "GateLedgerModel" "many" "[I") (List.mem_of_getElem? (i := 1) (by decide +kernel))) (fun _ h9 => h9) rfl dX12_input_13 ?_
    refine lv_iload_n hx hb dX12_input_16 rfl (lv_at hl 1 rfl) ?_
    refine pp_iald hx hb hK h_x 4 rfl (vp_in_nI (by omega) (by omega)) dX12_input_17 ?_
    refine lv_as (congrArg (MF Ns) (nI_clamp (by omega))) ?_
    refine lv_as (y := nI (nG (Ns z))) rfl ?_
    refine lv_bipush (v := nI 120) hx hb dX12_input_18 (by decide) ?_
    refine lv_icmp_eq (tgt := 34) hx hb dX12_input_20 (by decide) (fun c20 => ?_) (fun c20 => ?_)
    · skip
      have c20 := cv_eq (by omega) (by omega) c20
      refine lv_iconst (v := nI 2) hx hb dX12_input_34 (by decide) ?_
      refine lv_goto (tgt := 39) hx hb dX12_input_35 (by decide) ?_
      refine pp_put (ci := 12) (v := .int (nI 2)) (ty := .int) (C := RX12) (T := TX12) (N := 23) hx hb hts inX12_input_12 tyX12 tyX12_ok nmX12 hown hK h_o hS (rng_in (by omega)) rfl 22 (by decide) (hts (.fieldLink RX12 73 "GateLedgerModel" "thrown" "I") (List.mem_of_getElem? (i := 3) (by decide +kernel))) (fun _ h9 => h9) rfl (by decide +kernel) rfl rfl (Nat.le_of_ble_eq_true rfl) dX12_input_39 (fun H locs hP9 hk1 _ hS => ?_)
      have h_o : PP G (modO a cy (nI 2)) H := hP9
      have h_x : PP G (sixW G a Ns fs sc) H := kp hk1 h_x (dj_cons (ne_a ha (by omega)) (dj_cons (ne_a ha (by omega)) (dj_cons (ne_a ha (by omega)) (dj_cons (ne_a ha (by omega)) (dj_cons (ne_a ha (by omega)) (dj_cons (ne_a ha (by omega)) (dj_nil)))))))
      refine lv_aload_n hx hb dX12_input_42 rfl (lv_at hl 0 rfl) ?_
      refine va_get (D := G.1) (ci := 12) (v := .int (nI 2)) (C := RX12) (T := TX12) (N := 23) hx hb hts inX12_input_12 hown hK h_o 0 rfl rfl 22 (by decide) (hts (.fieldLink RX12 73 "GateLedgerModel" "thrown" "I") (List.mem_of_getElem? (i := 3) (by decide +kernel))) (fun _ h9 => h9) rfl dX12_input_43 ?_
      refine lv_if_le (tgt := 53) hx hb dX12_input_46 (by decide) (fun c46 => ?_) (fun c46 => ?_)
      · exact absurd c46 (by decide)
      · skip
        refine lv_iconst (v := nI 0) hx hb dX12_input_49 (by decide) ?_
        refine lv_goto (tgt := 61) hx hb dX12_input_50 (by decide) ?_
        have e1 : cIn Ns p9 = 3 := (if_pos c5).trans (if_neg (fun q => by rw [ez] at q; omega))
        exact en_wi (fs, sc, ()) hx hb hr hlocks hS ⟨fun q => absurd (e1.symm.trans q) (by decide), by rw [stN_n e1 (by decide)]; exact hFS⟩ (by rw [stN_n e1 (by decide), e1]; exact ⟨h_o, h_x⟩) dX12_input_61
    · skip
      have c20 := cv_ne (by omega) (by omega) c20
      refine lv_aload_n hx hb dX12_input_23 rfl (lv_at hl 0 rfl) ?_
      refine va_get (D := G.1) (ci := 12) (v := .ref (a 99)) (C := RX12) (T := TX12) (N := 23) hx hb hts inX12_input_12 hown hK h_o 0 rfl rfl 5 (by decide) (hts (.fieldLink RX12 25 "GateLedgerModel" "inputs" "[I") (List.mem_of_getElem? (i := 2) (by decide +kernel))) (fun _ h9 => h9) rfl dX12_input_24 ?_
      refine lv_iload_n hx hb dX12_input_27 rfl (lv_at hl 1 rfl) ?_
      refine pp_iald hx hb hK h_x 5 rfl (vp_in_nI (by omega) (by omega)) dX12_input_28 ?_
      refine lv_as (congrArg (IF Ns) (nI_clamp (by omega))) ?_
      refine lv_as (y := nI (nIn (Ns z))) rfl ?_
      refine lv_bipush (v := nI 30) hx hb dX12_input_29 (by decide) ?_
      refine lv_icmp_ne (tgt := 38) hx hb dX12_input_31 (by decide) (fun c31 => ?_) (fun c31 => ?_)
      · skip
        have c31 := cv_ne (by omega) (by omega) c31
        refine lv_iconst (v := nI 0) hx hb dX12_input_38 (by decide) ?_
        refine pp_put (ci := 12) (v := .int (nI 0)) (ty := .int) (C := RX12) (T := TX12) (N := 23) hx hb hts inX12_input_12 tyX12 tyX12_ok nmX12 hown hK h_o hS (rng_in (by omega)) rfl 22 (by decide) (hts (.fieldLink RX12 73 "GateLedgerModel" "thrown" "I") (List.mem_of_getElem? (i := 3) (by decide +kernel))) (fun _ h9 => h9) rfl (by decide +kernel) rfl rfl (Nat.le_of_ble_eq_true rfl) dX12_input_39 (fun H locs hP9 hk2 _ hS => ?_)
        have h_o : PP G (modO a cy (nI 0)) H := hP9
        have h_x : PP G (sixW G a Ns fs sc) H := kp hk2 h_x (dj_cons (ne_a ha (by omega)) (dj_cons (ne_a ha (by omega)) (dj_cons (ne_a ha (by omega)) (dj_cons (ne_a ha (by omega)) (dj_cons (ne_a ha (by omega)) (dj_cons (ne_a ha (by omega)) (dj_nil)))))))
        refine lv_aload_n hx hb dX12_input_42 rfl (lv_at hl 0 rfl) ?_
        refine va_get (D := G.1) (ci := 12) (v := .int (nI 0)) (C := RX12) (T := TX12) (N := 23) hx hb hts inX12_input_12 hown hK h_o 0 rfl rfl 22 (by decide) (hts (.fieldLink RX12 73 "GateLedgerModel" "thrown" "I") (List.mem_of_getElem? (i := 3) (by decide +kernel))) (fun _ h9 => h9) rfl dX12_input_43 ?_
        refine lv_if_le (tgt := 53) hx hb dX12_input_46 (by decide) (fun c46 => ?_) (fun c46 => ?_)
        · skip
          have h_x : PP G (sixW G a (upN Ns z (Ns z)) fs sc) H := by rw [upN_self]; exact h_x
          have hFS : FS (upN Ns z (Ns z)) fs sc := by rw [upN_self]; exact hFS
          refine lv_aload_n hx hb dX12_input_53 rfl (lv_at hl 0 rfl) ?_
          refine lv_iload_n hx hb dX12_input_54 rfl (lv_at hl 1 rfl) ?_
          refine lv_iconst (v := nI 4) hx hb dX12_input_55 (by decide) ?_
          refine lv_iconst (v := -1) hx hb dX12_input_56 (by decide) ?_
          refine lv_iconst (v := -1) hx hb dX12_input_57 (by decide) ?_
          refine wr_i (va_runV (As := [.int (nI z), .int (nI 4), .int (-1), .int (-1)]) (rest := []) FX (c_X12_addsI l G a ha cy (nI 0) Ns z (Ns z) fs sc hz (by omega) hFS) (cwV 4 hts gX12_input_X12_adds rfl rfl rfl (by decide +kernel) ⟨Nat.le_of_ble_eq_true rfl, Nat.le_of_ble_eq_true rfl⟩) (preV hK hNW (⟨h_o, h_x⟩) (va_recv hK h_o (ci := 12) (q0 := 0) rfl rfl)) rfl rfl hl.1 rfl (lv_room (Nat.le_of_ble_eq_true rfl)) dX12_input_58 ⟨Nat.le_of_ble_eq_true rfl, Nat.le_of_ble_eq_true rfl⟩) hS (rng_sub (by omega)) (fun rr v3 H locs ⟨er5, hF4⟩ hP9 hk6 hS => ?_)
          have h_x : PP G (sixW G a (upN Ns z (addI (Ns z))) v3.1 v3.2) H := hP9
          have h_o : PP G (modO a cy (nI 0)) H := kp hk6 h_o (dj_cons (rng_no ha (by omega)) (dj_nil))
          refine lv_as (y := nI (nG (Ns z))) er5 ?_
          have e1 : cIn Ns p9 = 0 := (if_pos c5).trans (if_pos (by rw [ez]; omega))
          exact en_wi (v3.1, v3.2, ()) hx hb hr hlocks hS ⟨fun _ => by rw [ez], by rw [stN_0 e1, ez]; exact hF4⟩ (by rw [stN_0 e1, e1, ez]; exact ⟨h_o, h_x⟩) dX12_input_61
        · exact absurd c46 (by decide)
      · skip
        have c31 := cv_eq (by omega) (by omega) c31
        refine lv_iconst (v := nI 2) hx hb dX12_input_34 (by decide) ?_
        refine lv_goto (tgt := 39) hx hb dX12_input_35 (by decide) ?_
        refine pp_put (ci := 12) (v := .int (nI 2)) (ty := .int) (C := RX12) (T := TX12) (N := 23) hx hb hts inX12_input_12 tyX12 tyX12_ok nmX12 hown hK h_o hS (rng_in (by omega)) rfl 22 (by decide) (hts (.fieldLink RX12 73 "GateLedgerModel" "thrown" "I") (List.mem_of_getElem? (i := 3) (by decide +kernel))) (fun _ h9 => h9) rfl (by decide +kernel) rfl rfl (Nat.le_of_ble_eq_true rfl) dX12_input_39 (fun H locs hP9 hk8 _ hS => ?_)
        have h_o : PP G (modO a cy (nI 2)) H := hP9
        have h_x : PP G (sixW G a Ns fs sc) H := kp hk8 h_x (dj_cons (ne_a ha (by omega)) (dj_cons (ne_a ha (by omega)) (dj_cons (ne_a ha (by omega)) (dj_cons (ne_a ha (by omega)) (dj_cons (ne_a ha (by omega)) (dj_cons (ne_a ha (by omega)) (dj_nil)))))))
        refine lv_aload_n hx hb dX12_input_42 rfl (lv_at hl 0 rfl) ?_
        refine va_get (D := G.1) (ci := 12) (v := .int (nI 2)) (C := RX12) (T := TX12) (N := 23) hx hb hts inX12_input_12 hown hK h_o 0 rfl rfl 22 (by decide) (hts (.fieldLink RX12 73 "GateLedgerModel" "thrown" "I") (List.mem_of_getElem? (i := 3) (by decide +kernel))) (fun _ h9 => h9) rfl dX12_input_43 ?_
        refine lv_if_le (tgt := 53) hx hb dX12_input_46 (by decide) (fun c46 => ?_) (fun c46 => ?_)
        · exact absurd c46 (by decide)
        · skip
          refine lv_iconst (v := nI 0) hx hb dX12_input_49 (by decide) ?_
          refine lv_goto (tgt := 61) hx hb dX12_input_50 (by decide) ?_
          have e1 : cIn Ns p9 = 3 := (if_pos c5).trans (if_neg (fun q => by rw [ez] at q; omega))
          exact en_wi (fs, sc, ()) hx hb hr hlocks hS ⟨fun q => absurd (e1.symm.trans q) (by decide), by rw [stN_n e1 (by decide)]; exact hFS⟩ (by rw [stN_n e1 (by decide), e1]; exact ⟨h_o, h_x⟩) dX12_input_61
  · skip
    have c5 := bI_0.mp c5
    refine lv_iconst (v := nI 1) hx hb dX12_input_8 (by decide) ?_
    refine lv_goto (tgt := 39) hx hb dX12_input_9 (by decide) ?_
    refine pp_put (ci := 12) (v := .int (nI 1)) (ty := .int) (C := RX12) (T := TX12) (N := 23) hx hb hts inX12_input_12 tyX12 tyX12_ok nmX12 hown hK h_o hS (rng_in (by omega)) rfl 22 (by decide) (hts (.fieldLink RX12 73 "GateLedgerModel" "thrown" "I") (List.mem_of_getElem? (i := 3) (by decide +kernel))) (fun _ h9 => h9) rfl (by decide +kernel) rfl rfl (Nat.le_of_ble_eq_true rfl) dX12_input_39 (fun H locs hP9 hk9 _ hS => ?_)
    have h_o : PP G (modO a cy (nI 1)) H := hP9
    have h_x : PP G (sixW G a Ns fs sc) H := kp hk9 h_x (dj_cons (ne_a ha (by omega)) (dj_cons (ne_a ha (by omega)) (dj_cons (ne_a ha (by omega)) (dj_cons (ne_a ha (by omega)) (dj_cons (ne_a ha (by omega)) (dj_cons (ne_a ha (by omega)) (dj_nil)))))))
    refine lv_aload_n hx hb dX12_input_42 rfl (lv_at hl 0 rfl) ?_
    refine va_get (D := G.1) (ci := 12) (v := .int (nI 1)) (C := RX12) (T := TX12) (N := 23) hx hb hts inX12_input_12 hown hK h_o 0 rfl rfl 22 (by decide) (hts (.fieldLink RX12 73 "GateLedgerModel" "thrown" "I") (List.mem_of_getElem? (i := 3) (by decide +kernel))) (fun _ h9 => h9) rfl dX12_input_43 ?_
    refine lv_if_le (tgt := 53) hx hb dX12_input_46 (by decide) (fun c46 => ?_) (fun c46 => ?_)
    · exact absurd c46 (by decide)
    · skip
      refine lv_iconst (v := nI 0) hx hb dX12_input_49 (by decide) ?_
      refine lv_goto (tgt := 61) hx hb dX12_input_50 (by decide) ?_
      have e1 : cIn Ns p9 = 1 := if_neg c5
      exact en_wi (fs, sc, ()) hx hb hr hlocks hS ⟨fun q => absurd (e1.symm.trans q) (by decide), by rw [stN_n e1 (by decide)]; exact hFS⟩ (by rw [stN_n e1 (by decide), e1]; exact ⟨h_o, h_x⟩) dX12_input_61
set_option maxRecDepth 20000 in
theorem inX12_out_12 : ∀ w ∈ u_ws RX12 TX12 23, w ∈ wsX12_out := by decide +kernel
set_option maxHeartbeats 4000000 in
set_option maxRecDepth 100000 in
/-- out -/
theorem c_X12_out (l : Launch) (G : GG) (a : Nat → Nat) (ha : Inj a) (cy th : Int32) (Ns : Nat → NT) (fs sc : FN) (p9 g9 : Int32) (hW : ∀ z, z < 4 → WF (Ns z))  : Met l yX12_out wsX12_out ({ frames := 3, cells := 0, slots := 0, locals := 64 } : Room) (PcB G [.ref (a 93), .int p9, .int g9] (fun H => PP G (modO a cy th) H ∧ PP G (sixW G a Ns fs sc) H ∧ PP G (twoW G a Ns) H)) (QI (fun (r : Int32) (u : Unit) => (cOu Ns p9 g9 = 0 → r = nI (nO (Ns (ix p9)))) ∧ True) (fun u H => PP G (modO a cy (nI (c2 (cOu Ns p9 g9)))) H ∧ PP G (twoW G a (stN (cOu Ns p9 g9) (upN Ns (ix p9) (addO (Ns (ix p9)) (ix g9))) Ns)) H) (orA (rng a 93 1) (rng a 100 2))) 0 0 (orA (rng a 93 1) (rng a 100 2)) := by
  refine Met.ofW (cc := cX12_out) (maxL := 3) (ret := (some .int)) (by decide) rfl ?_
  intro p e s m args below meth c s₁ B hml hv
  obtain ⟨rfl, hB, hK, hNW⟩ := hv
  have hx := B.exec
  have hb := B.bytes
  have hr := B.returns
  have hts := atoms_spec (ws := wsX12_out) B.pre
  have hown : s.vm.findClass RX12 = some m.cls := findClass_of_methodNamed B.named
  have hlocks := B.notSynchronized
  have FX : CallFix p m c cX12_out 3 s ([.ref (a 93), .int p9, .int g9] : List Value).toArray wsX12_out RX12 := ⟨hx, hb, hml, hown, hts⟩
  have hl := lv_entry ([.ref (a 93), .int p9, .int g9]) (n := 3) (Nat.le_of_ble_eq_true rfl)
  rw [lg_entry_eq]
  generalize (lg_sl ([.ref (a 93), .int p9, .int g9]) ++ List.replicate (3 - (lg_sl ([.ref (a 93), .int p9, .int g9])).length) Slot.unset).toArray = ls at hl ⊢
  have hl : lv_has ls 3 [(0, .ref (a 93)), (1, .int p9), (2, .int g9)] := hl
  obtain ⟨h_o, h_x, h_y⟩ := hB
  have hS : va_S (orA (rng a 93 1) (rng a 100 2)) s.heap s.heap [] := va_S.rf
  refine lv_aload_n hx hb dX12_out_0 rfl (lv_at hl 0 rfl) ?_
  refine lv_aload_n hx hb dX12_out_1 rfl (lv_at hl 0 rfl) ?_
  refine lv_iload_n hx hb dX12_out_2 rfl (lv_at hl 1 rfl) ?_
  refine lv_iload_n hx hb dX12_out_3 rfl (lv_at hl 2 rfl) ?_
  refine ro_i (va_runV (As := [.int p9, .int g9]) (rest := [.ref (a 93)]) FX (c_X12_isGate l G a cy th Ns fs sc p9 g9 (fun z hz => (hW z hz).g)) (cwV 2 hts gX12_out_X12_isGate rfl rfl rfl (by decide +kernel) ⟨Nat.le_of_ble_eq_true rfl, Nat.le_of_ble_eq_true rfl⟩) (preV hK hNW (⟨h_o, (ro hS h_x (dj_cons (or_no (rng_no ha (by omega)) (rng_no ha (by omega))) (dj_cons (or_no (rng_no ha (by omega)) (rng_no ha (by omega))) (dj_cons (or_no (rng_no ha (by omega)) (rng_no ha (by omega))) (dj_cons (or_no (rng_no ha (by omega)) (rng_no ha (by omega))) (dj_cons (or_no (rng_no ha (by omega)) (rng_no ha (by omega))) (dj_cons (or_no (rng_no ha (by omega)) (rng_no ha (by omega))) (dj_nil))))))))⟩) (va_recv hK h_o (ci := 12) (q0 := 0) rfl rfl)) rfl rfl hl.1 rfl (lv_room (Nat.le_of_ble_eq_true rfl)) dX12_out_4 ⟨Nat.le_of_ble_eq_true rfl, Nat.le_of_ble_eq_true rfl⟩) ?_
  refine lv_if_ne (tgt := 14) hx hb dX12_out_7 (by decide) (fun c7 => ?_) (fun c7 => ?_)
  · skip
    have c7 := bI_1 c7
    obtain ⟨c5, cg⟩ := c7
    obtain ⟨z, hz, ez, ep⟩ := inBd_z c5 (by omega)
    rw [ep] at hl
    have hl : lv_has ls 3 [(0, .ref (a 93)), (1, .int (nI z)), (2, .int g9)] := hl
    have hN := hW _ hz
    have hg9 := hN.g
    have ho9 := hN.o
    have hi9 := hN.2.1
    rw [ez] at cg
    obtain ⟨g, hgl, eg, epg⟩ := inBd_z cg (by omega)
    rw [epg] at hl
    have hl : lv_has ls 3 [(0, .ref (a 93)), (1, .int (nI z)), (2, .int (nI g))] := hl
    refine lv_aload_n hx hb dX12_out_14 rfl (lv_at hl 0 rfl) ?_
    refine va_get (D := G.1) (ci := 12) (v := .ref (a 101)) (C := RX12) (T := TX12) (N := 23) hx hb hts inX12_out_12 hown hK h_o 0 rfl rfl 7 (by decide) (hts (.fieldLink RX12 31 "GateLedgerModel" "outMany" "[I") (List.mem_of_getElem? (i := 1) (by decide +kernel))) (fun _ h9 => h9) rfl dX12_out_15 ?_
    refine lv_iload_n hx hb dX12_out_18 rfl (lv_at hl 1 rfl) ?_
    refine pp_iald hx hb hK h_y 1 rfl (vp_in_nI (by omega) (by omega)) dX12_out_19 ?_
    refine lv_as (congrArg (OF Ns) (nI_clamp (by omega))) ?_
    refine lv_as (y := nI (nO (Ns z))) rfl ?_
    refine lv_bipush (v := nI 16) hx hb dX12_out_20 (by decide) ?_
    refine lv_icmp_ne (tgt := 29) hx hb dX12_out_22 (by decide) (fun c22 => ?_) (fun c22 => ?_)
    · skip
      have c22 := cv_ne (by omega) (by omega) c22
      refine lv_iconst (v := nI 0) hx hb dX12_out_29 (by decide) ?_
      refine pp_put (ci := 12) (v := .int (nI 0)) (ty := .int) (C := RX12) (T := TX12) (N := 23) hx hb hts inX12_out_12 tyX12 tyX12_ok nmX12 hown hK h_o hS (Or.inl (rng_in (by omega))) rfl 22 (by decide) (hts (.fieldLink RX12 73 "GateLedgerModel" "thrown" "I") (List.mem_of_getElem? (i := 2) (by decide +kernel))) (fun _ h9 => h9) rfl (by decide +kernel) rfl rfl (Nat.le_of_ble_eq_true rfl) dX12_out_30 (fun H locs hP9 hk1 _ hS => ?_)
      have h_o : PP G (modO a cy (nI 0)) H := hP9
      have h_y : PP G (twoW G a Ns) H := kp hk1 h_y (dj_cons (ne_a ha (by omega)) (dj_cons (ne_a ha (by omega)) (dj_nil)))
      refine lv_aload_n hx hb dX12_out_33 rfl (lv_at hl 0 rfl) ?_
      refine va_get (D := G.1) (ci := 12) (v := .int (nI 0)) (C := RX12) (T := TX12) (N := 23) hx hb hts inX12_out_12 hown hK h_o 0 rfl rfl 22 (by decide) (hts (.fieldLink RX12 73 "GateLedgerModel" "thrown" "I") (List.mem_of_getElem? (i := 2) (by decide +kernel))) (fun _ h9 => h9) rfl dX12_out_34 ?_
      refine lv_if_le (tgt := 44) hx hb dX12_out_37 (by decide) (fun c37 => ?_) (fun c37 => ?_)
      · skip
        have h_y : PP G (twoW G a (upN Ns z (Ns z))) H := by rw [upN_self]; exact h_y
        refine lv_aload_n hx hb dX12_out_44 rfl (lv_at hl 0 rfl) ?_
        refine lv_iload_n hx hb dX12_out_45 rfl (lv_at hl 1 rfl) ?_
        refine lv_iload_n hx hb dX12_out_46 rfl (lv_at hl 2 rfl) ?_
        refine wr_i (va_runV (As := [.int (nI z), .int (nI g)]) (rest := []) FX (c_X12_addsOut l G a ha cy (nI 0) Ns z (Ns z) g hz (by omega)) (cwV 2 hts gX12_out_X12_addsOut rfl rfl rfl (by decide +kernel) ⟨Nat.le_of_ble_eq_true rfl, Nat.le_of_ble_eq_true rfl⟩) (preV hK hNW (⟨h_o, h_y⟩) (va_recv hK h_o (ci := 12) (q0 := 0) rfl rfl)) rfl rfl hl.1 rfl (lv_room (Nat.le_of_ble_eq_true rfl)) dX12_out_47 ⟨Nat.le_of_ble_eq_true rfl, Nat.le_of_ble_eq_true rfl⟩) hS (fun q h => Or.inr ((rng_sub (by omega)) q h)) (fun rr _ H locs er2 hP9 hk3 hS => ?_)
        have h_y : PP G (twoW G a (upN Ns z (addO (Ns z) g))) H := hP9
        have h_o : PP G (modO a cy (nI 0)) H := kp hk3 h_o (dj_cons (rng_no ha (by omega)) (dj_nil))
        refine lv_as (y := nI (nO (Ns z))) er2 ?_
        have e1 : cOu Ns p9 g9 = 0 := (if_pos c5).trans ((if_pos (by rw [ez]; exact cg)).trans (if_pos (by rw [ez]; omega)))
        exact en_wi () hx hb hr hlocks hS ⟨fun _ => by rw [ez], trivial⟩ (by rw [stN_0 e1, e1, ez, eg]; exact ⟨h_o, h_y⟩) dX12_out_50
      · exact absurd c37 (by decide)
    · skip
      have c22 := cv_eq (by omega) (by omega) c22
      refine lv_iconst (v := nI 2) hx hb dX12_out_25 (by decide) ?_
      refine lv_goto (tgt := 30) hx hb dX12_out_26 (by decide) ?_
      refine pp_put (ci := 12) (v := .int (nI 2)) (ty := .int) (C := RX12) (T := TX12) (N := 23) hx hb hts inX12_out_12 tyX12 tyX12_ok nmX12 hown hK h_o hS (Or.inl (rng_in (by omega))) rfl 22 (by decide) (hts (.fieldLink RX12 73 "GateLedgerModel" "thrown" "I") (List.mem_of_getElem? (i := 2) (by decide +kernel))) (fun _ h9 => h9) rfl (by decide +kernel) rfl rfl (Nat.le_of_ble_eq_true rfl) dX12_out_30 (fun H locs hP9 hk5 _ hS => ?_)
      have h_o : PP G (modO a cy (nI 2)) H := hP9
      have h_y : PP G (twoW G a Ns) H := kp hk5 h_y (dj_cons (ne_a ha (by omega)) (dj_cons (ne_a ha (by omega)) (dj_nil)))
      refine lv_aload_n hx hb dX12_out_33 rfl (lv_at hl 0 rfl) ?_
      refine va_get (D := G.1) (ci := 12) (v := .int (nI 2)) (C := RX12) (T := TX12) (N := 23) hx hb hts inX12_out_12 hown hK h_o 0 rfl rfl 22 (by decide) (hts (.fieldLink RX12 73 "GateLedgerModel" "thrown" "I") (List.mem_of_getElem? (i := 2) (by decide +kernel))) (fun _ h9 => h9) rfl dX12_out_34 ?_
      refine lv_if_le (tgt := 44) hx hb dX12_out_37 (by decide) (fun c37 => ?_) (fun c37 => ?_)
      · exact absurd c37 (by decide)
      · skip
        refine lv_iconst (v := nI 0) hx hb dX12_out_40 (by decide) ?_
        refine lv_goto (tgt := 50) hx hb dX12_out_41 (by decide) ?_
        have e1 : cOu Ns p9 g9 = 3 := (if_pos c5).trans ((if_pos (by rw [ez]; exact cg)).trans (if_neg (by rw [ez]; omega)))
        exact en_wi () hx hb hr hlocks hS ⟨fun q => absurd (e1.symm.trans q) (by decide), trivial⟩ (by rw [stN_n e1 (by decide), e1]; exact ⟨h_o, h_y⟩) dX12_out_50
  · skip
    have c7 := bI_0.mp c7
    refine lv_iconst (v := nI 1) hx hb dX12_out_10 (by decide) ?_
    refine lv_goto (tgt := 30) hx hb dX12_out_11 (by decide) ?_
    refine pp_put (ci := 12) (v := .int (nI 1)) (ty := .int) (C := RX12) (T := TX12) (N := 23) hx hb hts inX12_out_12 tyX12 tyX12_ok nmX12 hown hK h_o hS (Or.inl (rng_in (by omega))) rfl 22 (by decide) (hts (.fieldLink RX12 73 "GateLedgerModel" "thrown" "I") (List.mem_of_getElem? (i := 2) (by decide +kernel))) (fun _ h9 => h9) rfl (by decide +kernel) rfl rfl (Nat.le_of_ble_eq_true rfl) dX12_out_30 (fun H locs hP9 hk6 _ hS => ?_)
    have h_o : PP G (modO a cy (nI 1)) H := hP9
    have h_y : PP G (twoW G a Ns) H := kp hk6 h_y (dj_cons (ne_a ha (by omega)) (dj_cons (ne_a ha (by omega)) (dj_nil)))
    refine lv_aload_n hx hb dX12_out_33 rfl (lv_at hl 0 rfl) ?_
    refine va_get (D := G.1) (ci := 12) (v := .int (nI 1)) (C := RX12) (T := TX12) (N := 23) hx hb hts inX12_out_12 hown hK h_o 0 rfl rfl 22 (by decide) (hts (.fieldLink RX12 73 "GateLedgerModel" "thrown" "I") (List.mem_of_getElem? (i := 2) (by decide +kernel))) (fun _ h9 => h9) rfl dX12_out_34 ?_
    refine lv_if_le (tgt := 44) hx hb dX12_out_37 (by decide) (fun c37 => ?_) (fun c37 => ?_)
    · exact absurd c37 (by decide)
    · skip
      refine lv_iconst (v := nI 0) hx hb dX12_out_40 (by decide) ?_
      refine lv_goto (tgt := 50) hx hb dX12_out_41 (by decide) ?_
      have e1 : cOu Ns p9 g9 = 1 := by unfold cOu; by_cases q1 : inBd p9 4; rw [if_pos q1, if_neg (fun q2 => c7 ⟨q1, q2⟩)]; rw [if_neg q1]
      exact en_wi () hx hb hr hlocks hS ⟨fun q => absurd (e1.symm.trans q) (by decide), trivial⟩ (by rw [stN_n e1 (by decide), e1]; exact ⟨h_o, h_y⟩) dX12_out_50
set_option maxRecDepth 20000 in
theorem inX12_gate_12 : ∀ w ∈ u_ws RX12 TX12 23, w ∈ wsX12_gate := by decide +kernel
set_option maxHeartbeats 4000000 in
set_option maxRecDepth 100000 in
/-- gate -/
theorem c_X12_gate (l : Launch) (G : GG) (a : Nat → Nat) (ha : Inj a) (cy th : Int32) (Ns : Nat → NT) (fs sc : FN) (p9 kd9 f9 s9 : Int32) (hW : ∀ z, z < 4 → WF (Ns z)) (hFS : FS Ns fs sc)  : Met l yX12_gate wsX12_gate ({ frames := 3, cells := 0, slots := 0, locals := 64 } : Room) (PcB G [.ref (a 93), .int p9, .int kd9, .int f9, .int s9] (fun H => PP G (modO a cy th) H ∧ PP G (sixW G a Ns fs sc) H)) (QI (fun (r : Int32) (u : FN × FN × Unit) => (cGa Ns p9 kd9 f9 s9 = 0 → r = nI (nG (Ns (ix p9)))) ∧ FS (stN (cGa Ns p9 kd9 f9 s9) (upN Ns (ix p9) (addG (Ns (ix p9)) (ix kd9) (ix f9) (if ix kd9 = 3 then ix f9 else ix s9))) Ns) u.1 u.2.1) (fun u H => PP G (modO a cy (nI (c2 (cGa Ns p9 kd9 f9 s9)))) H ∧ PP G (sixW G a (stN (cGa Ns p9 kd9 f9 s9) (upN Ns (ix p9) (addG (Ns (ix p9)) (ix kd9) (ix f9) (if ix kd9 = 3 then ix f9 else ix s9))) Ns) u.1 u.2.1) H) (rng a 93 7)) 0 0 (rng a 93 7) := by
  refine Met.ofW (cc := cX12_gate) (maxL := 6) (ret := (some .int)) (by decide) rfl ?_
  intro p e s m args below meth c s₁ B hml hv
  obtain ⟨rfl, hB, hK, hNW⟩ := hv
  have hx := B.exec
  have hb := B.bytes
  have hr := B.returns
  have hts := atoms_spec (ws := wsX12_gate) B.pre
  have hown : s.vm.findClass RX12 = some m.cls := findClass_of_methodNamed B.named
  have hlocks := B.notSynchronized
  have FX : CallFix p m c cX12_gate 6 s ([.ref (a 93), .int p9, .int kd9, .int f9, .int s9] : List Value).toArray wsX12_gate RX12 := ⟨hx, hb, hml, hown, hts⟩
  have hl := lv_entry ([.ref (a 93), .int p9, .int kd9, .int f9, .int s9]) (n := 6) (Nat.le_of_ble_eq_true rfl)
  rw [lg_entry_eq]
  generalize (lg_sl ([.ref (a 93), .int p9, .int kd9, .int f9, .int s9]) ++ List.replicate (6 - (lg_sl ([.ref (a 93), .int p9, .int kd9, .int f9, .int s9])).length) Slot.unset).toArray = ls at hl ⊢
  have hl : lv_has ls 6 [(0, .ref (a 93)), (1, .int p9), (2, .int kd9), (3, .int f9), (4, .int s9)] := hl
  obtain ⟨h_o, h_x⟩ := hB
  have hS : va_S (rng a 93 7) s.heap s.heap [] := va_S.rf
  refine lv_iload_n hx hb dX12_gate_0 rfl (lv_at hl 1 rfl) ?_
  refine ro_i (va_runS (As := [.int p9]) (rest := []) FX (c_X12_isNet l G p9) (va_cwS 1 hts gX12_gate_X12_isNet rfl rfl rfl (by decide +kernel) ⟨Nat.le_of_ble_eq_true rfl, Nat.le_of_ble_eq_true rfl⟩) (preS hK hNW trivial) rfl rfl hl.1 rfl (lv_room (Nat.le_of_ble_eq_true rfl)) dX12_gate_1 ⟨Nat.le_of_ble_eq_true rfl, Nat.le_of_ble_eq_true rfl⟩) ?_
  refine lv_if_eq (tgt := 44) hx hb dX12_gate_4 (by decide) (fun c4 => ?_) (fun c4 => ?_)
  · skip
    have c4 := bI_0.mp c4
    refine lv_iconst (v := nI 0) hx hb dX12_gate_44 (by decide) ?_
    refine lv_istore (lv' := [(5, .int (nI 0)), (0, .ref (a 93)), (1, .int p9), (2, .int kd9), (3, .int f9), (4, .int s9)]) hx hb dX12_gate_45 hl (by decide) rfl (fun ls hl => ?_)
    refine lv_aload_n hx hb dX12_gate_47 rfl (lv_at hl 1 rfl) ?_
    refine lv_iload hx hb dX12_gate_48 (lv_at hl 0 rfl) ?_
    refine lv_if_ne (tgt := 57) hx hb dX12_gate_50 (by decide) (fun c50 => ?_) (fun c50 => ?_)
    · exact absurd c50 (by decide)
    · skip
      refine lv_iconst (v := nI 1) hx hb dX12_gate_53 (by decide) ?_
      refine lv_goto (tgt := 73) hx hb dX12_gate_54 (by decide) ?_
      refine pp_put (ci := 12) (v := .int (nI 1)) (ty := .int) (C := RX12) (T := TX12) (N := 23) hx hb hts inX12_gate_12 tyX12 tyX12_ok nmX12 hown hK h_o hS (rng_in (by omega)) rfl 22 (by decide) (hts (.fieldLink RX12 73 "GateLedgerModel" "thrown" "I") (List.mem_of_getElem? (i := 2) (by decide +kernel))) (fun _ h9 => h9) rfl (by decide +kernel) rfl rfl (Nat.le_of_ble_eq_true rfl) dX12_gate_73 (fun H locs hP9 hk1 _ hS => ?_)
      have h_o : PP G (modO a cy (nI 1)) H := hP9
      have h_x : PP G (sixW G a Ns fs sc) H := kp hk1 h_x (dj_cons (ne_a ha (by omega)) (dj_cons (ne_a ha (by omega)) (dj_cons (ne_a ha (by omega)) (dj_cons (ne_a ha (by omega)) (dj_cons (ne_a ha (by omega)) (dj_cons (ne_a ha (by omega)) (dj_nil)))))))
      refine lv_aload_n hx hb dX12_gate_76 rfl (lv_at hl 1 rfl) ?_
      refine va_get (D := G.1) (ci := 12) (v := .int (nI 1)) (C := RX12) (T := TX12) (N := 23) hx hb hts inX12_gate_12 hown hK h_o 0 rfl rfl 22 (by decide) (hts (.fieldLink RX12 73 "GateLedgerModel" "thrown" "I") (List.mem_of_getElem? (i := 2) (by decide +kernel))) (fun _ h9 => h9) rfl dX12_gate_77 ?_
      refine lv_if_le (tgt := 87) hx hb dX12_gate_80 (by decide) (fun c80 => ?_) (fun c80 => ?_)
      · exact absurd c80 (by decide)
      · skip
        refine lv_iconst (v := nI 0) hx hb dX12_gate_83 (by decide) ?_
        refine lv_goto (tgt := 96) hx hb dX12_gate_84 (by decide) ?_
        have e1 : cGa Ns p9 kd9 f9 s9 = 1 := if_neg c4
        exact en_wi (fs, sc, ()) hx hb hr hlocks hS ⟨fun q => absurd (e1.symm.trans q) (by decide), by rw [stN_n e1 (by decide)]; exact hFS⟩ (by rw [stN_n e1 (by decide), e1]; exact ⟨h_o, h_x⟩) dX12_gate_96
  · skip
    have c4 := bI_1 c4
    obtain ⟨z, hz, ez, ep⟩ := inBd_z c4 (by omega)
    rw [ep] at hl
    have hl : lv_has ls 6 [(0, .ref (a 93)), (1, .int (nI z)), (2, .int kd9), (3, .int f9), (4, .int s9)] := hl
    have hN := hW _ hz
    have hg9 := hN.g
    have ho9 := hN.o
    have hi9 := hN.2.1
    refine lv_iload_n hx hb dX12_gate_7 rfl (lv_at hl 2 rfl) ?_
    refine lv_iconst (v := nI 0) hx hb dX12_gate_8 (by decide) ?_
    refine lv_iconst (v := nI 3) hx hb dX12_gate_9 (by decide) ?_
    refine ro_i (va_runS (As := [.int kd9, .int (nI 0), .int (nI 3)]) (rest := []) FX (c_X12_isIn l G kd9 (nI 0) (nI 3)) (va_cwS 3 hts gX12_gate_X12_isIn rfl rfl rfl (by decide +kernel) ⟨Nat.le_of_ble_eq_true rfl, Nat.le_of_ble_eq_true rfl⟩) (preS hK hNW trivial) rfl rfl hl.1 rfl (lv_room (Nat.le_of_ble_eq_true rfl)) dX12_gate_10 ⟨Nat.le_of_ble_eq_true rfl, Nat.le_of_ble_eq_true rfl⟩) ?_
    refine lv_if_eq (tgt := 44) hx hb dX12_gate_13 (by decide) (fun c13 => ?_) (fun c13 => ?_)
    · skip
      have c13 := bI_0.mp c13
      refine lv_iconst (v := nI 0) hx hb dX12_gate_44 (by decide) ?_
      refine lv_istore (lv' := [(5, .int (nI 0)), (0, .ref (a 93)), (1, .int (nI z)), (2, .int kd9), (3, .int f9), (4, .int s9)]) hx hb dX12_gate_45 hl (by decide) rfl (fun ls hl => ?_)
      refine lv_aload_n hx hb dX12_gate_47 rfl (lv_at hl 1 rfl) ?_
      refine lv_iload hx hb dX12_gate_48 (lv_at hl 0 rfl) ?_
      refine lv_if_ne (tgt := 57) hx hb dX12_gate_50 (by decide) (fun c50 => ?_) (fun c50 => ?_)
      · exact absurd c50 (by decide)
      · skip
        refine lv_iconst (v := nI 1) hx hb dX12_gate_53 (by decide) ?_
        refine lv_goto (tgt := 73) hx hb dX12_gate_54 (by decide) ?_
        refine pp_put (ci := 12) (v := .int (nI 1)) (ty := .int) (C := RX12) (T := TX12) (N := 23) hx hb hts inX12_gate_12 tyX12 tyX12_ok nmX12 hown hK h_o hS (rng_in (by omega)) rfl 22 (by decide) (hts (.fieldLink RX12 73 "GateLedgerModel" "thrown" "I") (List.mem_of_getElem? (i := 2) (by decide +kernel))) (fun _ h9 => h9) rfl (by decide +kernel) rfl rfl (Nat.le_of_ble_eq_true rfl) dX12_gate_73 (fun H locs hP9 hk2 _ hS => ?_)
        have h_o : PP G (modO a cy (nI 1)) H := hP9
        have h_x : PP G (sixW G a Ns fs sc) H := kp hk2 h_x (dj_cons (ne_a ha (by omega)) (dj_cons (ne_a ha (by omega)) (dj_cons (ne_a ha (by omega)) (dj_cons (ne_a ha (by omega)) (dj_cons (ne_a ha (by omega)) (dj_cons (ne_a ha (by omega)) (dj_nil)))))))
        refine lv_aload_n hx hb dX12_gate_76 rfl (lv_at hl 1 rfl) ?_
        refine va_get (D := G.1) (ci := 12) (v := .int (nI 1)) (C := RX12) (T := TX12) (N := 23) hx hb hts inX12_gate_12 hown hK h_o 0 rfl rfl 22 (by decide) (hts (.fieldLink RX12 73 "GateLedgerModel" "thrown" "I") (List.mem_of_getElem? (i := 2) (by decide +kernel))) (fun _ h9 => h9) rfl dX12_gate_77 ?_
        refine lv_if_le (tgt := 87) hx hb dX12_gate_80 (by decide) (fun c80 => ?_) (fun c80 => ?_)
        · exact absurd c80 (by decide)
        · skip
          refine lv_iconst (v := nI 0) hx hb dX12_gate_83 (by decide) ?_
          refine lv_goto (tgt := 96) hx hb dX12_gate_84 (by decide) ?_
          have e1 : cGa Ns p9 kd9 f9 s9 = 1 := (if_pos c4).trans (if_neg (fun q => c13 ((isIn_0 (by omega)).mpr q)))
          exact en_wi (fs, sc, ()) hx hb hr hlocks hS ⟨fun q => absurd (e1.symm.trans q) (by decide), by rw [stN_n e1 (by decide)]; exact hFS⟩ (by rw [stN_n e1 (by decide), e1]; exact ⟨h_o, h_x⟩) dX12_gate_96
    · skip
      have c13 := bI_1 c13
      have ck := (isIn_0 (by omega)).mp c13
      obtain ⟨kd, hk, ek, epk⟩ := inBd_z ck (by omega)
      rw [epk] at hl
      have hl : lv_has ls 6 [(0, .ref (a 93)), (1, .int (nI z)), (2, .int (nI kd)), (3, .int f9), (4, .int s9)] := hl
      refine lv_aload_n hx hb dX12_gate_16 rfl (lv_at hl 0 rfl) ?_
      refine lv_iload_n hx hb dX12_gate_17 rfl (lv_at hl 1 rfl) ?_
      refine lv_iload_n hx hb dX12_gate_18 rfl (lv_at hl 3 rfl) ?_
      refine ro_i (va_runV (As := [.int (nI z), .int f9]) (rest := []) FX (c_X12_isGate l G a cy th Ns fs sc (nI z) f9 (fun z hz => (hW z hz).g)) (cwV 2 hts gX12_gate_X12_isGate rfl rfl rfl (by decide +kernel) ⟨Nat.le_of_ble_eq_true rfl, Nat.le_of_ble_eq_true rfl⟩) (preV hK hNW (⟨h_o, h_x⟩) (va_recv hK h_o (ci := 12) (q0 := 0) rfl rfl)) rfl rfl hl.1 rfl (lv_room (Nat.le_of_ble_eq_true rfl)) dX12_gate_19 ⟨Nat.le_of_ble_eq_true rfl, Nat.le_of_ble_eq_true rfl⟩) ?_
      refine lv_if_eq (tgt := 44) hx hb dX12_gate_22 (by decide) (fun c22 => ?_) (fun c22 => ?_)
      · skip
        have c22 := bI_0.mp c22
        refine lv_iconst (v := nI 0) hx hb dX12_gate_44 (by decide) ?_
        refine lv_istore (lv' := [(5, .int (nI 0)), (0, .ref (a 93)), (1, .int (nI z)), (2, .int (nI kd)), (3, .int f9), (4, .int s9)]) hx hb dX12_gate_45 hl (by decide) rfl (fun ls hl => ?_)
        refine lv_aload_n hx hb dX12_gate_47 rfl (lv_at hl 1 rfl) ?_
        refine lv_iload hx hb dX12_gate_48 (lv_at hl 0 rfl) ?_
        refine lv_if_ne (tgt := 57) hx hb dX12_gate_50 (by decide) (fun c50 => ?_) (fun c50 => ?_)
        · exact absurd c50 (by decide)
        · skip
          refine lv_iconst (v := nI 1) hx hb dX12_gate_53 (by decide) ?_
          refine lv_goto (tgt := 73) hx hb dX12_gate_54 (by decide) ?_
          refine pp_put (ci := 12) (v := .int (nI 1)) (ty := .int) (C := RX12) (T := TX12) (N := 23) hx hb hts inX12_gate_12 tyX12 tyX12_ok nmX12 hown hK h_o hS (rng_in (by omega)) rfl 22 (by decide) (hts (.fieldLink RX12 73 "GateLedgerModel" "thrown" "I") (List.mem_of_getElem? (i := 2) (by decide +kernel))) (fun _ h9 => h9) rfl (by decide +kernel) rfl rfl (Nat.le_of_ble_eq_true rfl) dX12_gate_73 (fun H locs hP9 hk3 _ hS => ?_)
          have h_o : PP G (modO a cy (nI 1)) H := hP9
          have h_x : PP G (sixW G a Ns fs sc) H := kp hk3 h_x (dj_cons (ne_a ha (by omega)) (dj_cons (ne_a ha (by omega)) (dj_cons (ne_a ha (by omega)) (dj_cons (ne_a ha (by omega)) (dj_cons (ne_a ha (by omega)) (dj_cons (ne_a ha (by omega)) (dj_nil)))))))
          refine lv_aload_n hx hb dX12_gate_76 rfl (lv_at hl 1 rfl) ?_
          refine va_get (D := G.1) (ci := 12) (v := .int (nI 1)) (C := RX12) (T := TX12) (N := 23) hx hb hts inX12_gate_12 hown hK h_o 0 rfl rfl 22 (by decide) (hts (.fieldLink RX12 73 "GateLedgerModel" "thrown" "I") (List.mem_of_getElem? (i := 2) (by decide +kernel))) (fun _ h9 => h9) rfl dX12_gate_77 ?_
          refine lv_if_le (tgt := 87) hx hb dX12_gate_80 (by decide) (fun c80 => ?_) (fun c80 => ?_)
          · exact absurd c80 (by decide)
          · skip
            refine lv_iconst (v := nI 0) hx hb dX12_gate_83 (by decide) ?_
            refine lv_goto (tgt := 96) hx hb dX12_gate_84 (by decide) ?_
            have e1 : cGa Ns p9 kd9 f9 s9 = 1 := (if_pos c4).trans ((if_pos ck).trans (if_neg (fun q => c22 ⟨inBd_nI hz (by omega), by rw [ix_nI (by omega)]; rw [ez] at q; exact q⟩)))
            exact en_wi (fs, sc, ()) hx hb hr hlocks hS ⟨fun q => absurd (e1.symm.trans q) (by decide), by rw [stN_n e1 (by decide)]; exact hFS⟩ (by rw [stN_n e1 (by decide), e1]; exact ⟨h_o, h_x⟩) dX12_gate_96
      · skip
        have c22 := bI_1 c22
        have cf := c22.2
        rw [ix_nI (by omega)] at cf
        obtain ⟨f, hfl, ef, epf⟩ := inBd_z cf (by omega)
        rw [epf] at hl
        have hl : lv_has ls 6 [(0, .ref (a 93)), (1, .int (nI z)), (2, .int (nI kd)), (3, .int (nI f)), (4, .int s9)] := hl
        refine lv_iload_n hx hb dX12_gate_25 rfl (lv_at hl 2 rfl) ?_
        refine lv_iconst (v := nI 3) hx hb dX12_gate_26 (by decide) ?_
        refine lv_icmp_eq (tgt := 40) hx hb dX12_gate_27 (by decide) (fun c27 => ?_) (fun c27 => ?_)
        · skip
          have c27 := cv_eq (by omega) (by omega) c27
          have cs : kd9 = nI 3 ∨ inBd s9 (nG (Ns z)) := Or.inl ((kd_3 epk hk).mpr c27)
          refine lv_iconst (v := nI 1) hx hb dX12_gate_40 (by decide) ?_
          refine lv_goto (tgt := 45) hx hb dX12_gate_41 (by decide) ?_
          refine lv_istore (lv' := [(5, .int (nI 1)), (0, .ref (a 93)), (1, .int (nI z)), (2, .int (nI kd)), (3, .int (nI f)), (4, .int s9)]) hx hb dX12_gate_45 hl (by decide) rfl (fun ls hl => ?_)
          refine lv_aload_n hx hb dX12_gate_47 rfl (lv_at hl 1 rfl) ?_
          refine lv_iload hx hb dX12_gate_48 (lv_at hl 0 rfl) ?_
          refine lv_if_ne (tgt := 57) hx hb dX12_gate_50 (by decide) (fun c50 => ?_) (fun c50 => ?_)
          · skip
            refine lv_aload_n hx hb dX12_gate_57 rfl (lv_at hl 1 rfl) ?_
            refine va_get (D := G.1) (ci := 12) (v := .ref (a 98)) (C := RX12) (T := TX12) (N := 23) hx hb hts inX12_gate_12 hown hK h_o 0 rfl rfl 4 (by decide) (hts (.fieldLink RX12 22 "GateLedgerModel" "many" "[I") (List.mem_of_getElem? (i := 1) (by decide +kernel))) (fun _ h9 => h9) rfl dX12_gate_58 ?_
            refine lv_iload_n hx hb dX12_gate_61 rfl (lv_at hl 2 rfl) ?_
            refine pp_iald hx hb hK h_x 4 rfl (vp_in_nI (by omega) (by omega)) dX12_gate_62 ?_
            refine lv_as (congrArg (MF Ns) (nI_clamp (by omega))) ?_
            refine lv_as (y := nI (nG (Ns z))) rfl ?_
            refine lv_bipush (v := nI 120) hx hb dX12_gate_63 (by decide) ?_
            refine lv_icmp_ne (tgt := 72) hx hb dX12_gate_65 (by decide) (fun c65 => ?_) (fun c65 => ?_)
            · skip
              have c65 := cv_ne (by omega) (by omega) c65
              refine lv_iconst (v := nI 0) hx hb dX12_gate_72 (by decide) ?_
              refine pp_put (ci := 12) (v := .int (nI 0)) (ty := .int) (C := RX12) (T := TX12) (N := 23) hx hb hts inX12_gate_12 tyX12 tyX12_ok nmX12 hown hK h_o hS (rng_in (by omega)) rfl 22 (by decide) (hts (.fieldLink RX12 73 "GateLedgerModel" "thrown" "I") (List.mem_of_getElem? (i := 2) (by decide +kernel))) (fun _ h9 => h9) rfl (by decide +kernel) rfl rfl (Nat.le_of_ble_eq_true rfl) dX12_gate_73 (fun H locs hP9 hk4 _ hS => ?_)
              have h_o : PP G (modO a cy (nI 0)) H := hP9
              have h_x : PP G (sixW G a Ns fs sc) H := kp hk4 h_x (dj_cons (ne_a ha (by omega)) (dj_cons (ne_a ha (by omega)) (dj_cons (ne_a ha (by omega)) (dj_cons (ne_a ha (by omega)) (dj_cons (ne_a ha (by omega)) (dj_cons (ne_a ha (by omega)) (dj_nil)))))))
              refine lv_aload_n hx hb dX12_gate_76 rfl (lv_at hl 1 rfl) ?_
              refine va_get (D := G.1) (ci := 12) (v := .int (nI 0)) (C := RX12) (T := TX12) (N := 23) hx hb hts inX12_gate_12 hown hK h_o 0 rfl rfl 22 (by decide) (hts (.fieldLink RX12 73 "GateLedgerModel" "thrown" "I") (List.mem_of_getElem? (i := 2) (by decide +kernel))) (fun _ h9 => h9) rfl dX12_gate_77 ?_
              refine lv_if_le (tgt := 87) hx hb dX12_gate_80 (by decide) (fun c80 => ?_) (fun c80 => ?_)
              · skip
                have h_x : PP G (sixW G a (upN Ns z (Ns z)) fs sc) H := by rw [upN_self]; exact h_x
                have hFS : FS (upN Ns z (Ns z)) fs sc := by rw [upN_self]; exact hFS
                refine lv_aload_n hx hb dX12_gate_87 rfl (lv_at hl 1 rfl) ?_
                refine lv_iload_n hx hb dX12_gate_88 rfl (lv_at hl 2 rfl) ?_
                refine lv_iload_n hx hb dX12_gate_89 rfl (lv_at hl 3 rfl) ?_
                refine lv_iload_n hx hb dX12_gate_90 rfl (lv_at hl 4 rfl) ?_
                refine lv_iload hx hb dX12_gate_91 (lv_at hl 5 rfl) ?_
                refine wr_i (va_runV (As := [.int (nI z), .int (nI kd), .int (nI f), .int s9]) (rest := []) FX (c_X12_adds l G a ha cy (nI 0) Ns z (Ns z) fs sc kd f f s9 hz (by omega) hFS hk (fun q => absurd c27 q) (fun _ => rfl)) (cwV 4 hts gX12_gate_X12_adds rfl rfl rfl (by decide +kernel) ⟨Nat.le_of_ble_eq_true rfl, Nat.le_of_ble_eq_true rfl⟩) (preV hK hNW (⟨h_o, h_x⟩) (va_recv hK h_o (ci := 12) (q0 := 0) rfl rfl)) rfl rfl hl.1 rfl (lv_room (Nat.le_of_ble_eq_true rfl)) dX12_gate_93 ⟨Nat.le_of_ble_eq_true rfl, Nat.le_of_ble_eq_true rfl⟩) hS (rng_sub (by omega)) (fun rr v5 H locs ⟨er7, hF6⟩ hP9 hk8 hS => ?_)
                have h_x : PP G (sixW G a (upN Ns z (addG (Ns z) kd f f)) v5.1 v5.2) H := hP9
                have h_o : PP G (modO a cy (nI 0)) H := kp hk8 h_o (dj_cons (rng_no ha (by omega)) (dj_nil))
                refine lv_as (y := nI (nG (Ns z))) er7 ?_
                have e1 : cGa Ns p9 kd9 f9 s9 = 0 := (if_pos c4).trans ((if_pos ck).trans ((if_pos (by rw [ez]; exact cf)).trans ((if_pos (by rw [ez]; exact cs)).trans (if_pos (by rw [ez]; omega)))))
                exact en_wi (v5.1, v5.2, ()) hx hb hr hlocks hS ⟨fun _ => by rw [ez], by rw [stN_0 e1, ez, ek, ef, if_pos c27]; exact hF6⟩ (by rw [stN_0 e1, e1, ez, ek, ef, if_pos c27]; exact ⟨h_o, h_x⟩) dX12_gate_96
              · exact absurd c80 (by decide)
            · skip
              have c65 := cv_eq (by omega) (by omega) c65
              refine lv_iconst (v := nI 2) hx hb dX12_gate_68 (by decide) ?_
              refine lv_goto (tgt := 73) hx hb dX12_gate_69 (by decide) ?_
              refine pp_put (ci := 12) (v := .int (nI 2)) (ty := .int) (C := RX12) (T := TX12) (N := 23) hx hb hts inX12_gate_12 tyX12 tyX12_ok nmX12 hown hK h_o hS (rng_in (by omega)) rfl 22 (by decide) (hts (.fieldLink RX12 73 "GateLedgerModel" "thrown" "I") (List.mem_of_getElem? (i := 2) (by decide +kernel))) (fun _ h9 => h9) rfl (by decide +kernel) rfl rfl (Nat.le_of_ble_eq_true rfl) dX12_gate_73 (fun H locs hP9 hk10 _ hS => ?_)
              have h_o : PP G (modO a cy (nI 2)) H := hP9
              have h_x : PP G (sixW G a Ns fs sc) H := kp hk10 h_x (dj_cons (ne_a ha (by omega)) (dj_cons (ne_a ha (by omega)) (dj_cons (ne_a ha (by omega)) (dj_cons (ne_a ha (by omega)) (dj_cons (ne_a ha (by omega)) (dj_cons (ne_a ha (by omega)) (dj_nil)))))))
              refine lv_aload_n hx hb dX12_gate_76 rfl (lv_at hl 1 rfl) ?_
              refine va_get (D := G.1) (ci := 12) (v := .int (nI 2)) (C := RX12) (T := TX12) (N := 23) hx hb hts inX12_gate_12 hown hK h_o 0 rfl rfl 22 (by decide) (hts (.fieldLink RX12 73 "GateLedgerModel" "thrown" "I") (List.mem_of_getElem? (i := 2) (by decide +kernel))) (fun _ h9 => h9) rfl dX12_gate_77 ?_
              refine lv_if_le (tgt := 87) hx hb dX12_gate_80 (by decide) (fun c80 => ?_) (fun c80 => ?_)
              · exact absurd c80 (by decide)
              · skip
                refine lv_iconst (v := nI 0) hx hb dX12_gate_83 (by decide) ?_
                refine lv_goto (tgt := 96) hx hb dX12_gate_84 (by decide) ?_
                have e1 : cGa Ns p9 kd9 f9 s9 = 3 := (if_pos c4).trans ((if_pos ck).trans ((if_pos (by rw [ez]; exact cf)).trans ((if_pos (by rw [ez]; exact cs)).trans (if_neg (by rw [ez]; omega)))))
                exact en_wi (fs, sc, ()) hx hb hr hlocks hS ⟨fun q => absurd (e1.symm.trans q) (by decide), by rw [stN_n e1 (by decide)]; exact hFS⟩ (by rw [stN_n e1 (by decide), e1]; exact ⟨h_o, h_x⟩) dX12_gate_96
          · exact absurd c50 (by decide)
        · skip
          have c27 := cv_ne (by omega) (by omega) c27
          refine lv_aload_n hx hb dX12_gate_30 rfl (lv_at hl 0 rfl) ?_
          refine lv_iload_n hx hb dX12_gate_31 rfl (lv_at hl 1 rfl) ?_
          refine lv_iload hx hb dX12_gate_32 (lv_at hl 4 rfl) ?_
          refine ro_i (va_runV (As := [.int (nI z), .int s9]) (rest := []) FX (c_X12_isGate l G a cy th Ns fs sc (nI z) s9 (fun z hz => (hW z hz).g)) (cwV 2 hts gX12_gate_X12_isGate rfl rfl rfl (by decide +kernel) ⟨Nat.le_of_ble_eq_true rfl, Nat.le_of_ble_eq_true rfl⟩) (preV hK hNW (⟨h_o, h_x⟩) (va_recv hK h_o (ci := 12) (q0 := 0) rfl rfl)) rfl rfl hl.1 rfl (lv_room (Nat.le_of_ble_eq_true rfl)) dX12_gate_34 ⟨Nat.le_of_ble_eq_true rfl, Nat.le_of_ble_eq_true rfl⟩) ?_
          refine lv_if_eq (tgt := 44) hx hb dX12_gate_37 (by decide) (fun c37 => ?_) (fun c37 => ?_)
          · skip
            have c37 := bI_0.mp c37
            refine lv_iconst (v := nI 0) hx hb dX12_gate_44 (by decide) ?_
            refine lv_istore (lv' := [(5, .int (nI 0)), (0, .ref (a 93)), (1, .int (nI z)), (2, .int (nI kd)), (3, .int (nI f)), (4, .int s9)]) hx hb dX12_gate_45 hl (by decide) rfl (fun ls hl => ?_)
            refine lv_aload_n hx hb dX12_gate_47 rfl (lv_at hl 1 rfl) ?_
            refine lv_iload hx hb dX12_gate_48 (lv_at hl 0 rfl) ?_
            refine lv_if_ne (tgt := 57) hx hb dX12_gate_50 (by decide) (fun c50 => ?_) (fun c50 => ?_)
            · exact absurd c50 (by decide)
            · skip
              refine lv_iconst (v := nI 1) hx hb dX12_gate_53 (by decide) ?_
              refine lv_goto (tgt := 73) hx hb dX12_gate_54 (by decide) ?_
              refine pp_put (ci := 12) (v := .int (nI 1)) (ty := .int) (C := RX12) (T := TX12) (N := 23) hx hb hts inX12_gate_12 tyX12 tyX12_ok nmX12 hown hK h_o hS (rng_in (by omega)) rfl 22 (by decide) (hts (.fieldLink RX12 73 "GateLedgerModel" "thrown" "I") (List.mem_of_getElem? (i := 2) (by decide +kernel))) (fun _ h9 => h9) rfl (by decide +kernel) rfl rfl (Nat.le_of_ble_eq_true rfl) dX12_gate_73 (fun H locs hP9 hk11 _ hS => ?_)
              have h_o : PP G (modO a cy (nI 1)) H := hP9
              have h_x : PP G (sixW G a Ns fs sc) H := kp hk11 h_x (dj_cons (ne_a ha (by omega)) (dj_cons (ne_a ha (by omega)) (dj_cons (ne_a ha (by omega)) (dj_cons (ne_a ha (by omega)) (dj_cons (ne_a ha (by omega)) (dj_cons (ne_a ha (by omega)) (dj_nil)))))))
              refine lv_aload_n hx hb dX12_gate_76 rfl (lv_at hl 1 rfl) ?_
              refine va_get (D := G.1) (ci := 12) (v := .int (nI 1)) (C := RX12) (T := TX12) (N := 23) hx hb hts inX12_gate_12 hown hK h_o 0 rfl rfl 22 (by decide) (hts (.fieldLink RX12 73 "GateLedgerModel" "thrown" "I") (List.mem_of_getElem? (i := 2) (by decide +kernel))) (fun _ h9 => h9) rfl dX12_gate_77 ?_
              refine lv_if_le (tgt := 87) hx hb dX12_gate_80 (by decide) (fun c80 => ?_) (fun c80 => ?_)
              · exact absurd c80 (by decide)
              · skip
                refine lv_iconst (v := nI 0) hx hb dX12_gate_83 (by decide) ?_
                refine lv_goto (tgt := 96) hx hb dX12_gate_84 (by decide) ?_
                have e1 : cGa Ns p9 kd9 f9 s9 = 1 := (if_pos c4).trans ((if_pos ck).trans ((if_pos (by rw [ez]; exact cf)).trans (if_neg (fun q => q.elim (fun q => c27 ((kd_3 epk hk).mp q)) (fun q => c37 ⟨inBd_nI hz (by omega), by rw [ix_nI (by omega)]; rw [ez] at q; exact q⟩)))))
                exact en_wi (fs, sc, ()) hx hb hr hlocks hS ⟨fun q => absurd (e1.symm.trans q) (by decide), by rw [stN_n e1 (by decide)]; exact hFS⟩ (by rw [stN_n e1 (by decide), e1]; exact ⟨h_o, h_x⟩) dX12_gate_96
          · skip
            have c37 := bI_1 c37
            have cs9 := c37.2
            rw [ix_nI (by omega)] at cs9
            obtain ⟨sv, hsl, es, eps⟩ := inBd_z cs9 (by omega)
            rw [eps] at hl
            have hl : lv_has ls 6 [(0, .ref (a 93)), (1, .int (nI z)), (2, .int (nI kd)), (3, .int (nI f)), (4, .int (nI sv))] := hl
            have cs : kd9 = nI 3 ∨ inBd s9 (nG (Ns z)) := Or.inr cs9
            refine lv_iconst (v := nI 1) hx hb dX12_gate_40 (by decide) ?_
            refine lv_goto (tgt := 45) hx hb dX12_gate_41 (by decide) ?_
            refine lv_istore (lv' := [(5, .int (nI 1)), (0, .ref (a 93)), (1, .int (nI z)), (2, .int (nI kd)), (3, .int (nI f)), (4, .int (nI sv))]) hx hb dX12_gate_45 hl (by decide) rfl (fun ls hl => ?_)
            refine lv_aload_n hx hb dX12_gate_47 rfl (lv_at hl 1 rfl) ?_
            refine lv_iload hx hb dX12_gate_48 (lv_at hl 0 rfl) ?_
            refine lv_if_ne (tgt := 57) hx hb dX12_gate_50 (by decide) (fun c50 => ?_) (fun c50 => ?_)
            · skip
              refine lv_aload_n hx hb dX12_gate_57 rfl (lv_at hl 1 rfl) ?_
              refine va_get (D := G.1) (ci := 12) (v := .ref (a 98)) (C := RX12) (T := TX12) (N := 23) hx hb hts inX12_gate_12 hown hK h_o 0 rfl rfl 4 (by decide) (hts (.fieldLink RX12 22 "GateLedgerModel" "many" "[I") (List.mem_of_getElem? (i := 1) (by decide +kernel))) (fun _ h9 => h9) rfl dX12_gate_58 ?_
              refine lv_iload_n hx hb dX12_gate_61 rfl (lv_at hl 2 rfl) ?_
              refine pp_iald hx hb hK h_x 4 rfl (vp_in_nI (by omega) (by omega)) dX12_gate_62 ?_
              refine lv_as (congrArg (MF Ns) (nI_clamp (by omega))) ?_
              refine lv_as (y := nI (nG (Ns z))) rfl ?_
              refine lv_bipush (v := nI 120) hx hb dX12_gate_63 (by decide) ?_
              refine lv_icmp_ne (tgt := 72) hx hb dX12_gate_65 (by decide) (fun c65 => ?_) (fun c65 => ?_)
              · skip
                have c65 := cv_ne (by omega) (by omega) c65
                refine lv_iconst (v := nI 0) hx hb dX12_gate_72 (by decide) ?_
                refine pp_put (ci := 12) (v := .int (nI 0)) (ty := .int) (C := RX12) (T := TX12) (N := 23) hx hb hts inX12_gate_12 tyX12 tyX12_ok nmX12 hown hK h_o hS (rng_in (by omega)) rfl 22 (by decide) (hts (.fieldLink RX12 73 "GateLedgerModel" "thrown" "I") (List.mem_of_getElem? (i := 2) (by decide +kernel))) (fun _ h9 => h9) rfl (by decide +kernel) rfl rfl (Nat.le_of_ble_eq_true rfl) dX12_gate_73 (fun H locs hP9 hk12 _ hS => ?_)
                have h_o : PP G (modO a cy (nI 0)) H := hP9
                have h_x : PP G (sixW G a Ns fs sc) H := kp hk12 h_x (dj_cons (ne_a ha (by omega)) (dj_cons (ne_a ha (by omega)) (dj_cons (ne_a ha (by omega)) (dj_cons (ne_a ha (by omega)) (dj_cons (ne_a ha (by omega)) (dj_cons (ne_a ha (by omega)) (dj_nil)))))))
                refine lv_aload_n hx hb dX12_gate_76 rfl (lv_at hl 1 rfl) ?_
                refine va_get (D := G.1) (ci := 12) (v := .int (nI 0)) (C := RX12) (T := TX12) (N := 23) hx hb hts inX12_gate_12 hown hK h_o 0 rfl rfl 22 (by decide) (hts (.fieldLink RX12 73 "GateLedgerModel" "thrown" "I") (List.mem_of_getElem? (i := 2) (by decide +kernel))) (fun _ h9 => h9) rfl dX12_gate_77 ?_
                refine lv_if_le (tgt := 87) hx hb dX12_gate_80 (by decide) (fun c80 => ?_) (fun c80 => ?_)
                · skip
                  have h_x : PP G (sixW G a (upN Ns z (Ns z)) fs sc) H := by rw [upN_self]; exact h_x
                  have hFS : FS (upN Ns z (Ns z)) fs sc := by rw [upN_self]; exact hFS
                  refine lv_aload_n hx hb dX12_gate_87 rfl (lv_at hl 1 rfl) ?_
                  refine lv_iload_n hx hb dX12_gate_88 rfl (lv_at hl 2 rfl) ?_
                  refine lv_iload_n hx hb dX12_gate_89 rfl (lv_at hl 3 rfl) ?_
                  refine lv_iload_n hx hb dX12_gate_90 rfl (lv_at hl 4 rfl) ?_
                  refine lv_iload hx hb dX12_gate_91 (lv_at hl 5 rfl) ?_
                  refine wr_i (va_runV (As := [.int (nI z), .int (nI kd), .int (nI f), .int (nI sv)]) (rest := []) FX (c_X12_adds l G a ha cy (nI 0) Ns z (Ns z) fs sc kd f sv (nI sv) hz (by omega) hFS hk (fun _ => rfl) (fun q => absurd q c27)) (cwV 4 hts gX12_gate_X12_adds rfl rfl rfl (by decide +kernel) ⟨Nat.le_of_ble_eq_true rfl, Nat.le_of_ble_eq_true rfl⟩) (preV hK hNW (⟨h_o, h_x⟩) (va_recv hK h_o (ci := 12) (q0 := 0) rfl rfl)) rfl rfl hl.1 rfl (lv_room (Nat.le_of_ble_eq_true rfl)) dX12_gate_93 ⟨Nat.le_of_ble_eq_true rfl, Nat.le_of_ble_eq_true rfl⟩) hS (rng_sub (by omega)) (fun rr v13 H locs ⟨er15, hF14⟩ hP9 hk16 hS => ?_)
                  have h_x : PP G (sixW G a (upN Ns z (addG (Ns z) kd f sv)) v13.1 v13.2) H := hP9
                  have h_o : PP G (modO a cy (nI 0)) H := kp hk16 h_o (dj_cons (rng_no ha (by omega)) (dj_nil))
                  refine lv_as (y := nI (nG (Ns z))) er15 ?_
                  have e1 : cGa Ns p9 kd9 f9 s9 = 0 := (if_pos c4).trans ((if_pos ck).trans ((if_pos (by rw [ez]; exact cf)).trans ((if_pos (by rw [ez]; exact cs)).trans (if_pos (by rw [ez]; omega)))))
                  exact en_wi (v13.1, v13.2, ()) hx hb hr hlocks hS ⟨fun _ => by rw [ez], by rw [stN_0 e1, ez, ek, ef, if_neg c27, es]; exact hF14⟩ (by rw [stN_0 e1, e1, ez, ek, ef, if_neg c27, es]; exact ⟨h_o, h_x⟩) dX12_gate_96
                · exact absurd c80 (by decide)
              · skip
                have c65 := cv_eq (by omega) (by omega) c65
                refine lv_iconst (v := nI 2) hx hb dX12_gate_68 (by decide) ?_
                refine lv_goto (tgt := 73) hx hb dX12_gate_69 (by decide) ?_
                refine pp_put (ci := 12) (v := .int (nI 2)) (ty := .int) (C := RX12) (T := TX12) (N := 23) hx hb hts inX12_gate_12 tyX12 tyX12_ok nmX12 hown hK h_o hS (rng_in (by omega)) rfl 22 (by decide) (hts (.fieldLink RX12 73 "GateLedgerModel" "thrown" "I") (List.mem_of_getElem? (i := 2) (by decide +kernel))) (fun _ h9 => h9) rfl (by decide +kernel) rfl rfl (Nat.le_of_ble_eq_true rfl) dX12_gate_73 (fun H locs hP9 hk18 _ hS => ?_)
                have h_o : PP G (modO a cy (nI 2)) H := hP9
                have h_x : PP G (sixW G a Ns fs sc) H := kp hk18 h_x (dj_cons (ne_a ha (by omega)) (dj_cons (ne_a ha (by omega)) (dj_cons (ne_a ha (by omega)) (dj_cons (ne_a ha (by omega)) (dj_cons (ne_a ha (by omega)) (dj_cons (ne_a ha (by omega)) (dj_nil)))))))
                refine lv_aload_n hx hb dX12_gate_76 rfl (lv_at hl 1 rfl) ?_
                refine va_get (D := G.1) (ci := 12) (v := .int (nI 2)) (C := RX12) (T := TX12) (N := 23) hx hb hts inX12_gate_12 hown hK h_o 0 rfl rfl 22 (by decide) (hts (.fieldLink RX12 73 "GateLedgerModel" "thrown" "I") (List.mem_of_getElem? (i := 2) (by decide +kernel))) (fun _ h9 => h9) rfl dX12_gate_77 ?_
                refine lv_if_le (tgt := 87) hx hb dX12_gate_80 (by decide) (fun c80 => ?_) (fun c80 => ?_)
                · exact absurd c80 (by decide)
                · skip
                  refine lv_iconst (v := nI 0) hx hb dX12_gate_83 (by decide) ?_
                  refine lv_goto (tgt := 96) hx hb dX12_gate_84 (by decide) ?_
                  have e1 : cGa Ns p9 kd9 f9 s9 = 3 := (if_pos c4).trans ((if_pos ck).trans ((if_pos (by rw [ez]; exact cf)).trans ((if_pos (by rw [ez]; exact cs)).trans (if_neg (by rw [ez]; omega)))))
                  exact en_wi (fs, sc, ()) hx hb hr hlocks hS ⟨fun q => absurd (e1.symm.trans q) (by decide), by rw [stN_n e1 (by decide)]; exact hFS⟩ (by rw [stN_n e1 (by decide), e1]; exact ⟨h_o, h_x⟩) dX12_gate_96
            · exact absurd c50 (by decide)
set_option maxRecDepth 20000 in
theorem inX12_clear_12 : ∀ w ∈ u_ws RX12 TX12 23, w ∈ wsX12_clear := by decide +kernel
set_option maxHeartbeats 4000000 in
set_option maxRecDepth 100000 in
/-- clear -/
theorem c_X12_clear (l : Launch) (G : GG) (a : Nat → Nat) (ha : Inj a) (cy th : Int32) (Ns : Nat → NT) (fs sc : FN) (p9 : Int32) (hFS : FS Ns fs sc)  : Met l yX12_clear wsX12_clear ({ frames := 2, cells := 0, slots := 0, locals := 42 } : Room) (PcB G [.ref (a 93), .int p9] (fun H => PP G (modO a cy th) H ∧ PP G (sixW G a Ns fs sc) H ∧ PP G (twoW G a Ns) H)) (QI (fun (r : Int32) (u : FN × FN × Unit) => (cCl p9 = 0 → r = nI (nG (Ns (ix p9)))) ∧ FS (stN (cCl p9) (upN Ns (ix p9) (clrN (Ns (ix p9)))) Ns) u.1 u.2.1) (fun u H => PP G (modO a cy (nI (cCl p9))) H ∧ PP G (sixW G a (stN (cCl p9) (upN Ns (ix p9) (clrN (Ns (ix p9)))) Ns) u.1 u.2.1) H ∧ PP G (twoW G a (stN (cCl p9) (upN Ns (ix p9) (clrN (Ns (ix p9)))) Ns)) H) (rng a 93 9)) 0 0 (rng a 93 9) := by
  refine Met.ofW (cc := cX12_clear) (maxL := 3) (ret := (some .int)) (by decide) rfl ?_
  intro p e s m args below meth c s₁ B hml hv
  obtain ⟨rfl, hB, hK, hNW⟩ := hv
  have hx := B.exec
  have hb := B.bytes
  have hr := B.returns
  have hts := atoms_spec (ws := wsX12_clear) B.pre
  have hown : s.vm.findClass RX12 = some m.cls := findClass_of_methodNamed B.named
  have hlocks := B.notSynchronized
  have FX : CallFix p m c cX12_clear 3 s ([.ref (a 93), .int p9] : List Value).toArray wsX12_clear RX12 := ⟨hx, hb, hml, hown, hts⟩
  have hl := lv_entry ([.ref (a 93), .int p9]) (n := 3) (Nat.le_of_ble_eq_true rfl)
  rw [lg_entry_eq]
  generalize (lg_sl ([.ref (a 93), .int p9]) ++ List.replicate (3 - (lg_sl ([.ref (a 93), .int p9])).length) Slot.unset).toArray = ls at hl ⊢
  have hl : lv_has ls 3 [(0, .ref (a 93)), (1, .int p9)] := hl
  obtain ⟨h_o, h_x, h_y⟩ := hB
  have hS : va_S (rng a 93 9) s.heap s.heap [] := va_S.rf
  refine lv_aload_n hx hb dX12_clear_0 rfl (lv_at hl 0 rfl) ?_
  refine lv_iload_n hx hb dX12_clear_1 rfl (lv_at hl 1 rfl) ?_
  refine ro_i (va_runS (As := [.int p9]) (rest := [.ref (a 93)]) FX (c_X12_isNet l G p9) (va_cwS 1 hts gX12_clear_X12_isNet rfl rfl rfl (by decide +kernel) ⟨Nat.le_of_ble_eq_true rfl, Nat.le_of_ble_eq_true rfl⟩) (preS hK hNW trivial) rfl rfl hl.1 rfl (lv_room (Nat.le_of_ble_eq_true rfl)) dX12_clear_2 ⟨Nat.le_of_ble_eq_true rfl, Nat.le_of_ble_eq_true rfl⟩) ?_
  refine lv_if_eq (tgt := 12) hx hb dX12_clear_5 (by decide) (fun c5 => ?_) (fun c5 => ?_)
  · skip
    have c5 := bI_0.mp c5
    refine lv_iconst (v := nI 1) hx hb dX12_clear_12 (by decide) ?_
    refine pp_put (ci := 12) (v := .int (nI 1)) (ty := .int) (C := RX12) (T := TX12) (N := 23) hx hb hts inX12_clear_12 tyX12 tyX12_ok nmX12 hown hK h_o hS (rng_in (by omega)) rfl 22 (by decide) (hts (.fieldLink RX12 73 "GateLedgerModel" "thrown" "I") (List.mem_of_getElem? (i := 1) (by decide +kernel))) (fun _ h9 => h9) rfl (by decide +kernel) rfl rfl (Nat.le_of_ble_eq_true rfl) dX12_clear_13 (fun H locs hP9 hk1 _ hS => ?_)
    have h_o : PP G (modO a cy (nI 1)) H := hP9
    have h_x : PP G (sixW G a Ns fs sc) H := kp hk1 h_x (dj_cons (ne_a ha (by omega)) (dj_cons (ne_a ha (by omega)) (dj_cons (ne_a ha (by omega)) (dj_cons (ne_a ha (by omega)) (dj_cons (ne_a ha (by omega)) (dj_cons (ne_a ha (by omega)) (dj_nil)))))))
    have h_y : PP G (twoW G a Ns) H := kp hk1 h_y (dj_cons (ne_a ha (by omega)) (dj_cons (ne_a ha (by omega)) (dj_nil)))
    refine lv_aload_n hx hb dX12_clear_16 rfl (lv_at hl 0 rfl) ?_
    refine va_get (D := G.1) (ci := 12) (v := .int (nI 1)) (C := RX12) (T := TX12) (N := 23) hx hb hts inX12_clear_12 hown hK h_o 0 rfl rfl 22 (by decide) (hts (.fieldLink RX12 73 "GateLedgerModel" "thrown" "I") (List.mem_of_getElem? (i := 1) (by decide +kernel))) (fun _ h9 => h9) rfl dX12_clear_17 ?_
    refine lv_if_le (tgt := 25) hx hb dX12_clear_20 (by decide) (fun c20 => ?_) (fun c20 => ?_)
    · exact absurd c20 (by decide)
    · skip
      refine lv_iconst (v := nI 0) hx hb dX12_clear_23 (by decide) ?_
      have e1 : cCl p9 = 1 := if_neg c5
      exact en_wi (fs, sc, ()) hx hb hr hlocks hS ⟨fun q => absurd (e1.symm.trans q) (by decide), by rw [stN_n e1 (by decide)]; exact hFS⟩ (by rw [stN_n e1 (by decide), e1]; exact ⟨h_o, h_x, h_y⟩) dX12_clear_24
  · skip
    have c5 := bI_1 c5
    obtain ⟨z, hz, ez, ep⟩ := inBd_z c5 (by omega)
    rw [ep] at hl
    have hl : lv_has ls 3 [(0, .ref (a 93)), (1, .int (nI z))] := hl
    refine lv_iconst (v := nI 0) hx hb dX12_clear_8 (by decide) ?_
    refine lv_goto (tgt := 13) hx hb dX12_clear_9 (by decide) ?_
    refine pp_put (ci := 12) (v := .int (nI 0)) (ty := .int) (C := RX12) (T := TX12) (N := 23) hx hb hts inX12_clear_12 tyX12 tyX12_ok nmX12 hown hK h_o hS (rng_in (by omega)) rfl 22 (by decide) (hts (.fieldLink RX12 73 "GateLedgerModel" "thrown" "I") (List.mem_of_getElem? (i := 1) (by decide +kernel))) (fun _ h9 => h9) rfl (by decide +kernel) rfl rfl (Nat.le_of_ble_eq_true rfl) dX12_clear_13 (fun H locs hP9 hk2 _ hS => ?_)
    have h_o : PP G (modO a cy (nI 0)) H := hP9
    have h_x : PP G (sixW G a Ns fs sc) H := kp hk2 h_x (dj_cons (ne_a ha (by omega)) (dj_cons (ne_a ha (by omega)) (dj_cons (ne_a ha (by omega)) (dj_cons (ne_a ha (by omega)) (dj_cons (ne_a ha (by omega)) (dj_cons (ne_a ha (by omega)) (dj_nil)))))))
    have h_y : PP G (twoW G a Ns) H := kp hk2 h_y (dj_cons (ne_a ha (by omega)) (dj_cons (ne_a ha (by omega)) (dj_nil)))
    refine lv_aload_n hx hb dX12_clear_16 rfl (lv_at hl 0 rfl) ?_
    refine va_get (D := G.1) (ci := 12) (v := .int (nI 0)) (C := RX12) (T := TX12) (N := 23) hx hb hts inX12_clear_12 hown hK h_o 0 rfl rfl 22 (by decide) (hts (.fieldLink RX12 73 "GateLedgerModel" "thrown" "I") (List.mem_of_getElem? (i := 1) (by decide +kernel))) (fun _ h9 => h9) rfl dX12_clear_17 ?_
    refine lv_if_le (tgt := 25) hx hb dX12_clear_20 (by decide) (fun c20 => ?_) (fun c20 => ?_)
    · skip
      have h_x : PP G (sixW G a (upN Ns z (Ns z)) fs sc) H := by rw [upN_self]; exact h_x
      have hFS : FS (upN Ns z (Ns z)) fs sc := by rw [upN_self]; exact hFS
      have h_y : PP G (twoW G a (upN Ns z (Ns z))) H := by rw [upN_self]; exact h_y
      obtain ⟨h_kind, h_first, h_second, h_stuck, h_many, h_inputs⟩ := six_open h_x
      have h_outs : PP G (ar1 G a 100 64 (UF (upN Ns z (Ns z)))) H := P_app1 h_y
      have h_outMany : PP G (ar1 G a 101 4 (OF (upN Ns z (Ns z)))) H := P_app2 h_y
      refine lv_aload_n hx hb dX12_clear_25 rfl (lv_at hl 0 rfl) ?_
      refine va_get (D := G.1) (ci := 12) (v := .ref (a 98)) (C := RX12) (T := TX12) (N := 23) hx hb hts inX12_clear_12 hown hK h_o 0 rfl rfl 4 (by decide) (hts (.fieldLink RX12 22 "GateLedgerModel" "many" "[I") (List.mem_of_getElem? (i := 2) (by decide +kernel))) (fun _ h9 => h9) rfl dX12_clear_26 ?_
      refine lv_iload_n hx hb dX12_clear_29 rfl (lv_at hl 1 rfl) ?_
      refine pp_iald hx hb hK h_many 0 rfl (vp_in_nI (by omega) (by omega)) dX12_clear_30 ?_
      refine lv_as (congrArg (MF (upN Ns z (Ns z))) (nI_clamp (by omega))) ?_
      refine lv_as (y := nI (nG (Ns z))) MF_U ?_
      refine lv_istore_n (lv' := [(2, .int (nI (nG (Ns z)))), (0, .ref (a 93)), (1, .int (nI z))]) hx hb dX12_clear_31 rfl hl (by decide) rfl (fun ls hl => ?_)
      refine lv_aload_n hx hb dX12_clear_32 rfl (lv_at hl 1 rfl) ?_
      refine va_get (D := G.1) (ci := 12) (v := .ref (a 98)) (C := RX12) (T := TX12) (N := 23) hx hb hts inX12_clear_12 hown hK h_o 0 rfl rfl 4 (by decide) (hts (.fieldLink RX12 22 "GateLedgerModel" "many" "[I") (List.mem_of_getElem? (i := 2) (by decide +kernel))) (fun _ h9 => h9) rfl dX12_clear_33 ?_
      refine lv_iload_n hx hb dX12_clear_36 rfl (lv_at hl 2 rfl) ?_
      refine lv_iconst (v := nI 0) hx hb dX12_clear_37 (by decide) ?_
      refine pp_iast hx hb hK h_many hS (rng_in (by omega)) (vp_in_nI (by omega) (by omega)) dX12_clear_38 (fun H locs hP9 hk3 _ hS => ?_)
      rw [nI_clamp (by omega)] at hP9
      rw [MF_set (x := 0) (N' := clrN (Ns z)) rfl] at hP9
      have h_many : PP G (ar1 G a 98 4 (MF (upN Ns z (clrN (Ns z))))) H := hP9
      have h_o : PP G (modO a cy (nI 0)) H := kp hk3 h_o (dj_cons (ne_a ha (by omega)) (dj_nil))
      have h_kind : PP G (ar1 G a 94 480 (KF (upN Ns z (Ns z)))) H := kp hk3 h_kind (dj_cons (ne_a ha (by omega)) (dj_nil))
      have h_first : PP G (ar1 G a 95 480 fs) H := kp hk3 h_first (dj_cons (ne_a ha (by omega)) (dj_nil))
      have h_second : PP G (ar1 G a 96 480 sc) H := kp hk3 h_second (dj_cons (ne_a ha (by omega)) (dj_nil))
      have h_stuck : PP G (ar1 G a 97 480 (TF (upN Ns z (Ns z)))) H := kp hk3 h_stuck (dj_cons (ne_a ha (by omega)) (dj_nil))
      have h_inputs : PP G (ar1 G a 99 4 (IF (upN Ns z (Ns z)))) H := kp hk3 h_inputs (dj_cons (ne_a ha (by omega)) (dj_nil))
      have h_outs : PP G (ar1 G a 100 64 (UF (upN Ns z (Ns z)))) H := kp hk3 h_outs (dj_cons (ne_a ha (by omega)) (dj_nil))
      have h_outMany : PP G (ar1 G a 101 4 (OF (upN Ns z (Ns z)))) H := kp hk3 h_outMany (dj_cons (ne_a ha (by omega)) (dj_nil))
      refine lv_aload_n hx hb dX12_clear_39 rfl (lv_at hl 1 rfl) ?_
      refine va_get (D := G.1) (ci := 12) (v := .ref (a 99)) (C := RX12) (T := TX12) (N := 23) hx hb hts inX12_clear_12 hown hK h_o 0 rfl rfl 5 (by decide) (hts (.fieldLink RX12 25 "GateLedgerModel" "inputs" "[I") (List.mem_of_getElem? (i := 3) (by decide +kernel))) (fun _ h9 => h9) rfl dX12_clear_40 ?_
      refine lv_iload_n hx hb dX12_clear_43 rfl (lv_at hl 2 rfl) ?_
      refine lv_iconst (v := nI 0) hx hb dX12_clear_44 (by decide) ?_
      refine pp_iast hx hb hK h_inputs hS (rng_in (by omega)) (vp_in_nI (by omega) (by omega)) dX12_clear_45 (fun H locs hP9 hk4 _ hS => ?_)
      rw [nI_clamp (by omega)] at hP9
      rw [IF_set (x := 0) (N' := clrN (Ns z)) rfl] at hP9
      have h_inputs : PP G (ar1 G a 99 4 (IF (upN Ns z (clrN (Ns z))))) H := hP9
      have h_o : PP G (modO a cy (nI 0)) H := kp hk4 h_o (dj_cons (ne_a ha (by omega)) (dj_nil))
      have h_kind : PP G (ar1 G a 94 480 (KF (upN Ns z (Ns z)))) H := kp hk4 h_kind (dj_cons (ne_a ha (by omega)) (dj_nil))
      have h_first : PP G (ar1 G a 95 480 fs) H := kp hk4 h_first (dj_cons (ne_a ha (by omega)) (dj_nil))
      have h_second : PP G (ar1 G a 96 480 sc) H := kp hk4 h_second (dj_cons (ne_a ha (by omega)) (dj_nil))
      have h_stuck : PP G (ar1 G a 97 480 (TF (upN Ns z (Ns z)))) H := kp hk4 h_stuck (dj_cons (ne_a ha (by omega)) (dj_nil))
      have h_many : PP G (ar1 G a 98 4 (MF (upN Ns z (clrN (Ns z))))) H := kp hk4 h_many (dj_cons (ne_a ha (by omega)) (dj_nil))
      have h_outs : PP G (ar1 G a 100 64 (UF (upN Ns z (Ns z)))) H := kp hk4 h_outs (dj_cons (ne_a ha (by omega)) (dj_nil))
      have h_outMany : PP G (ar1 G a 101 4 (OF (upN Ns z (Ns z)))) H := kp hk4 h_outMany (dj_cons (ne_a ha (by omega)) (dj_nil))
      refine lv_aload_n hx hb dX12_clear_46 rfl (lv_at hl 1 rfl) ?_
      refine va_get (D := G.1) (ci := 12) (v := .ref (a 101)) (C := RX12) (T := TX12) (N := 23) hx hb hts inX12_clear_12 hown hK h_o 0 rfl rfl 7 (by decide) (hts (.fieldLink RX12 31 "GateLedgerModel" "outMany" "[I") (List.mem_of_getElem? (i := 4) (by decide +kernel))) (fun _ h9 => h9) rfl dX12_clear_47 ?_
      refine lv_iload_n hx hb dX12_clear_50 rfl (lv_at hl 2 rfl) ?_
      refine lv_iconst (v := nI 0) hx hb dX12_clear_51 (by decide) ?_
      refine pp_iast hx hb hK h_outMany hS (rng_in (by omega)) (vp_in_nI (by omega) (by omega)) dX12_clear_52 (fun H locs hP9 hk5 _ hS => ?_)
      rw [nI_clamp (by omega)] at hP9
      rw [OF_set (x := 0) (N' := clrN (Ns z)) rfl] at hP9
      have h_outMany : PP G (ar1 G a 101 4 (OF (upN Ns z (clrN (Ns z))))) H := hP9
      have h_o : PP G (modO a cy (nI 0)) H := kp hk5 h_o (dj_cons (ne_a ha (by omega)) (dj_nil))
      have h_kind : PP G (ar1 G a 94 480 (KF (upN Ns z (Ns z)))) H := kp hk5 h_kind (dj_cons (ne_a ha (by omega)) (dj_nil))
      have h_first : PP G (ar1 G a 95 480 fs) H := kp hk5 h_first (dj_cons (ne_a ha (by omega)) (dj_nil))
      have h_second : PP G (ar1 G a 96 480 sc) H := kp hk5 h_second (dj_cons (ne_a ha (by omega)) (dj_nil))
      have h_stuck : PP G (ar1 G a 97 480 (TF (upN Ns z (Ns z)))) H := kp hk5 h_stuck (dj_cons (ne_a ha (by omega)) (dj_nil))
      have h_many : PP G (ar1 G a 98 4 (MF (upN Ns z (clrN (Ns z))))) H := kp hk5 h_many (dj_cons (ne_a ha (by omega)) (dj_nil))
      have h_inputs : PP G (ar1 G a 99 4 (IF (upN Ns z (clrN (Ns z))))) H := kp hk5 h_inputs (dj_cons (ne_a ha (by omega)) (dj_nil))
      have h_outs : PP G (ar1 G a 100 64 (UF (upN Ns z (Ns z)))) H := kp hk5 h_outs (dj_cons (ne_a ha (by omega)) (dj_nil))
      have h_x : PP G (sixW G a (upN Ns z (clrN (Ns z))) fs sc) H := six_shut (by rw [KF_same (N := Ns z) (N' := clrN (Ns z)) rfl]; exact h_kind) h_first h_second (by rw [TF_same (N := Ns z) (N' := clrN (Ns z)) rfl]; exact h_stuck) h_many h_inputs
      have h_y : PP G (twoW G a (upN Ns z (clrN (Ns z)))) H := P_app (by rw [UF_same (N := Ns z) (N' := clrN (Ns z)) rfl]; exact h_outs) h_outMany
      refine lv_iload_n hx hb dX12_clear_53 rfl (lv_at hl 0 rfl) ?_
      have e1 : cCl p9 = 0 := if_pos c5
      exact en_wi (fs, sc, ()) hx hb hr hlocks hS ⟨fun _ => by rw [ez], by rw [stN_0 e1, ez]; exact (FS_clr hFS)⟩ (by rw [stN_0 e1, e1, ez]; exact ⟨h_o, h_x, h_y⟩) dX12_clear_54
    · exact absurd c20 (by decide)
set_option maxRecDepth 20000 in
theorem inX12_stick_12 : ∀ w ∈ u_ws RX12 TX12 23, w ∈ wsX12_stick := by decide +kernel
set_option maxHeartbeats 4000000 in
set_option maxRecDepth 100000 in
/-- stick -/
theorem c_X12_stick (l : Launch) (G : GG) (a : Nat → Nat) (ha : Inj a) (cy th : Int32) (Ns : Nat → NT) (fs sc : FN) (p9 g9 b9 : Int32) (hW : ∀ z, z < 4 → WF (Ns z)) (hFS : FS Ns fs sc)  : Met l yX12_stick wsX12_stick ({ frames := 3, cells := 0, slots := 0, locals := 64 } : Room) (PcB G [.ref (a 93), .int p9, .int g9, .int b9] (fun H => PP G (modO a cy th) H ∧ PP G (sixW G a Ns fs sc) H)) (QI (fun (r : Int32) (u : FN × FN × Unit) => (cSt Ns p9 g9 b9 = 0 → r = nT (Ns (ix p9)) (ix g9)) ∧ FS (stN (cSt Ns p9 g9 b9) (upN Ns (ix p9) (stkN (Ns (ix p9)) (ix g9) b9)) Ns) u.1 u.2.1) (fun u H => PP G (modO a cy (nI (cSt Ns p9 g9 b9))) H ∧ PP G (sixW G a (stN (cSt Ns p9 g9 b9) (upN Ns (ix p9) (stkN (Ns (ix p9)) (ix g9) b9)) Ns) u.1 u.2.1) H) (rng a 93 7)) 0 0 (rng a 93 7) := by
  refine Met.ofW (cc := cX12_stick) (maxL := 5) (ret := (some .int)) (by decide) rfl ?_
  intro p e s m args below meth c s₁ B hml hv
  obtain ⟨rfl, hB, hK, hNW⟩ := hv
  have hx := B.exec
  have hb := B.bytes
  have hr := B.returns
  have hts := atoms_spec (ws := wsX12_stick) B.pre
  have hown : s.vm.findClass RX12 = some m.cls := findClass_of_methodNamed B.named
  have hlocks := B.notSynchronized
  have FX : CallFix p m c cX12_stick 5 s ([.ref (a 93), .int p9, .int g9, .int b9] : List Value).toArray wsX12_stick RX12 := ⟨hx, hb, hml, hown, hts⟩
  have hl := lv_entry ([.ref (a 93), .int p9, .int g9, .int b9]) (n := 5) (Nat.le_of_ble_eq_true rfl)
  rw [lg_entry_eq]
  generalize (lg_sl ([.ref (a 93), .int p9, .int g9, .int b9]) ++ List.replicate (5 - (lg_sl ([.ref (a 93), .int p9, .int g9, .int b9])).length) Slot.unset).toArray = ls at hl ⊢
  have hl : lv_has ls 5 [(0, .ref (a 93)), (1, .int p9), (2, .int g9), (3, .int b9)] := hl
  obtain ⟨h_o, h_x⟩ := hB
  have hS : va_S (rng a 93 7) s.heap s.heap [] := va_S.rf
  refine lv_aload_n hx hb dX12_stick_0 rfl (lv_at hl 0 rfl) ?_
  refine lv_aload_n hx hb dX12_stick_1 rfl (lv_at hl 0 rfl) ?_
  refine lv_iload_n hx hb dX12_stick_2 rfl (lv_at hl 1 rfl) ?_
  refine lv_iload_n hx hb dX12_stick_3 rfl (lv_at hl 2 rfl) ?_
  refine ro_i (va_runV (As := [.int p9, .int g9]) (rest := [.ref (a 93)]) FX (c_X12_isGate l G a cy th Ns fs sc p9 g9 (fun z hz => (hW z hz).g)) (cwV 2 hts gX12_stick_X12_isGate rfl rfl rfl (by decide +kernel) ⟨Nat.le_of_ble_eq_true rfl, Nat.le_of_ble_eq_true rfl⟩) (preV hK hNW (⟨h_o, h_x⟩) (va_recv hK h_o (ci := 12) (q0 := 0) rfl rfl)) rfl rfl hl.1 rfl (lv_room (Nat.le_of_ble_eq_true rfl)) dX12_stick_4 ⟨Nat.le_of_ble_eq_true rfl, Nat.le_of_ble_eq_true rfl⟩) ?_
  refine lv_if_ne (tgt := 14) hx hb dX12_stick_7 (by decide) (fun c7 => ?_) (fun c7 => ?_)
  · skip
    have c7 := bI_1 c7
    obtain ⟨c5, cg⟩ := c7
    obtain ⟨z, hz, ez, ep⟩ := inBd_z c5 (by omega)
    rw [ep] at hl
    have hl : lv_has ls 5 [(0, .ref (a 93)), (1, .int (nI z)), (2, .int g9), (3, .int b9)] := hl
    have hN := hW _ hz
    have hg9 := hN.g
    have ho9 := hN.o
    have hi9 := hN.2.1
    have cg0 := cg
    rw [ez] at cg
    obtain ⟨g, hgl, eg, epg⟩ := inBd_z cg (by omega)
    rw [epg] at hl
    have hl : lv_has ls 5 [(0, .ref (a 93)), (1, .int (nI z)), (2, .int (nI g)), (3, .int b9)] := hl
    refine lv_iload_n hx hb dX12_stick_14 rfl (lv_at hl 3 rfl) ?_
    refine lv_iconst (v := -1) hx hb dX12_stick_15 (by decide) ?_
    refine lv_iconst (v := nI 1) hx hb dX12_stick_16 (by decide) ?_
    refine ro_i (va_runS (As := [.int b9, .int (-1), .int (nI 1)]) (rest := [.ref (a 93)]) FX (c_X12_isIn l G b9 (-1) (nI 1)) (va_cwS 3 hts gX12_stick_X12_isIn rfl rfl rfl (by decide +kernel) ⟨Nat.le_of_ble_eq_true rfl, Nat.le_of_ble_eq_true rfl⟩) (preS hK hNW trivial) rfl rfl hl.1 rfl (lv_room (Nat.le_of_ble_eq_true rfl)) dX12_stick_17 ⟨Nat.le_of_ble_eq_true rfl, Nat.le_of_ble_eq_true rfl⟩) ?_
    refine lv_if_ne (tgt := 27) hx hb dX12_stick_20 (by decide) (fun c20 => ?_) (fun c20 => ?_)
    · skip
      have c20 := bI_1 c20
      refine lv_iconst (v := nI 0) hx hb dX12_stick_27 (by decide) ?_
      refine pp_put (ci := 12) (v := .int (nI 0)) (ty := .int) (C := RX12) (T := TX12) (N := 23) hx hb hts inX12_stick_12 tyX12 tyX12_ok nmX12 hown hK h_o hS (rng_in (by omega)) rfl 22 (by decide) (hts (.fieldLink RX12 73 "GateLedgerModel" "thrown" "I") (List.mem_of_getElem? (i := 1) (by decide +kernel))) (fun _ h9 => h9) rfl (by decide +kernel) rfl rfl (Nat.le_of_ble_eq_true rfl) dX12_stick_28 (fun H locs hP9 hk1 _ hS => ?_)
      have h_o : PP G (modO a cy (nI 0)) H := hP9
      have h_x : PP G (sixW G a Ns fs sc) H := kp hk1 h_x (dj_cons (ne_a ha (by omega)) (dj_cons (ne_a ha (by omega)) (dj_cons (ne_a ha (by omega)) (dj_cons (ne_a ha (by omega)) (dj_cons (ne_a ha (by omega)) (dj_cons (ne_a ha (by omega)) (dj_nil)))))))
      refine lv_aload_n hx hb dX12_stick_31 rfl (lv_at hl 0 rfl) ?_
      refine va_get (D := G.1) (ci := 12) (v := .int (nI 0)) (C := RX12) (T := TX12) (N := 23) hx hb hts inX12_stick_12 hown hK h_o 0 rfl rfl 22 (by decide) (hts (.fieldLink RX12 73 "GateLedgerModel" "thrown" "I") (List.mem_of_getElem? (i := 1) (by decide +kernel))) (fun _ h9 => h9) rfl dX12_stick_32 ?_
      refine lv_if_le (tgt := 40) hx hb dX12_stick_35 (by decide) (fun c35 => ?_) (fun c35 => ?_)
      · skip
        have h_x : PP G (sixW G a (upN Ns z (Ns z)) fs sc) H := by rw [upN_self]; exact h_x
        have hFS : FS (upN Ns z (Ns z)) fs sc := by rw [upN_self]; exact hFS
        obtain ⟨h_kind, h_first, h_second, h_stuck, h_many, h_inputs⟩ := six_open h_x
        refine lv_aload_n hx hb dX12_stick_40 rfl (lv_at hl 0 rfl) ?_
        refine va_get (D := G.1) (ci := 12) (v := .ref (a 97)) (C := RX12) (T := TX12) (N := 23) hx hb hts inX12_stick_12 hown hK h_o 0 rfl rfl 3 (by decide) (hts (.fieldLink RX12 19 "GateLedgerModel" "stuck" "[I") (List.mem_of_getElem? (i := 2) (by decide +kernel))) (fun _ h9 => h9) rfl dX12_stick_41 ?_
        refine lv_bipush (v := nI 120) hx hb dX12_stick_44 (by decide) ?_
        refine lv_iload_n hx hb dX12_stick_46 rfl (lv_at hl 1 rfl) ?_
        refine lv_imul hx hb dX12_stick_47 ?_
        refine lv_as (pk_mul _ _) ?_
        refine lv_iload_n hx hb dX12_stick_48 rfl (lv_at hl 2 rfl) ?_
        refine lv_iadd hx hb dX12_stick_49 ?_
        refine lv_as (nI_add _ _) ?_
        refine pp_iald hx hb hK h_stuck 0 rfl (vp_in_nI (by omega) (by omega)) dX12_stick_50 ?_
        refine lv_as (congrArg (TF (upN Ns z (Ns z))) (nI_clamp (by omega))) ?_
        refine lv_as (y := nT (Ns z) g) ((TF_at (by omega)).trans (by rw [upN_s])) ?_
        refine lv_istore (lv' := [(4, .int (nT (Ns z) g)), (0, .ref (a 93)), (1, .int (nI z)), (2, .int (nI g)), (3, .int b9)]) hx hb dX12_stick_51 hl (by decide) rfl (fun ls hl => ?_)
        refine lv_aload_n hx hb dX12_stick_53 rfl (lv_at hl 1 rfl) ?_
        refine va_get (D := G.1) (ci := 12) (v := .ref (a 97)) (C := RX12) (T := TX12) (N := 23) hx hb hts inX12_stick_12 hown hK h_o 0 rfl rfl 3 (by decide) (hts (.fieldLink RX12 19 "GateLedgerModel" "stuck" "[I") (List.mem_of_getElem? (i := 2) (by decide +kernel))) (fun _ h9 => h9) rfl dX12_stick_54 ?_
        refine lv_bipush (v := nI 120) hx hb dX12_stick_57 (by decide) ?_
        refine lv_iload_n hx hb dX12_stick_59 rfl (lv_at hl 2 rfl) ?_
        refine lv_imul hx hb dX12_stick_60 ?_
        refine lv_as (pk_mul _ _) ?_
        refine lv_iload_n hx hb dX12_stick_61 rfl (lv_at hl 3 rfl) ?_
        refine lv_iadd hx hb dX12_stick_62 ?_
        refine lv_as (nI_add _ _) ?_
        refine lv_iload_n hx hb dX12_stick_63 rfl (lv_at hl 4 rfl) ?_
        refine pp_iast hx hb hK h_stuck hS (rng_in (by omega)) (vp_in_nI (by omega) (by omega)) dX12_stick_64 (fun H locs hP9 hk2 _ hS => ?_)
        rw [nI_clamp (by omega)] at hP9
        rw [TF_set (N' := stkN (Ns z) g b9) (by omega) rfl] at hP9
        have h_stuck : PP G (ar1 G a 97 480 (TF (upN Ns z (stkN (Ns z) g b9)))) H := hP9
        have h_o : PP G (modO a cy (nI 0)) H := kp hk2 h_o (dj_cons (ne_a ha (by omega)) (dj_nil))
        have h_kind : PP G (ar1 G a 94 480 (KF (upN Ns z (Ns z)))) H := kp hk2 h_kind (dj_cons (ne_a ha (by omega)) (dj_nil))
        have h_first : PP G (ar1 G a 95 480 fs) H := kp hk2 h_first (dj_cons (ne_a ha (by omega)) (dj_nil))
        have h_second : PP G (ar1 G a 96 480 sc) H := kp hk2 h_second (dj_cons (ne_a ha (by omega)) (dj_nil))
        have h_many : PP G (ar1 G a 98 4 (MF (upN Ns z (Ns z)))) H := kp hk2 h_many (dj_cons (ne_a ha (by omega)) (dj_nil))
        have h_inputs : PP G (ar1 G a 99 4 (IF (upN Ns z (Ns z)))) H := kp hk2 h_inputs (dj_cons (ne_a ha (by omega)) (dj_nil))
        have h_x : PP G (sixW G a (upN Ns z (stkN (Ns z) g b9)) fs sc) H := six_shut (by rw [KF_same (N := Ns z) (N' := stkN (Ns z) g b9) rfl]; exact h_kind) h_first h_second h_stuck (by rw [MF_same (N := Ns z) (N' := stkN (Ns z) g b9) rfl]; exact h_many) (by rw [IF_same (N := Ns z) (N' := stkN (Ns z) g b9) rfl]; exact h_inputs)
        refine lv_iload hx hb dX12_stick_65 (lv_at hl 0 rfl) ?_
        have e1 : cSt Ns p9 g9 b9 = 0 := (if_pos c5).trans ((if_pos cg0).trans (if_pos c20))
        exact en_wi (fs, sc, ()) hx hb hr hlocks hS ⟨fun _ => by rw [ez, eg], by rw [stN_0 e1, ez, eg]; exact (FS_same hFS rfl rfl rfl rfl)⟩ (by rw [stN_0 e1, e1, ez, eg]; exact ⟨h_o, h_x⟩) dX12_stick_67
      · exact absurd c35 (by decide)
    · skip
      have c20 := bI_0.mp c20
      refine lv_iconst (v := nI 2) hx hb dX12_stick_23 (by decide) ?_
      refine lv_goto (tgt := 28) hx hb dX12_stick_24 (by decide) ?_
      refine pp_put (ci := 12) (v := .int (nI 2)) (ty := .int) (C := RX12) (T := TX12) (N := 23) hx hb hts inX12_stick_12 tyX12 tyX12_ok nmX12 hown hK h_o hS (rng_in (by omega)) rfl 22 (by decide) (hts (.fieldLink RX12 73 "GateLedgerModel" "thrown" "I") (List.mem_of_getElem? (i := 1) (by decide +kernel))) (fun _ h9 => h9) rfl (by decide +kernel) rfl rfl (Nat.le_of_ble_eq_true rfl) dX12_stick_28 (fun H locs hP9 hk3 _ hS => ?_)
      have h_o : PP G (modO a cy (nI 2)) H := hP9
      have h_x : PP G (sixW G a Ns fs sc) H := kp hk3 h_x (dj_cons (ne_a ha (by omega)) (dj_cons (ne_a ha (by omega)) (dj_cons (ne_a ha (by omega)) (dj_cons (ne_a ha (by omega)) (dj_cons (ne_a ha (by omega)) (dj_cons (ne_a ha (by omega)) (dj_nil)))))))
      refine lv_aload_n hx hb dX12_stick_31 rfl (lv_at hl 0 rfl) ?_
      refine va_get (D := G.1) (ci := 12) (v := .int (nI 2)) (C := RX12) (T := TX12) (N := 23) hx hb hts inX12_stick_12 hown hK h_o 0 rfl rfl 22 (by decide) (hts (.fieldLink RX12 73 "GateLedgerModel" "thrown" "I") (List.mem_of_getElem? (i := 1) (by decide +kernel))) (fun _ h9 => h9) rfl dX12_stick_32 ?_
      refine lv_if_le (tgt := 40) hx hb dX12_stick_35 (by decide) (fun c35 => ?_) (fun c35 => ?_)
      · exact absurd c35 (by decide)
      · skip
        refine lv_iconst (v := nI 0) hx hb dX12_stick_38 (by decide) ?_
        have e1 : cSt Ns p9 g9 b9 = 2 := (if_pos c5).trans ((if_pos cg0).trans (if_neg c20))
        exact en_wi (fs, sc, ()) hx hb hr hlocks hS ⟨fun q => absurd (e1.symm.trans q) (by decide), by rw [stN_n e1 (by decide)]; exact hFS⟩ (by rw [stN_n e1 (by decide), e1]; exact ⟨h_o, h_x⟩) dX12_stick_39
  · skip
    have c7 := bI_0.mp c7
    refine lv_iconst (v := nI 1) hx hb dX12_stick_10 (by decide) ?_
    refine lv_goto (tgt := 28) hx hb dX12_stick_11 (by decide) ?_
    refine pp_put (ci := 12) (v := .int (nI 1)) (ty := .int) (C := RX12) (T := TX12) (N := 23) hx hb hts inX12_stick_12 tyX12 tyX12_ok nmX12 hown hK h_o hS (rng_in (by omega)) rfl 22 (by decide) (hts (.fieldLink RX12 73 "GateLedgerModel" "thrown" "I") (List.mem_of_getElem? (i := 1) (by decide +kernel))) (fun _ h9 => h9) rfl (by decide +kernel) rfl rfl (Nat.le_of_ble_eq_true rfl) dX12_stick_28 (fun H locs hP9 hk4 _ hS => ?_)
    have h_o : PP G (modO a cy (nI 1)) H := hP9
    have h_x : PP G (sixW G a Ns fs sc) H := kp hk4 h_x (dj_cons (ne_a ha (by omega)) (dj_cons (ne_a ha (by omega)) (dj_cons (ne_a ha (by omega)) (dj_cons (ne_a ha (by omega)) (dj_cons (ne_a ha (by omega)) (dj_cons (ne_a ha (by omega)) (dj_nil)))))))
    refine lv_aload_n hx hb dX12_stick_31 rfl (lv_at hl 0 rfl) ?_
    refine va_get (D := G.1) (ci := 12) (v := .int (nI 1)) (C := RX12) (T := TX12) (N := 23) hx hb hts inX12_stick_12 hown hK h_o 0 rfl rfl 22 (by decide) (hts (.fieldLink RX12 73 "GateLedgerModel" "thrown" "I") (List.mem_of_getElem? (i := 1) (by decide +kernel))) (fun _ h9 => h9) rfl dX12_stick_32 ?_
    refine lv_if_le (tgt := 40) hx hb dX12_stick_35 (by decide) (fun c35 => ?_) (fun c35 => ?_)
    · exact absurd c35 (by decide)
    · skip
      refine lv_iconst (v := nI 0) hx hb dX12_stick_38 (by decide) ?_
      have e1 : cSt Ns p9 g9 b9 = 1 := by unfold cSt; by_cases q1 : inBd p9 4; rw [if_pos q1, if_neg (fun q2 => c7 ⟨q1, q2⟩)]; rw [if_neg q1]
      exact en_wi (fs, sc, ()) hx hb hr hlocks hS ⟨fun q => absurd (e1.symm.trans q) (by decide), by rw [stN_n e1 (by decide)]; exact hFS⟩ (by rw [stN_n e1 (by decide), e1]; exact ⟨h_o, h_x⟩) dX12_stick_39
set_option maxRecDepth 20000 in
theorem inX12_cost_12 : ∀ w ∈ u_ws RX12 TX12 23, w ∈ wsX12_cost := by decide +kernel
set_option maxHeartbeats 4000000 in
set_option maxRecDepth 100000 in
/-- cost -/
theorem c_X12_cost (l : Launch) (G : GG) (a : Nat → Nat) (ha : Inj a) (cy th : Int32) (dl ar0 : Nat → Nat) (kd9 d9 x9 : Int32)  : Met l yX12_cost wsX12_cost ({ frames := 1, cells := 0, slots := 0, locals := 22 } : Room) (PcB G [.ref (a 93), .int kd9, .int d9, .int x9] (fun H => PP G (modO a cy th) H ∧ PP G (ar1 G a 102 4 (fun z => nI (dl z))) H ∧ PP G (ar1 G a 103 4 (fun z => nI (ar0 z))) H)) (QI (fun (r : Int32) (_ : Unit) => cCo kd9 d9 x9 = 0 → r = nI (dl (ix kd9))) (fun _ H => PP G (modO a cy (nI (cCo kd9 d9 x9))) H ∧ PP G (ar1 G a 102 4 (fun z => nI ((stN (cCo kd9 d9 x9) (un dl (ix kd9) (ix d9)) dl) z))) H ∧ PP G (ar1 G a 103 4 (fun z => nI ((stN (cCo kd9 d9 x9) (un ar0 (ix kd9) (ix x9)) ar0) z))) H) (orA (rng a 93 1) (rng a 102 2))) 0 0 (orA (rng a 93 1) (rng a 102 2)) := by
  refine Met.ofW (cc := cX12_cost) (maxL := 5) (ret := (some .int)) (by decide) rfl ?_
  intro p e s m args below meth c s₁ B hml hv
  obtain ⟨rfl, hB, hK, hNW⟩ := hv
  have hx := B.exec
  have hb := B.bytes
  have hr := B.returns
  have hts := atoms_spec (ws := wsX12_cost) B.pre
  have hown : s.vm.findClass RX12 = some m.cls := findClass_of_methodNamed B.named
  have hlocks := B.notSynchronized
  have FX : CallFix p m c cX12_cost 5 s ([.ref (a 93), .int kd9, .int d9, .int x9] : List Value).toArray wsX12_cost RX12 := ⟨hx, hb, hml, hown, hts⟩
  have hl := lv_entry ([.ref (a 93), .int kd9, .int d9, .int x9]) (n := 5) (Nat.le_of_ble_eq_true rfl)
  rw [lg_entry_eq]
  generalize (lg_sl ([.ref (a 93), .int kd9, .int d9, .int x9]) ++ List.replicate (5 - (lg_sl ([.ref (a 93), .int kd9, .int d9, .int x9])).length) Slot.unset).toArray = ls at hl ⊢
  have hl : lv_has ls 5 [(0, .ref (a 93)), (1, .int kd9), (2, .int d9), (3, .int x9)] := hl
  obtain ⟨h_o, h_delay, h_area⟩ := hB
  have hS : va_S (orA (rng a 93 1) (rng a 102 2)) s.heap s.heap [] := va_S.rf
  refine lv_aload_n hx hb dX12_cost_0 rfl (lv_at hl 0 rfl) ?_
  refine lv_iload_n hx hb dX12_cost_1 rfl (lv_at hl 1 rfl) ?_
  refine lv_iconst (v := nI 0) hx hb dX12_cost_2 (by decide) ?_
  refine lv_iconst (v := nI 3) hx hb dX12_cost_3 (by decide) ?_
  refine ro_i (va_runS (As := [.int kd9, .int (nI 0), .int (nI 3)]) (rest := [.ref (a 93)]) FX (c_X12_isIn l G kd9 (nI 0) (nI 3)) (va_cwS 3 hts gX12_cost_X12_isIn rfl rfl rfl (by decide +kernel) ⟨Nat.le_of_ble_eq_true rfl, Nat.le_of_ble_eq_true rfl⟩) (preS hK hNW trivial) rfl rfl hl.1 rfl (lv_room (Nat.le_of_ble_eq_true rfl)) dX12_cost_4 ⟨Nat.le_of_ble_eq_true rfl, Nat.le_of_ble_eq_true rfl⟩) ?_
  refine lv_if_ne (tgt := 14) hx hb dX12_cost_7 (by decide) (fun c7 => ?_) (fun c7 => ?_)
  · skip
    have c7 := bI_1 c7
    have ck := (isIn_0 (by omega)).mp c7
    obtain ⟨kd, hk, ek, epk⟩ := inBd_z ck (by omega)
    rw [epk] at hl
    have hl : lv_has ls 5 [(0, .ref (a 93)), (1, .int (nI kd)), (2, .int d9), (3, .int x9)] := hl
    refine lv_iload_n hx hb dX12_cost_14 rfl (lv_at hl 2 rfl) ?_
    refine lv_iconst (v := nI 1) hx hb dX12_cost_15 (by decide) ?_
    refine lv_bipush (v := nI 9) hx hb dX12_cost_16 (by decide) ?_
    refine ro_i (va_runS (As := [.int d9, .int (nI 1), .int (nI 9)]) (rest := [.ref (a 93)]) FX (c_X12_isIn l G d9 (nI 1) (nI 9)) (va_cwS 3 hts gX12_cost_X12_isIn rfl rfl rfl (by decide +kernel) ⟨Nat.le_of_ble_eq_true rfl, Nat.le_of_ble_eq_true rfl⟩) (preS hK hNW trivial) rfl rfl hl.1 rfl (lv_room (Nat.le_of_ble_eq_true rfl)) dX12_cost_18 ⟨Nat.le_of_ble_eq_true rfl, Nat.le_of_ble_eq_true rfl⟩) ?_
    refine lv_if_eq (tgt := 34) hx hb dX12_cost_21 (by decide) (fun c21 => ?_) (fun c21 => ?_)
    · skip
      have c21 := bI_0.mp c21
      refine lv_iconst (v := nI 2) hx hb dX12_cost_34 (by decide) ?_
      refine lv_goto (tgt := 39) hx hb dX12_cost_35 (by decide) ?_
      refine pp_put (ci := 12) (v := .int (nI 2)) (ty := .int) (C := RX12) (T := TX12) (N := 23) hx hb hts inX12_cost_12 tyX12 tyX12_ok nmX12 hown hK h_o hS (Or.inl (rng_in (by omega))) rfl 22 (by decide) (hts (.fieldLink RX12 73 "GateLedgerModel" "thrown" "I") (List.mem_of_getElem? (i := 1) (by decide +kernel))) (fun _ h9 => h9) rfl (by decide +kernel) rfl rfl (Nat.le_of_ble_eq_true rfl) dX12_cost_39 (fun H locs hP9 hk1 _ hS => ?_)
      have h_o : PP G (modO a cy (nI 2)) H := hP9
      have h_delay : PP G (ar1 G a 102 4 (fun z => nI (dl z))) H := kp hk1 h_delay (dj_cons (ne_a ha (by omega)) (dj_nil))
      have h_area : PP G (ar1 G a 103 4 (fun z => nI (ar0 z))) H := kp hk1 h_area (dj_cons (ne_a ha (by omega)) (dj_nil))
      refine lv_aload_n hx hb dX12_cost_42 rfl (lv_at hl 0 rfl) ?_
      refine va_get (D := G.1) (ci := 12) (v := .int (nI 2)) (C := RX12) (T := TX12) (N := 23) hx hb hts inX12_cost_12 hown hK h_o 0 rfl rfl 22 (by decide) (hts (.fieldLink RX12 73 "GateLedgerModel" "thrown" "I") (List.mem_of_getElem? (i := 1) (by decide +kernel))) (fun _ h9 => h9) rfl dX12_cost_43 ?_
      refine lv_if_le (tgt := 51) hx hb dX12_cost_46 (by decide) (fun c46 => ?_) (fun c46 => ?_)
      · exact absurd c46 (by decide)
      · skip
        refine lv_iconst (v := nI 0) hx hb dX12_cost_49 (by decide) ?_
        have e1 : cCo kd9 d9 x9 = 2 := (if_pos ck).trans (if_neg c21)
        exact en_wi () hx hb hr hlocks hS (fun q => absurd (e1.symm.trans q) (by decide)) (by rw [stN_n e1 (by decide), stN_n e1 (by decide), e1]; exact ⟨h_o, h_delay, h_area⟩) dX12_cost_50
    · skip
      have c21 := bI_1 c21
      obtain ⟨d, ed, epd, hd1, hd2⟩ := rg_z c21 (by omega) (by omega)
      rw [epd] at hl
      have hl : lv_has ls 5 [(0, .ref (a 93)), (1, .int (nI kd)), (2, .int (nI d)), (3, .int x9)] := hl
      refine lv_iload_n hx hb dX12_cost_24 rfl (lv_at hl 3 rfl) ?_
      refine lv_iconst (v := nI 0) hx hb dX12_cost_25 (by decide) ?_
      refine lv_bipush (v := nI 99) hx hb dX12_cost_26 (by decide) ?_
      refine ro_i (va_runS (As := [.int x9, .int (nI 0), .int (nI 99)]) (rest := [.ref (a 93)]) FX (c_X12_isIn l G x9 (nI 0) (nI 99)) (va_cwS 3 hts gX12_cost_X12_isIn rfl rfl rfl (by decide +kernel) ⟨Nat.le_of_ble_eq_true rfl, Nat.le_of_ble_eq_true rfl⟩) (preS hK hNW trivial) rfl rfl hl.1 rfl (lv_room (Nat.le_of_ble_eq_true rfl)) dX12_cost_28 ⟨Nat.le_of_ble_eq_true rfl, Nat.le_of_ble_eq_true rfl⟩) ?_
      refine lv_if_ne (tgt := 38) hx hb dX12_cost_31 (by decide) (fun c31 => ?_) (fun c31 => ?_)
      · skip
        have c31 := bI_1 c31
        obtain ⟨v, ev, epv, hv1, hv2⟩ := rg_z c31 (by omega) (by omega)
        rw [epv] at hl
        have hl : lv_has ls 5 [(0, .ref (a 93)), (1, .int (nI kd)), (2, .int (nI d)), (3, .int (nI v))] := hl
        refine lv_iconst (v := nI 0) hx hb dX12_cost_38 (by decide) ?_
        refine pp_put (ci := 12) (v := .int (nI 0)) (ty := .int) (C := RX12) (T := TX12) (N := 23) hx hb hts inX12_cost_12 tyX12 tyX12_ok nmX12 hown hK h_o hS (Or.inl (rng_in (by omega))) rfl 22 (by decide) (hts (.fieldLink RX12 73 "GateLedgerModel" "thrown" "I") (List.mem_of_getElem? (i := 1) (by decide +kernel))) (fun _ h9 => h9) rfl (by decide +kernel) rfl rfl (Nat.le_of_ble_eq_true rfl) dX12_cost_39 (fun H locs hP9 hk2 _ hS => ?_)
        have h_o : PP G (modO a cy (nI 0)) H := hP9
        have h_delay : PP G (ar1 G a 102 4 (fun z => nI (dl z))) H := kp hk2 h_delay (dj_cons (ne_a ha (by omega)) (dj_nil))
        have h_area : PP G (ar1 G a 103 4 (fun z => nI (ar0 z))) H := kp hk2 h_area (dj_cons (ne_a ha (by omega)) (dj_nil))
        refine lv_aload_n hx hb dX12_cost_42 rfl (lv_at hl 0 rfl) ?_
        refine va_get (D := G.1) (ci := 12) (v := .int (nI 0)) (C := RX12) (T := TX12) (N := 23) hx hb hts inX12_cost_12 hown hK h_o 0 rfl rfl 22 (by decide) (hts (.fieldLink RX12 73 "GateLedgerModel" "thrown" "I") (List.mem_of_getElem? (i := 1) (by decide +kernel))) (fun _ h9 => h9) rfl dX12_cost_43 ?_
        refine lv_if_le (tgt := 51) hx hb dX12_cost_46 (by decide) (fun c46 => ?_) (fun c46 => ?_)
        · skip
          refine lv_aload_n hx hb dX12_cost_51 rfl (lv_at hl 0 rfl) ?_
          refine va_get (D := G.1) (ci := 12) (v := .ref (a 102)) (C := RX12) (T := TX12) (N := 23) hx hb hts inX12_cost_12 hown hK h_o 0 rfl rfl 8 (by decide) (hts (.fieldLink RX12 34 "GateLedgerModel" "delay" "[I") (List.mem_of_getElem? (i := 2) (by decide +kernel))) (fun _ h9 => h9) rfl dX12_cost_52 ?_
          refine lv_iload_n hx hb dX12_cost_55 rfl (lv_at hl 1 rfl) ?_
          refine pp_iald hx hb hK h_delay 0 rfl (vp_in_nI (by omega) (by omega)) dX12_cost_56 ?_
          refine lv_as (congrArg (fun z => nI (dl z)) (nI_clamp (by omega))) ?_
          refine lv_st (st' := [.int (nI (dl kd))]) rfl ?_
          refine lv_istore (lv' := [(4, .int (nI (dl kd))), (0, .ref (a 93)), (1, .int (nI kd)), (2, .int (nI d)), (3, .int (nI v))]) hx hb dX12_cost_57 hl (by decide) rfl (fun ls hl => ?_)
          refine lv_aload_n hx hb dX12_cost_59 rfl (lv_at hl 1 rfl) ?_
          refine va_get (D := G.1) (ci := 12) (v := .ref (a 102)) (C := RX12) (T := TX12) (N := 23) hx hb hts inX12_cost_12 hown hK h_o 0 rfl rfl 8 (by decide) (hts (.fieldLink RX12 34 "GateLedgerModel" "delay" "[I") (List.mem_of_getElem? (i := 2) (by decide +kernel))) (fun _ h9 => h9) rfl dX12_cost_60 ?_
          refine lv_iload_n hx hb dX12_cost_63 rfl (lv_at hl 2 rfl) ?_
          refine lv_iload_n hx hb dX12_cost_64 rfl (lv_at hl 3 rfl) ?_
          refine pp_iast hx hb hK h_delay hS (Or.inr (rng_in (by omega))) (vp_in_nI (by omega) (by omega)) dX12_cost_65 (fun H locs hP9 hk3 _ hS => ?_)
          rw [nI_clamp (by omega)] at hP9
          rw [upd_un] at hP9
          have h_delay : PP G (ar1 G a 102 4 (fun z => nI (un dl kd d z))) H := hP9
          have h_o : PP G (modO a cy (nI 0)) H := kp hk3 h_o (dj_cons (ne_a ha (by omega)) (dj_nil))
          have h_area : PP G (ar1 G a 103 4 (fun z => nI (ar0 z))) H := kp hk3 h_area (dj_cons (ne_a ha (by omega)) (dj_nil))
          refine lv_aload_n hx hb dX12_cost_66 rfl (lv_at hl 1 rfl) ?_
          refine va_get (D := G.1) (ci := 12) (v := .ref (a 103)) (C := RX12) (T := TX12) (N := 23) hx hb hts inX12_cost_12 hown hK h_o 0 rfl rfl 9 (by decide) (hts (.fieldLink RX12 37 "GateLedgerModel" "area" "[I") (List.mem_of_getElem? (i := 3) (by decide +kernel))) (fun _ h9 => h9) rfl dX12_cost_67 ?_
          refine lv_iload_n hx hb dX12_cost_70 rfl (lv_at hl 2 rfl) ?_
          refine lv_iload_n hx hb dX12_cost_71 rfl (lv_at hl 4 rfl) ?_
          refine pp_iast hx hb hK h_area hS (Or.inr (rng_in (by omega))) (vp_in_nI (by omega) (by omega)) dX12_cost_72 (fun H locs hP9 hk4 _ hS => ?_)
          rw [nI_clamp (by omega)] at hP9
          rw [upd_un] at hP9
          have h_area : PP G (ar1 G a 103 4 (fun z => nI (un ar0 kd v z))) H := hP9
          have h_o : PP G (modO a cy (nI 0)) H := kp hk4 h_o (dj_cons (ne_a ha (by omega)) (dj_nil))
          have h_delay : PP G (ar1 G a 102 4 (fun z => nI (un dl kd d z))) H := kp hk4 h_delay (dj_cons (ne_a ha (by omega)) (dj_nil))
          refine lv_iload hx hb dX12_cost_73 (lv_at hl 0 rfl) ?_
          have e1 : cCo kd9 d9 x9 = 0 := (if_pos ck).trans ((if_pos c21).trans (if_pos c31))
          exact en_wi () hx hb hr hlocks hS (fun _ => by rw [ek]) (by rw [stN_0 e1, stN_0 e1, e1, ek, ed, ev]; exact ⟨h_o, h_delay, h_area⟩) dX12_cost_75
        · exact absurd c46 (by decide)
      · skip
        have c31 := bI_0.mp c31
        refine lv_iconst (v := nI 2) hx hb dX12_cost_34 (by decide) ?_
        refine lv_goto (tgt := 39) hx hb dX12_cost_35 (by decide) ?_
        refine pp_put (ci := 12) (v := .int (nI 2)) (ty := .int) (C := RX12) (T := TX12) (N := 23) hx hb hts inX12_cost_12 tyX12 tyX12_ok nmX12 hown hK h_o hS (Or.inl (rng_in (by omega))) rfl 22 (by decide) (hts (.fieldLink RX12 73 "GateLedgerModel" "thrown" "I") (List.mem_of_getElem? (i := 1) (by decide +kernel))) (fun _ h9 => h9) rfl (by decide +kernel) rfl rfl (Nat.le_of_ble_eq_true rfl) dX12_cost_39 (fun H locs hP9 hk5 _ hS => ?_)
        have h_o : PP G (modO a cy (nI 2)) H := hP9
        have h_delay : PP G (ar1 G a 102 4 (fun z => nI (dl z))) H := kp hk5 h_delay (dj_cons (ne_a ha (by omega)) (dj_nil))
        have h_area : PP G (ar1 G a 103 4 (fun z => nI (ar0 z))) H := kp hk5 h_area (dj_cons (ne_a ha (by omega)) (dj_nil))
        refine lv_aload_n hx hb dX12_cost_42 rfl (lv_at hl 0 rfl) ?_
        refine va_get (D := G.1) (ci := 12) (v := .int (nI 2)) (C := RX12) (T := TX12) (N := 23) hx hb hts inX12_cost_12 hown hK h_o 0 rfl rfl 22 (by decide) (hts (.fieldLink RX12 73 "GateLedgerModel" "thrown" "I") (List.mem_of_getElem? (i := 1) (by decide +kernel))) (fun _ h9 => h9) rfl dX12_cost_43 ?_
        refine lv_if_le (tgt := 51) hx hb dX12_cost_46 (by decide) (fun c46 => ?_) (fun c46 => ?_)
        · exact absurd c46 (by decide)
        · skip
          refine lv_iconst (v := nI 0) hx hb dX12_cost_49 (by decide) ?_
          have e1 : cCo kd9 d9 x9 = 2 := (if_pos ck).trans ((if_pos c21).trans (if_neg c31))
          exact en_wi () hx hb hr hlocks hS (fun q => absurd (e1.symm.trans q) (by decide)) (by rw [stN_n e1 (by decide), stN_n e1 (by decide), e1]; exact ⟨h_o, h_delay, h_area⟩) dX12_cost_50
  · skip
    have c7 := bI_0.mp c7
    refine lv_iconst (v := nI 1) hx hb dX12_cost_10 (by decide) ?_
    refine lv_goto (tgt := 39) hx hb dX12_cost_11 (by decide) ?_
    refine pp_put (ci := 12) (v := .int (nI 1)) (ty := .int) (C := RX12) (T := TX12) (N := 23) hx hb hts inX12_cost_12 tyX12 tyX12_ok nmX12 hown hK h_o hS (Or.inl (rng_in (by omega))) rfl 22 (by decide) (hts (.fieldLink RX12 73 "GateLedgerModel" "thrown" "I") (List.mem_of_getElem? (i := 1) (by decide +kernel))) (fun _ h9 => h9) rfl (by decide +kernel) rfl rfl (Nat.le_of_ble_eq_true rfl) dX12_cost_39 (fun H locs hP9 hk6 _ hS => ?_)
    have h_o : PP G (modO a cy (nI 1)) H := hP9
    have h_delay : PP G (ar1 G a 102 4 (fun z => nI (dl z))) H := kp hk6 h_delay (dj_cons (ne_a ha (by omega)) (dj_nil))
    have h_area : PP G (ar1 G a 103 4 (fun z => nI (ar0 z))) H := kp hk6 h_area (dj_cons (ne_a ha (by omega)) (dj_nil))
    refine lv_aload_n hx hb dX12_cost_42 rfl (lv_at hl 0 rfl) ?_
    refine va_get (D := G.1) (ci := 12) (v := .int (nI 1)) (C := RX12) (T := TX12) (N := 23) hx hb hts inX12_cost_12 hown hK h_o 0 rfl rfl 22 (by decide) (hts (.fieldLink RX12 73 "GateLedgerModel" "thrown" "I") (List.mem_of_getElem? (i := 1) (by decide +kernel))) (fun _ h9 => h9) rfl dX12_cost_43 ?_
    refine lv_if_le (tgt := 51) hx hb dX12_cost_46 (by decide) (fun c46 => ?_) (fun c46 => ?_)
    · exact absurd c46 (by decide)
    · skip
      refine lv_iconst (v := nI 0) hx hb dX12_cost_49 (by decide) ?_
      have e1 : cCo kd9 d9 x9 = 1 := if_neg (fun q => c7 ((isIn_0 (by omega)).mpr q))
      exact en_wi () hx hb hr hlocks hS (fun q => absurd (e1.symm.trans q) (by decide)) (by rw [stN_n e1 (by decide), stN_n e1 (by decide), e1]; exact ⟨h_o, h_delay, h_area⟩) dX12_cost_50
