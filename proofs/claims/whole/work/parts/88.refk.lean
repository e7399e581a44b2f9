set_option maxRecDepth 20000 in
theorem inX12_tellsChanges_12 : ∀ w ∈ u_ws RX12 TX12 23, w ∈ wsX12_tellsChanges := by decide +kernel
set_option maxHeartbeats 4000000 in
set_option maxRecDepth 100000 in
/-- tellsChanges -/
theorem c_X12_tellsChanges (l : Launch) (G : GG) (a : Nat → Nat) (ha : Inj a) (cy th : Int32) (Ns : Nat → NT) (fs sc : FN) (dl : Nat → Nat) (b0 t0 m0 o0 q0 : FN) (p9 f9 v9 w9 : Int32) (hW : ∀ z, z < 4 → WF (Ns z)) (hFS : FS Ns fs sc) (hd : DL dl)  : Met l yX12_tellsChanges wsX12_tellsChanges ({ frames := 2, cells := 0, slots := 0, locals := 49 } : Room) (PcB G [.ref (a 93), .int p9, .int f9, .int v9, .int w9] (fun H => PP G (modO a cy th) H ∧ PP G (sixW G a Ns fs sc) H ∧ PP G (twoW G a Ns) H ∧ PP G (ar1 G a 102 4 (fun z => nI (dl z))) H ∧ PP G (ar1 G a 104 120 b0) H ∧ PP G (ar1 G a 105 120 t0) H ∧ PP G (ar1 G a 106 120 m0) H ∧ PP G (ar1 G a 107 120 o0) H ∧ PP G (ar1 G a 108 1200 q0) H)) (QI (fun (r : Int32) (u : FN × FN × FN × FN × FN) => (cCh p9 f9 v9 w9 = 0 → r = nI (tkV (Ns (ix p9)) dl (ix f9) (ix v9) (mxT (Ns (ix p9)) dl (nG (Ns (ix p9))) + 1) (ix w9))) ∧ True) (fun u H => PP G (modO a cy (nI (cCh p9 f9 v9 w9))) H ∧ PP G (ar1 G a 104 120 u.1) H ∧ PP G (ar1 G a 105 120 u.2.1) H ∧ PP G (ar1 G a 106 120 u.2.2.1) H ∧ PP G (ar1 G a 107 120 u.2.2.2.1) H ∧ PP G (ar1 G a 108 1200 u.2.2.2.2) H) (orA (rng a 93 1) (rng a 104 5))) 0 0 (orA (rng a 93 1) (rng a 104 5)) := by
  refine Met.ofW (cc := cX12_tellsChanges) (maxL := 17) (ret := (some .int)) (by decide) rfl ?_
  intro p e s m args below meth c s₁ B hml hv
  obtain ⟨rfl, hB, hK, hNW⟩ := hv
  have hx := B.exec
  have hb := B.bytes
  have hr := B.returns
  have hts := atoms_spec (ws := wsX12_tellsChanges) B.pre
  have hown : s.vm.findClass RX12 = some m.cls := findClass_of_methodNamed B.named
  have hlocks := B.notSynchronized
  have FX : CallFix p m c cX12_tellsChanges 17 s ([.ref (a 93), .int p9, .int f9, .int v9, .int w9] : List Value).toArray wsX12_tellsChanges RX12 := ⟨hx, hb, hml, hown, hts⟩
  have hl := lv_entry ([.ref (a 93), .int p9, .int f9, .int v9, .int w9]) (n := 17) (Nat.le_of_ble_eq_true rfl)
  rw [lg_entry_eq]
  generalize (lg_sl ([.ref (a 93), .int p9, .int f9, .int v9, .int w9]) ++ List.replicate (17 - (lg_sl ([.ref (a 93), .int p9, .int f9, .int v9, .int w9])).length) Slot.unset).toArray = ls at hl ⊢
  have hl : lv_has ls 17 [(0, .ref (a 93)), (1, .int p9), (2, .int f9), (3, .int v9), (4, .int w9)] := hl
  obtain ⟨h_o, h_x, h_y, h_delay, h_bits, h_times, h_marks, h_old, h_past⟩ := hB
  have hS : va_S (orA (rng a 93 1) (rng a 104 5)) s.heap s.heap [] := va_S.rf
  refine lv_aload_n hx hb dX12_tellsChanges_0 rfl (lv_at hl 0 rfl) ?_
  refine lv_iload_n hx hb dX12_tellsChanges_1 rfl (lv_at hl 1 rfl) ?_
  refine ro_i (va_runS (As := [.int p9]) (rest := [.ref (a 93)]) FX (c_X12_isNet l G p9) (va_cwS 1 hts gX12_tellsChanges_X12_isNet rfl rfl rfl (by decide +kernel) ⟨Nat.le_of_ble_eq_true rfl, Nat.le_of_ble_eq_true rfl⟩) (preS hK hNW trivial) rfl rfl hl.1 rfl (lv_room (Nat.le_of_ble_eq_true rfl)) dX12_tellsChanges_2 ⟨Nat.le_of_ble_eq_true rfl, Nat.le_of_ble_eq_true rfl⟩) ?_
  refine lv_if_ne (tgt := 12) hx hb dX12_tellsChanges_5 (by decide) (fun c5 => ?_) (fun c5 => ?_)
  · skip
    have c5 := bI_1 c5
    obtain ⟨z, hz, ez, ep⟩ := inBd_z c5 (by omega)
    rw [ep] at hl
    have hl : lv_has ls 17 [(0, .ref (a 93)), (1, .int (nI z)), (2, .int f9), (3, .int v9), (4, .int w9)] := hl
    have hN := hW _ hz
    have hg9 := hN.g
    have ho9 := hN.o
    have hi9 := hN.2.1
    refine lv_iload_n hx hb dX12_tellsChanges_12 rfl (lv_at hl 2 rfl) ?_
    refine ro_i (va_runS (As := [.int f9]) (rest := [.ref (a 93)]) FX (c_X12_isNumber l G f9) (va_cwS 1 hts gX12_tellsChanges_X12_isNumber rfl rfl rfl (by decide +kernel) ⟨Nat.le_of_ble_eq_true rfl, Nat.le_of_ble_eq_true rfl⟩) (preS hK hNW trivial) rfl rfl hl.1 rfl (lv_room (Nat.le_of_ble_eq_true rfl)) dX12_tellsChanges_13 ⟨Nat.le_of_ble_eq_true rfl, Nat.le_of_ble_eq_true rfl⟩) ?_
    refine lv_if_eq (tgt := 36) hx hb dX12_tellsChanges_16 (by decide) (fun c16 => ?_) (fun c16 => ?_)
    · skip
      have c16 := bI_0.mp c16
      refine lv_iconst (v := nI 2) hx hb dX12_tellsChanges_36 (by decide) ?_
      refine lv_goto (tgt := 41) hx hb dX12_tellsChanges_37 (by decide) ?_
      refine pp_put (ci := 12) (v := .int (nI 2)) (ty := .int) (C := RX12) (T := TX12) (N := 23) hx hb hts inX12_tellsChanges_12 tyX12 tyX12_ok nmX12 hown hK h_o hS (Or.inl (rng_in (by omega))) rfl 22 (by decide) (hts (.fieldLink RX12 73 "GateLedgerModel" "thrown" "I") (List.mem_of_getElem? (i := 1) (by decide +kernel))) (fun _ h9 => h9) rfl (by decide +kernel) rfl rfl (Nat.le_of_ble_eq_true rfl) dX12_tellsChanges_41 (fun H locs hP9 hk1 _ hS => ?_)
      have h_o : PP G (modO a cy (nI 2)) H := hP9
      have h_bits : PP G (ar1 G a 104 120 b0) H := kp hk1 h_bits (dj_cons (ne_a ha (by omega)) (dj_nil))
      have h_times : PP G (ar1 G a 105 120 t0) H := kp hk1 h_times (dj_cons (ne_a ha (by omega)) (dj_nil))
      have h_marks : PP G (ar1 G a 106 120 m0) H := kp hk1 h_marks (dj_cons (ne_a ha (by omega)) (dj_nil))
      have h_old : PP G (ar1 G a 107 120 o0) H := kp hk1 h_old (dj_cons (ne_a ha (by omega)) (dj_nil))
      have h_past : PP G (ar1 G a 108 1200 q0) H := kp hk1 h_past (dj_cons (ne_a ha (by omega)) (dj_nil))
      refine lv_aload_n hx hb dX12_tellsChanges_44 rfl (lv_at hl 0 rfl) ?_
      refine va_get (D := G.1) (ci := 12) (v := .int (nI 2)) (C := RX12) (T := TX12) (N := 23) hx hb hts inX12_tellsChanges_12 hown hK h_o 0 rfl rfl 22 (by decide) (hts (.fieldLink RX12 73 "GateLedgerModel" "thrown" "I") (List.mem_of_getElem? (i := 1) (by decide +kernel))) (fun _ h9 => h9) rfl dX12_tellsChanges_45 ?_
      refine lv_if_le (tgt := 53) hx hb dX12_tellsChanges_48 (by decide) (fun c48 => ?_) (fun c48 => ?_)
      · exact absurd c48 (by decide)
      · skip
        refine lv_iconst (v := nI 0) hx hb dX12_tellsChanges_51 (by decide) ?_
        have e1 : cCh p9 f9 v9 w9 = 2 := (if_pos c5).trans (if_neg (fun q => c16 q.1))
        exact en_wi (b0, t0, m0, o0, q0) hx hb hr hlocks hS ⟨fun q => absurd (e1.symm.trans q) (by decide), trivial⟩ (by rw [e1]; exact ⟨h_o, h_bits, h_times, h_marks, h_old, h_past⟩) dX12_tellsChanges_52
    · skip
      have c16 := bI_1 c16
      obtain ⟨n0, e0, ep0, h01, h02⟩ := rg_z c16 (by omega) (by omega)
      rw [ep0] at hl
      have hl : lv_has ls 17 [(0, .ref (a 93)), (1, .int (nI z)), (2, .int (nI n0)), (3, .int v9), (4, .int w9)] := hl
      refine lv_iload_n hx hb dX12_tellsChanges_19 rfl (lv_at hl 3 rfl) ?_
      refine ro_i (va_runS (As := [.int v9]) (rest := [.ref (a 93)]) FX (c_X12_isNumber l G v9) (va_cwS 1 hts gX12_tellsChanges_X12_isNumber rfl rfl rfl (by decide +kernel) ⟨Nat.le_of_ble_eq_true rfl, Nat.le_of_ble_eq_true rfl⟩) (preS hK hNW trivial) rfl rfl hl.1 rfl (lv_room (Nat.le_of_ble_eq_true rfl)) dX12_tellsChanges_20 ⟨Nat.le_of_ble_eq_true rfl, Nat.le_of_ble_eq_true rfl⟩) ?_
      refine lv_if_eq (tgt := 36) hx hb dX12_tellsChanges_23 (by decide) (fun c23 => ?_) (fun c23 => ?_)
      · skip
        have c23 := bI_0.mp c23
        refine lv_iconst (v := nI 2) hx hb dX12_tellsChanges_36 (by decide) ?_
        refine lv_goto (tgt := 41) hx hb dX12_tellsChanges_37 (by decide) ?_
        refine pp_put (ci := 12) (v := .int (nI 2)) (ty := .int) (C := RX12) (T := TX12) (N := 23) hx hb hts inX12_tellsChanges_12 tyX12 tyX12_ok nmX12 hown hK h_o hS (Or.inl (rng_in (by omega))) rfl 22 (by decide) (hts (.fieldLink RX12 73 "GateLedgerModel" "thrown" "I") (List.mem_of_getElem? (i := 1) (by decide +kernel))) (fun _ h9 => h9) rfl (by decide +kernel) rfl rfl (Nat.le_of_ble_eq_true rfl) dX12_tellsChanges_41 (fun H locs hP9 hk2 _ hS => ?_)
        have h_o : PP G (modO a cy (nI 2)) H := hP9
        have h_bits : PP G (ar1 G a 104 120 b0) H := kp hk2 h_bits (dj_cons (ne_a ha (by omega)) (dj_nil))
        have h_times : PP G (ar1 G a 105 120 t0) H := kp hk2 h_times (dj_cons (ne_a ha (by omega)) (dj_nil))
        have h_marks : PP G (ar1 G a 106 120 m0) H := kp hk2 h_marks (dj_cons (ne_a ha (by omega)) (dj_nil))
        have h_old : PP G (ar1 G a 107 120 o0) H := kp hk2 h_old (dj_cons (ne_a ha (by omega)) (dj_nil))
        have h_past : PP G (ar1 G a 108 1200 q0) H := kp hk2 h_past (dj_cons (ne_a ha (by omega)) (dj_nil))
        refine lv_aload_n hx hb dX12_tellsChanges_44 rfl (lv_at hl 0 rfl) ?_
        refine va_get (D := G.1) (ci := 12) (v := .int (nI 2)) (C := RX12) (T := TX12) (N := 23) hx hb hts inX12_tellsChanges_12 hown hK h_o 0 rfl rfl 22 (by decide) (hts (.fieldLink RX12 73 "GateLedgerModel" "thrown" "I") (List.mem_of_getElem? (i := 1) (by decide +kernel))) (fun _ h9 => h9) rfl dX12_tellsChanges_45 ?_
        refine lv_if_le (tgt := 53) hx hb dX12_tellsChanges_48 (by decide) (fun c48 => ?_) (fun c48 => ?_)
        · exact absurd c48 (by decide)
        · skip
          refine lv_iconst (v := nI 0) hx hb dX12_tellsChanges_51 (by decide) ?_
          have e1 : cCh p9 f9 v9 w9 = 2 := (if_pos c5).trans (if_neg (fun q => c23 q.2.1))
          exact en_wi (b0, t0, m0, o0, q0) hx hb hr hlocks hS ⟨fun q => absurd (e1.symm.trans q) (by decide), trivial⟩ (by rw [e1]; exact ⟨h_o, h_bits, h_times, h_marks, h_old, h_past⟩) dX12_tellsChanges_52
      · skip
        have c23 := bI_1 c23
        obtain ⟨n1, e1n, ep1, h11, h12⟩ := rg_z c23 (by omega) (by omega)
        rw [ep1] at hl
        have hl : lv_has ls 17 [(0, .ref (a 93)), (1, .int (nI z)), (2, .int (nI n0)), (3, .int (nI n1)), (4, .int w9)] := hl
        refine lv_iload hx hb dX12_tellsChanges_26 (lv_at hl 4 rfl) ?_
        refine lv_iconst (v := nI 0) hx hb dX12_tellsChanges_28 (by decide) ?_
        refine lv_iconst (v := nI 2) hx hb dX12_tellsChanges_29 (by decide) ?_
        refine ro_i (va_runS (As := [.int w9, .int (nI 0), .int (nI 2)]) (rest := [.ref (a 93)]) FX (c_X12_isIn l G w9 (nI 0) (nI 2)) (va_cwS 3 hts gX12_tellsChanges_X12_isIn rfl rfl rfl (by decide +kernel) ⟨Nat.le_of_ble_eq_true rfl, Nat.le_of_ble_eq_true rfl⟩) (preS hK hNW trivial) rfl rfl hl.1 rfl (lv_room (Nat.le_of_ble_eq_true rfl)) dX12_tellsChanges_30 ⟨Nat.le_of_ble_eq_true rfl, Nat.le_of_ble_eq_true rfl⟩) ?_
        refine lv_if_ne (tgt := 40) hx hb dX12_tellsChanges_33 (by decide) (fun c33 => ?_) (fun c33 => ?_)
        · skip
          have c33 := bI_1 c33
          obtain ⟨w, ew, epw, hw1, hw2⟩ := rg_z c33 (by omega) (by omega)
          rw [epw] at hl
          have hl : lv_has ls 17 [(0, .ref (a 93)), (1, .int (nI z)), (2, .int (nI n0)), (3, .int (nI n1)), (4, .int (nI w))] := hl
          refine lv_iconst (v := nI 0) hx hb dX12_tellsChanges_40 (by decide) ?_
          refine pp_put (ci := 12) (v := .int (nI 0)) (ty := .int) (C := RX12) (T := TX12) (N := 23) hx hb hts inX12_tellsChanges_12 tyX12 tyX12_ok nmX12 hown hK h_o hS (Or.inl (rng_in (by omega))) rfl 22 (by decide) (hts (.fieldLink RX12 73 "GateLedgerModel" "thrown" "I") (List.mem_of_getElem? (i := 1) (by decide +kernel))) (fun _ h9 => h9) rfl (by decide +kernel) rfl rfl (Nat.le_of_ble_eq_true rfl) dX12_tellsChanges_41 (fun H locs hP9 hk3 _ hS => ?_)
          have h_o : PP G (modO a cy (nI 0)) H := hP9
          have h_bits : PP G (ar1 G a 104 120 b0) H := kp hk3 h_bits (dj_cons (ne_a ha (by omega)) (dj_nil))
          have h_times : PP G (ar1 G a 105 120 t0) H := kp hk3 h_times (dj_cons (ne_a ha (by omega)) (dj_nil))
          have h_marks : PP G (ar1 G a 106 120 m0) H := kp hk3 h_marks (dj_cons (ne_a ha (by omega)) (dj_nil))
          have h_old : PP G (ar1 G a 107 120 o0) H := kp hk3 h_old (dj_cons (ne_a ha (by omega)) (dj_nil))
          have h_past : PP G (ar1 G a 108 1200 q0) H := kp hk3 h_past (dj_cons (ne_a ha (by omega)) (dj_nil))
          refine lv_aload_n hx hb dX12_tellsChanges_44 rfl (lv_at hl 0 rfl) ?_
          refine va_get (D := G.1) (ci := 12) (v := .int (nI 0)) (C := RX12) (T := TX12) (N := 23) hx hb hts inX12_tellsChanges_12 hown hK h_o 0 rfl rfl 22 (by decide) (hts (.fieldLink RX12 73 "GateLedgerModel" "thrown" "I") (List.mem_of_getElem? (i := 1) (by decide +kernel))) (fun _ h9 => h9) rfl dX12_tellsChanges_45 ?_
          refine lv_if_le (tgt := 53) hx hb dX12_tellsChanges_48 (by decide) (fun c48 => ?_) (fun c48 => ?_)
          · skip
            refine lv_aload_n hx hb dX12_tellsChanges_53 rfl (lv_at hl 0 rfl) ?_
            refine lv_iload_n hx hb dX12_tellsChanges_54 rfl (lv_at hl 1 rfl) ?_
            refine lv_iload_n hx hb dX12_tellsChanges_55 rfl (lv_at hl 2 rfl) ?_
            refine wr_v (va_runV (As := [.int (nI z), .int (nI n0)]) (rest := []) FX (c_X12_findsBits l G a ha cy (nI 0) Ns z fs sc b0 n0 hz hN hFS (by omega)) (cwV 2 hts gX12_tellsChanges_X12_findsBits rfl rfl rfl (by decide +kernel) ⟨Nat.le_of_ble_eq_true rfl, Nat.le_of_ble_eq_true rfl⟩) (preV hK hNW (⟨h_o, (ro hS h_x (dj_cons (or_no (rng_no ha (by omega)) (rng_no ha (by omega))) (dj_cons (or_no (rng_no ha (by omega)) (rng_no ha (by omega))) (dj_cons (or_no (rng_no ha (by omega)) (rng_no ha (by omega))) (dj_cons (or_no (rng_no ha (by omega)) (rng_no ha (by omega))) (dj_cons (or_no (rng_no ha (by omega)) (rng_no ha (by omega))) (dj_cons (or_no (rng_no ha (by omega)) (rng_no ha (by omega))) (dj_nil)))))))), h_bits⟩) (va_recv hK h_o (ci := 12) (q0 := 0) rfl rfl)) rfl rfl hl.1 rfl (lv_room (Nat.le_of_ble_eq_true rfl)) dX12_tellsChanges_56 ⟨Nat.le_of_ble_eq_true rfl, Nat.le_of_ble_eq_true rfl⟩) hS (fun q h => Or.inr ((rng_sub (by omega)) q h)) (fun u4 H locs hb5 hP9 hk6 hS => ?_)
            have h_bits : PP G (ar1 G a 104 120 u4) H := hP9
            have h_o : PP G (modO a cy (nI 0)) H := kp hk6 h_o (dj_cons (rng_no ha (by omega)) (dj_nil))
            have h_times : PP G (ar1 G a 105 120 t0) H := kp hk6 h_times (dj_cons (rng_no ha (by omega)) (dj_nil))
            have h_marks : PP G (ar1 G a 106 120 m0) H := kp hk6 h_marks (dj_cons (rng_no ha (by omega)) (dj_nil))
            have h_old : PP G (ar1 G a 107 120 o0) H := kp hk6 h_old (dj_cons (rng_no ha (by omega)) (dj_nil))
            have h_past : PP G (ar1 G a 108 1200 q0) H := kp hk6 h_past (dj_cons (rng_no ha (by omega)) (dj_nil))
            have hbx := hb5
            refine lv_iconst (v := nI 0) hx hb dX12_tellsChanges_59 (by decide) ?_
            refine lv_istore (lv' := [(5, .int (nI 0)), (0, .ref (a 93)), (1, .int (nI z)), (2, .int (nI n0)), (3, .int (nI n1)), (4, .int (nI w))]) hx hb dX12_tellsChanges_60 hl (by decide) rfl (fun ls hl => ?_)
            refine lv_loop3 62 (fun (k : Nat) (of : FN) (mf : FN) => nG (Ns z) - k) (fun (k : Nat) (of : FN) (mf : FN) (H : Heap) (locs : List Loc) (ls : Array Slot) => (PP G (modO a cy (nI 0)) H) ∧ (PP G (ar1 G a 104 120 u4) H) ∧ (PP G (ar1 G a 105 120 t0) H) ∧ (PP G (ar1 G a 106 120 mf) H) ∧ (PP G (ar1 G a 107 120 of) H) ∧ (PP G (ar1 G a 108 1200 q0) H) ∧ (va_S (orA (rng a 93 1) (rng a 104 5)) s.heap H locs) ∧ (lv_has ls 17 [(0, .ref (a 93)), (1, .int (nI z)), (2, .int (nI n0)), (3, .int (nI n1)), (4, .int (nI w)), (5, .int (nI k))]) ∧ (k ≤ nG (Ns z)) ∧ (∀ r, r < k → of r = bi (bt (Ns z) n0 r)) ∧ (∀ r, r < k → mf r = nI 0)) (fun _ _ _ => []) (fun k of mf H locs ls hI ih => ?_) 0 o0 m0 ⟨h_o, h_bits, h_times, h_marks, h_old, h_past, hS, lv_sub hl [1, 2, 3, 4, 5, 0] rfl, by omega, fun r h => absurd h (Nat.not_lt_zero r), fun r h => absurd h (Nat.not_lt_zero r)⟩ rfl
            obtain ⟨h_o, h_bits, h_times, h_marks, h_old, h_past, hS, hl, hk, ho1, hm1⟩ := hI
            have ih8 := @ih
            clear ih
            refine lv_iload hx hb dX12_tellsChanges_62 (lv_at hl 5 rfl) ?_
            refine lv_aload_n hx hb dX12_tellsChanges_64 rfl (lv_at hl 0 rfl) ?_
            refine va_get (D := G.1) (ci := 12) (v := .ref (a 98)) (C := RX12) (T := TX12) (N := 23) hx hb hts inX12_tellsChanges_12 hown hK h_o 0 rfl rfl 4 (by decide) (hts (.fieldLink RX12 22 "GateLedgerModel" "many" "[I") (List.mem_of_getElem? (i := 2) (by decide +kernel))) (fun _ h9 => h9) rfl dX12_tellsChanges_65 ?_
            refine lv_iload_n hx hb dX12_tellsChanges_68 rfl (lv_at hl 1 rfl) ?_
            refine pp_iald hx hb hK (ro hS h_x (dj_cons (or_no (rng_no ha (by omega)) (rng_no ha (by omega))) (dj_cons (or_no (rng_no ha (by omega)) (rng_no ha (by omega))) (dj_cons (or_no (rng_no ha (by omega)) (rng_no ha (by omega))) (dj_cons (or_no (rng_no ha (by omega)) (rng_no ha (by omega))) (dj_cons (or_no (rng_no ha (by omega)) (rng_no ha (by omega))) (dj_cons (or_no (rng_no ha (by omega)) (rng_no ha (by omega))) (dj_nil)))))))) 4 rfl (vp_in_nI (by omega) (by omega)) dX12_tellsChanges_69 ?_
            refine lv_as (congrArg (MF Ns) (nI_clamp (by omega))) ?_
            refine lv_as (y := nI (nG (Ns z))) rfl ?_
            refine lv_icmp_ge (tgt := 101) hx hb dX12_tellsChanges_70 (by decide) (fun c70 => ?_) (fun c70 => ?_)
            · skip
              have c70 := cv_le (by omega) (by omega) c70
              refine lv_iconst (v := nI 0) hx hb dX12_tellsChanges_101 (by decide) ?_
              refine lv_istore (lv' := [(5, .int (nI 0)), (0, .ref (a 93)), (1, .int (nI z)), (2, .int (nI n0)), (3, .int (nI n1)), (4, .int (nI w))]) hx hb dX12_tellsChanges_102 hl (by decide) rfl (fun ls hl => ?_)
              refine lv_loop2 104 (fun (q : Nat) (mf : FN) => nO (Ns z) - q) (fun (q : Nat) (mf : FN) (H : Heap) (locs : List Loc) (ls : Array Slot) => (PP G (modO a cy (nI 0)) H) ∧ (PP G (ar1 G a 104 120 u4) H) ∧ (PP G (ar1 G a 105 120 t0) H) ∧ (PP G (ar1 G a 106 120 mf) H) ∧ (PP G (ar1 G a 107 120 of) H) ∧ (PP G (ar1 G a 108 1200 q0) H) ∧ (va_S (orA (rng a 93 1) (rng a 104 5)) s.heap H locs) ∧ (lv_has ls 17 [(0, .ref (a 93)), (1, .int (nI z)), (2, .int (nI n0)), (3, .int (nI n1)), (4, .int (nI w)), (5, .int (nI q))]) ∧ (q ≤ nO (Ns z)) ∧ (∀ r, r < nG (Ns z) → mf r = bi (ouT (Ns z) q r))) (fun _ _ => []) (fun q mf H locs ls hI ih => ?_) 0 mf ⟨h_o, h_bits, h_times, h_marks, h_old, h_past, hS, lv_sub hl [1, 2, 3, 4, 5, 0] rfl, by omega, fun r h => hm1 r (by omega)⟩ rfl
              obtain ⟨h_o, h_bits, h_times, h_marks, h_old, h_past, hS, hl, hq, hm3⟩ := hI
              have ih9 := @ih
              clear ih
              refine lv_iload hx hb dX12_tellsChanges_104 (lv_at hl 5 rfl) ?_
              refine lv_aload_n hx hb dX12_tellsChanges_106 rfl (lv_at hl 0 rfl) ?_
              refine va_get (D := G.1) (ci := 12) (v := .ref (a 101)) (C := RX12) (T := TX12) (N := 23) hx hb hts inX12_tellsChanges_12 hown hK h_o 0 rfl rfl 7 (by decide) (hts (.fieldLink RX12 31 "GateLedgerModel" "outMany" "[I") (List.mem_of_getElem? (i := 6) (by decide +kernel))) (fun _ h9 => h9) rfl dX12_tellsChanges_107 ?_
              refine lv_iload_n hx hb dX12_tellsChanges_110 rfl (lv_at hl 1 rfl) ?_
              refine pp_iald hx hb hK (ro hS h_y (dj_cons (or_no (rng_no ha (by omega)) (rng_no ha (by omega))) (dj_cons (or_no (rng_no ha (by omega)) (rng_no ha (by omega))) (dj_nil)))) 1 rfl (vp_in_nI (by omega) (by omega)) dX12_tellsChanges_111 ?_
              refine lv_as (congrArg (OF Ns) (nI_clamp (by omega))) ?_
              refine lv_as (y := nI (nO (Ns z))) rfl ?_
              refine lv_icmp_ge (tgt := 139) hx hb dX12_tellsChanges_112 (by decide) (fun c112 => ?_) (fun c112 => ?_)
              · skip
                have c112 := cv_le (by omega) (by omega) c112
                refine lv_aload_n hx hb dX12_tellsChanges_139 rfl (lv_at hl 0 rfl) ?_
                refine lv_iload_n hx hb dX12_tellsChanges_140 rfl (lv_at hl 1 rfl) ?_
                refine lv_iload_n hx hb dX12_tellsChanges_141 rfl (lv_at hl 3 rfl) ?_
                refine wr_v (va_runV (As := [.int (nI z), .int (nI n1)]) (rest := []) FX (c_X12_findsBits l G a ha cy (nI 0) Ns z fs sc u4 n1 hz hN hFS (by omega)) (cwV 2 hts gX12_tellsChanges_X12_findsBits rfl rfl rfl (by decide +kernel) ⟨Nat.le_of_ble_eq_true rfl, Nat.le_of_ble_eq_true rfl⟩) (preV hK hNW (⟨h_o, (ro hS h_x (dj_cons (or_no (rng_no ha (by omega)) (rng_no ha (by omega))) (dj_cons (or_no (rng_no ha (by omega)) (rng_no ha (by omega))) (dj_cons (or_no (rng_no ha (by omega)) (rng_no ha (by omega))) (dj_cons (or_no (rng_no ha (by omega)) (rng_no ha (by omega))) (dj_cons (or_no (rng_no ha (by omega)) (rng_no ha (by omega))) (dj_cons (or_no (rng_no ha (by omega)) (rng_no ha (by omega))) (dj_nil)))))))), h_bits⟩) (va_recv hK h_o (ci := 12) (q0 := 0) rfl rfl)) rfl rfl hl.1 rfl (lv_room (Nat.le_of_ble_eq_true rfl)) dX12_tellsChanges_142 ⟨Nat.le_of_ble_eq_true rfl, Nat.le_of_ble_eq_true rfl⟩) hS (fun q h => Or.inr ((rng_sub (by omega)) q h)) (fun u10 H locs hb11 hP9 hk12 hS => ?_)
                have h_bits : PP G (ar1 G a 104 120 u10) H := hP9
                have h_o : PP G (modO a cy (nI 0)) H := kp hk12 h_o (dj_cons (rng_no ha (by omega)) (dj_nil))
                have h_times : PP G (ar1 G a 105 120 t0) H := kp hk12 h_times (dj_cons (rng_no ha (by omega)) (dj_nil))
                have h_marks : PP G (ar1 G a 106 120 mf) H := kp hk12 h_marks (dj_cons (rng_no ha (by omega)) (dj_nil))
                have h_old : PP G (ar1 G a 107 120 of) H := kp hk12 h_old (dj_cons (rng_no ha (by omega)) (dj_nil))
                have h_past : PP G (ar1 G a 108 1200 q0) H := kp hk12 h_past (dj_cons (rng_no ha (by omega)) (dj_nil))
                have hby := hb11
                refine lv_aload_n hx hb dX12_tellsChanges_145 rfl (lv_at hl 0 rfl) ?_
                refine lv_iload_n hx hb dX12_tellsChanges_146 rfl (lv_at hl 1 rfl) ?_
                refine wr_i (va_runV (As := [.int (nI z)]) (rest := []) FX (c_X12_findsTimes l G a ha cy (nI 0) Ns z fs sc dl t0 hz hN hFS hd) (cwV 1 hts gX12_tellsChanges_X12_findsTimes rfl rfl rfl (by decide +kernel) ⟨Nat.le_of_ble_eq_true rfl, Nat.le_of_ble_eq_true rfl⟩) (preV hK hNW (⟨h_o, (ro hS h_x (dj_cons (or_no (rng_no ha (by omega)) (rng_no ha (by omega))) (dj_cons (or_no (rng_no ha (by omega)) (rng_no ha (by omega))) (dj_cons (or_no (rng_no ha (by omega)) (rng_no ha (by omega))) (dj_cons (or_no (rng_no ha (by omega)) (rng_no ha (by omega))) (dj_cons (or_no (rng_no ha (by omega)) (rng_no ha (by omega))) (dj_cons (or_no (rng_no ha (by omega)) (rng_no ha (by omega))) (dj_nil)))))))), (ro hS h_delay (dj_cons (or_no (rng_no ha (by omega)) (rng_no ha (by omega))) (dj_nil))), h_times⟩) (va_recv hK h_o (ci := 12) (q0 := 0) rfl rfl)) rfl rfl hl.1 rfl (lv_room (Nat.le_of_ble_eq_true rfl)) dX12_tellsChanges_147 ⟨Nat.le_of_ble_eq_true rfl, Nat.le_of_ble_eq_true rfl⟩) hS (fun q h => Or.inr ((rng_sub (by omega)) q h)) (fun rr u14 H locs ⟨er16, ht15⟩ hP9 hk17 hS => ?_)
                have h_times : PP G (ar1 G a 105 120 u14) H := hP9
                have h_o : PP G (modO a cy (nI 0)) H := kp hk17 h_o (dj_cons (rng_no ha (by omega)) (dj_nil))
                have h_bits : PP G (ar1 G a 104 120 u10) H := kp hk17 h_bits (dj_cons (rng_no ha (by omega)) (dj_nil))
                have h_marks : PP G (ar1 G a 106 120 mf) H := kp hk17 h_marks (dj_cons (rng_no ha (by omega)) (dj_nil))
                have h_old : PP G (ar1 G a 107 120 of) H := kp hk17 h_old (dj_cons (rng_no ha (by omega)) (dj_nil))
                have h_past : PP G (ar1 G a 108 1200 q0) H := kp hk17 h_past (dj_cons (rng_no ha (by omega)) (dj_nil))
                refine lv_as (y := nI (mxT (Ns z) dl (nG (Ns z)))) er16 ?_
                refine lv_istore (lv' := [(5, .int (nI (mxT (Ns z) dl (nG (Ns z))))), (0, .ref (a 93)), (1, .int (nI z)), (2, .int (nI n0)), (3, .int (nI n1)), (4, .int (nI w))]) hx hb dX12_tellsChanges_150 hl (by decide) rfl (fun ls hl => ?_)
                refine lv_iconst (v := nI 0) hx hb dX12_tellsChanges_152 (by decide) ?_
                refine lv_istore (lv' := [(6, .int (nI 0)), (5, .int (nI (mxT (Ns z) dl (nG (Ns z))))), (0, .ref (a 93)), (1, .int (nI z)), (2, .int (nI n0)), (3, .int (nI n1)), (4, .int (nI w))]) hx hb dX12_tellsChanges_153 hl (by decide) rfl (fun ls hl => ?_)
                refine lv_iconst (v := nI 0) hx hb dX12_tellsChanges_155 (by decide) ?_
                refine lv_istore (lv' := [(7, .int (nI 0)), (6, .int (nI 0)), (5, .int (nI (mxT (Ns z) dl (nG (Ns z))))), (0, .ref (a 93)), (1, .int (nI z)), (2, .int (nI n0)), (3, .int (nI n1)), (4, .int (nI w))]) hx hb dX12_tellsChanges_156 hl (by decide) rfl (fun ls hl => ?_)
                refine lv_iconst (v := nI 0) hx hb dX12_tellsChanges_158 (by decide) ?_
                refine lv_istore (lv' := [(8, .int (nI 0)), (7, .int (nI 0)), (6, .int (nI 0)), (5, .int (nI (mxT (Ns z) dl (nG (Ns z))))), (0, .ref (a 93)), (1, .int (nI z)), (2, .int (nI n0)), (3, .int (nI n1)), (4, .int (nI w))]) hx hb dX12_tellsChanges_159 hl (by decide) rfl (fun ls hl => ?_)
                refine lv_iconst (v := nI 0) hx hb dX12_tellsChanges_161 (by decide) ?_
                refine lv_istore (lv' := [(9, .int (nI 0)), (8, .int (nI 0)), (7, .int (nI 0)), (6, .int (nI 0)), (5, .int (nI (mxT (Ns z) dl (nG (Ns z))))), (0, .ref (a 93)), (1, .int (nI z)), (2, .int (nI n0)), (3, .int (nI n1)), (4, .int (nI w))]) hx hb dX12_tellsChanges_162 hl (by decide) rfl (fun ls hl => ?_)
                have hm4 : ∀ r, r < nG (Ns z) → mf r = bi (ouT (Ns z) (nO (Ns z)) r) := fun r h => by rw [hm3 r h, show q = nO (Ns z) by omega]
                have ho4 : ∀ r, r < nG (Ns z) → of r = bi (bt (Ns z) n0 r) := fun r h => ho1 r (by omega)
                have hmx := mxT_le hN hd (nG (Ns z)) (Nat.le_refl _)
                refine lv_loop2 164 (fun (q : Nat) (pf : FN) => mxT (Ns z) dl (nG (Ns z)) + 1 - q) (fun (q : Nat) (pf : FN) (H : Heap) (locs : List Loc) (ls : Array Slot) => (PP G (modO a cy (nI 0)) H) ∧ (PP G (ar1 G a 104 120 u10) H) ∧ (PP G (ar1 G a 105 120 u14) H) ∧ (PP G (ar1 G a 106 120 mf) H) ∧ (PP G (ar1 G a 107 120 of) H) ∧ (PP G (ar1 G a 108 1200 pf) H) ∧ (va_S (orA (rng a 93 1) (rng a 104 5)) s.heap H locs) ∧ (lv_has ls 17 [(0, .ref (a 93)), (1, .int (nI z)), (2, .int (nI n0)), (3, .int (nI n1)), (4, .int (nI w)), (5, .int (nI (mxT (Ns z) dl (nG (Ns z))))), (6, .int (nI (tkX (Ns z) dl n0 n1 q))), (7, .int (nI (tkY (Ns z) dl n0 n1 q))), (8, .int (nI (tkZ (Ns z) dl n0 n1 q))), (9, .int (nI q))]) ∧ (q ≤ mxT (Ns z) dl (nG (Ns z)) + 1) ∧ (RQ (Ns z) dl n0 n1 q pf)) (fun _ _ => []) (fun q pf H locs ls hI ih => ?_) 0 q0 ⟨h_o, h_bits, h_times, h_marks, h_old, h_past, hS, lv_sub hl [5, 6, 7, 8, 9, 4, 3, 2, 1, 0] rfl, by omega, fun y r hr h => absurd h (Nat.not_lt_zero y)⟩ rfl
                obtain ⟨h_o, h_bits, h_times, h_marks, h_old, h_past, hS, hl, hq, hR⟩ := hI
                have ih19 := @ih
                clear ih
                have hyq := tkY_le (N := (Ns z)) (dl := dl) (n0 := n0) (n1 := n1) q
                refine lv_iload hx hb dX12_tellsChanges_164 (lv_at hl 9 rfl) ?_
                refine lv_iload hx hb dX12_tellsChanges_166 (lv_at hl 5 rfl) ?_
                refine lv_icmp_gt (tgt := 475) hx hb dX12_tellsChanges_168 (by decide) (fun c168 => ?_) (fun c168 => ?_)
                · skip
                  have c168 := cv_lt (by omega) (by omega) c168
                  have eq9 : q = mxT (Ns z) dl (nG (Ns z)) + 1 := by omega
                  refine lv_iload hx hb dX12_tellsChanges_475 (lv_at hl 4 rfl) ?_
                  refine lv_if_ne (tgt := 485) hx hb dX12_tellsChanges_477 (by decide) (fun c477 => ?_) (fun c477 => ?_)
                  · skip
                    have c477 := cv_ne (by omega) (by omega) (show ¬ nI w = nI 0 from c477)
                    refine lv_iload hx hb dX12_tellsChanges_485 (lv_at hl 4 rfl) ?_
                    refine lv_iconst (v := nI 1) hx hb dX12_tellsChanges_487 (by decide) ?_
                    refine lv_icmp_ne (tgt := 496) hx hb dX12_tellsChanges_488 (by decide) (fun c488 => ?_) (fun c488 => ?_)
                    · skip
                      have c488 := cv_ne (by omega) (by omega) c488
                      refine lv_iload hx hb dX12_tellsChanges_496 (lv_at hl 8 rfl) ?_
                      have e1 : cCh p9 f9 v9 w9 = 0 := (if_pos c5).trans (if_pos ⟨c16, c23, c33⟩)
                      exact en_wi (u10, u14, mf, of, pf) hx hb hr hlocks hS ⟨fun _ => by rw [ez, e0, e1n, ew]; unfold tkV; rw [← eq9]; first | rw [if_pos c477] | rw [if_neg c477, if_pos c488] | rw [if_neg c477, if_neg c488], trivial⟩ (by rw [e1]; exact ⟨h_o, h_bits, h_times, h_marks, h_old, h_past⟩) dX12_tellsChanges_498
                    · skip
                      have c488 := cv_eq (by omega) (by omega) c488
                      refine lv_iload hx hb dX12_tellsChanges_491 (lv_at hl 7 rfl) ?_
                      refine lv_goto (tgt := 498) hx hb dX12_tellsChanges_493 (by decide) ?_
                      have e1 : cCh p9 f9 v9 w9 = 0 := (if_pos c5).trans (if_pos ⟨c16, c23, c33⟩)
                      exact en_wi (u10, u14, mf, of, pf) hx hb hr hlocks hS ⟨fun _ => by rw [ez, e0, e1n, ew]; unfold tkV; rw [← eq9]; first | rw [if_pos c477] | rw [if_neg c477, if_pos c488] | rw [if_neg c477, if_neg c488], trivial⟩ (by rw [e1]; exact ⟨h_o, h_bits, h_times, h_marks, h_old, h_past⟩) dX12_tellsChanges_498
                  · skip
                    have c477 := cv_eq (by omega) (by omega) (show nI w = nI 0 from c477)
                    refine lv_iload hx hb dX12_tellsChanges_480 (lv_at hl 6 rfl) ?_
                    refine lv_goto (tgt := 498) hx hb dX12_tellsChanges_482 (by decide) ?_
                    have e1 : cCh p9 f9 v9 w9 = 0 := (if_pos c5).trans (if_pos ⟨c16, c23, c33⟩)
                    exact en_wi (u10, u14, mf, of, pf) hx hb hr hlocks hS ⟨fun _ => by rw [ez, e0, e1n, ew]; unfold tkV; rw [← eq9]; first | rw [if_pos c477] | rw [if_neg c477, if_pos c488] | rw [if_neg c477, if_neg c488], trivial⟩ (by rw [e1]; exact ⟨h_o, h_bits, h_times, h_marks, h_old, h_past⟩) dX12_tellsChanges_498
                · skip
                  have c168 := cv_nlt (by omega) (by omega) c168
                  refine lv_iconst (v := nI 0) hx hb dX12_tellsChanges_171 (by decide) ?_
                  refine lv_istore (lv' := [(10, .int (nI 0)), (0, .ref (a 93)), (1, .int (nI z)), (2, .int (nI n0)), (3, .int (nI n1)), (4, .int (nI w)), (5, .int (nI (mxT (Ns z) dl (nG (Ns z))))), (6, .int (nI (tkX (Ns z) dl n0 n1 q))), (7, .int (nI (tkY (Ns z) dl n0 n1 q))), (8, .int (nI (tkZ (Ns z) dl n0 n1 q))), (9, .int (nI q))]) hx hb dX12_tellsChanges_172 hl (by decide) rfl (fun ls hl => ?_)
                  refine lv_loop2 174 (fun (k : Nat) (pg : FN) => nG (Ns z) - k) (fun (k : Nat) (pg : FN) (H : Heap) (locs : List Loc) (ls : Array Slot) => (PP G (modO a cy (nI 0)) H) ∧ (PP G (ar1 G a 104 120 u10) H) ∧ (PP G (ar1 G a 105 120 u14) H) ∧ (PP G (ar1 G a 106 120 mf) H) ∧ (PP G (ar1 G a 107 120 of) H) ∧ (PP G (ar1 G a 108 1200 pg) H) ∧ (va_S (orA (rng a 93 1) (rng a 104 5)) s.heap H locs) ∧ (lv_has ls 17 [(0, .ref (a 93)), (1, .int (nI z)), (2, .int (nI n0)), (3, .int (nI n1)), (4, .int (nI w)), (5, .int (nI (mxT (Ns z) dl (nG (Ns z))))), (6, .int (nI (tkX (Ns z) dl n0 n1 q + rX (Ns z) dl n0 n1 q k))), (7, .int (nI (rY (Ns z) dl n0 n1 q (tkY (Ns z) dl n0 n1 q) k))), (8, .int (nI (tkZ (Ns z) dl n0 n1 q + rZ (Ns z) dl n0 n1 q k))), (9, .int (nI q)), (10, .int (nI k))]) ∧ (k ≤ nG (Ns z)) ∧ (RG (Ns z) dl n0 n1 q k pg)) (fun _ _ => []) (fun k pg H locs ls hI ih => ?_) 0 pf ⟨h_o, h_bits, h_times, h_marks, h_old, h_past, hS, lv_sub hl [1, 2, 3, 4, 5, 6, 7, 8, 9, 10, 0] rfl, by omega, RG_0 hR⟩ rfl
                  obtain ⟨h_o, h_bits, h_times, h_marks, h_old, h_past, hS, hl, hk, hG⟩ := hI
                  have ih20 := @ih
                  clear ih
                  have hry := rY_le (N := (Ns z)) (dl := dl) (n0 := n0) (n1 := n1) (t := q) hyq k
                  refine lv_iload hx hb dX12_tellsChanges_174 (lv_at hl 10 rfl) ?_
                  refine lv_aload_n hx hb dX12_tellsChanges_176 rfl (lv_at hl 0 rfl) ?_
                  refine va_get (D := G.1) (ci := 12) (v := .ref (a 98)) (C := RX12) (T := TX12) (N := 23) hx hb hts inX12_tellsChanges_12 hown hK h_o 0 rfl rfl 4 (by decide) (hts (.fieldLink RX12 22 "GateLedgerModel" "many" "[I") (List.mem_of_getElem? (i := 2) (by decide +kernel))) (fun _ h9 => h9) rfl dX12_tellsChanges_177 ?_
                  refine lv_iload_n hx hb dX12_tellsChanges_180 rfl (lv_at hl 1 rfl) ?_
                  refine pp_iald hx hb hK (ro hS h_x (dj_cons (or_no (rng_no ha (by omega)) (rng_no ha (by omega))) (dj_cons (or_no (rng_no ha (by omega)) (rng_no ha (by omega))) (dj_cons (or_no (rng_no ha (by omega)) (rng_no ha (by omega))) (dj_cons (or_no (rng_no ha (by omega)) (rng_no ha (by omega))) (dj_cons (or_no (rng_no ha (by omega)) (rng_no ha (by omega))) (dj_cons (or_no (rng_no ha (by omega)) (rng_no ha (by omega))) (dj_nil)))))))) 4 rfl (vp_in_nI (by omega) (by omega)) dX12_tellsChanges_181 ?_
                  refine lv_as (congrArg (MF Ns) (nI_clamp (by omega))) ?_
                  refine lv_as (y := nI (nG (Ns z))) rfl ?_
                  refine lv_icmp_ge (tgt := 469) hx hb dX12_tellsChanges_182 (by decide) (fun c182 => ?_) (fun c182 => ?_)
                  · skip
                    have c182 := cv_le (by omega) (by omega) c182
                    have ek : k = nG (Ns z) := by omega
                    refine lv_iinc (v := nI (q + 1)) (lv' := [(9, .int (nI (q + 1))), (0, .ref (a 93)), (1, .int (nI z)), (2, .int (nI n0)), (3, .int (nI n1)), (4, .int (nI w)), (5, .int (nI (mxT (Ns z) dl (nG (Ns z))))), (6, .int (nI (tkX (Ns z) dl n0 n1 q + rX (Ns z) dl n0 n1 q k))), (7, .int (nI (rY (Ns z) dl n0 n1 q (tkY (Ns z) dl n0 n1 q) k))), (8, .int (nI (tkZ (Ns z) dl n0 n1 q + rZ (Ns z) dl n0 n1 q k))), (10, .int (nI k))]) hx hb dX12_tellsChanges_469 hl (k := 9) rfl (by first | exact nI_add _ 1 | decide) (by decide) rfl (fun ls hl => ?_)
                    refine lv_goto (tgt := 164) hx hb dX12_tellsChanges_472 (by decide) ?_
                    exact ih19 (q + 1) pg _ _ _ ⟨h_o, h_bits, h_times, h_marks, h_old, h_past, hS, (by rw [ek] at hl; exact lv_sub hl [1, 2, 3, 4, 5, 6, 7, 8, 9, 0] rfl), by omega, RG_e (by rw [← ek]; exact hG)⟩ (by show mxT (Ns z) dl (nG (Ns z)) + 1 - (q + 1) < mxT (Ns z) dl (nG (Ns z)) + 1 - q; omega)
                  · skip
                    have c182 := cv_nle (by omega) (by omega) c182
                    have hk4 := hN.k c182
                    refine lv_bipush (v := nI 120) hx hb dX12_tellsChanges_185 (by decide) ?_
                    refine lv_iload_n hx hb dX12_tellsChanges_187 rfl (lv_at hl 1 rfl) ?_
                    refine lv_imul hx hb dX12_tellsChanges_188 ?_
                    refine lv_as (pk_mul _ _) ?_
                    refine lv_iload hx hb dX12_tellsChanges_189 (lv_at hl 10 rfl) ?_
                    refine lv_iadd hx hb dX12_tellsChanges_191 ?_
                    refine lv_as (nI_add _ _) ?_
                    refine lv_istore (lv' := [(11, .int (nI ((120 * z) + k))), (0, .ref (a 93)), (1, .int (nI z)), (2, .int (nI n0)), (3, .int (nI n1)), (4, .int (nI w)), (5, .int (nI (mxT (Ns z) dl (nG (Ns z))))), (6, .int (nI (tkX (Ns z) dl n0 n1 q + rX (Ns z) dl n0 n1 q k))), (7, .int (nI (rY (Ns z) dl n0 n1 q (tkY (Ns z) dl n0 n1 q) k))), (8, .int (nI (tkZ (Ns z) dl n0 n1 q + rZ (Ns z) dl n0 n1 q k))), (9, .int (nI q)), (10, .int (nI k))]) hx hb dX12_tellsChanges_192 hl (by decide) rfl (fun ls hl => ?_)
                    refine lv_aload_n hx hb dX12_tellsChanges_194 rfl (lv_at hl 1 rfl) ?_
                    refine va_get (D := G.1) (ci := 12) (v := .ref (a 104)) (C := RX12) (T := TX12) (N := 23) hx hb hts inX12_tellsChanges_12 hown hK h_o 0 rfl rfl 10 (by decide) (hts (.fieldLink RX12 40 "GateLedgerModel" "bits" "[I") (List.mem_of_getElem? (i := 4) (by decide +kernel))) (fun _ h9 => h9) rfl dX12_tellsChanges_195 ?_
                    refine lv_iload hx hb dX12_tellsChanges_198 (lv_at hl 11 rfl) ?_
                    refine pp_iald hx hb hK h_bits 0 rfl (vp_in_nI (by omega) (by omega)) dX12_tellsChanges_200 ?_
                    refine lv_as (congrArg u10 (nI_clamp (by omega))) ?_
                    refine lv_as (y := bi (bt (Ns z) n1 k)) (hby _ c182) ?_
                    refine lv_istore (lv' := [(12, .int (bi (bt (Ns z) n1 k))), (11, .int (nI ((120 * z) + k))), (0, .ref (a 93)), (1, .int (nI z)), (2, .int (nI n0)), (3, .int (nI n1)), (4, .int (nI w)), (5, .int (nI (mxT (Ns z) dl (nG (Ns z))))), (6, .int (nI (tkX (Ns z) dl n0 n1 q + rX (Ns z) dl n0 n1 q k))), (7, .int (nI (rY (Ns z) dl n0 n1 q (tkY (Ns z) dl n0 n1 q) k))), (8, .int (nI (tkZ (Ns z) dl n0 n1 q + rZ (Ns z) dl n0 n1 q k))), (9, .int (nI q)), (10, .int (nI k))]) hx hb dX12_tellsChanges_201 hl (by decide) rfl (fun ls hl => ?_)
                    refine lv_aload_n hx hb dX12_tellsChanges_203 rfl (lv_at hl 2 rfl) ?_
                    refine va_get (D := G.1) (ci := 12) (v := .ref (a 94)) (C := RX12) (T := TX12) (N := 23) hx hb hts inX12_tellsChanges_12 hown hK h_o 0 rfl rfl 0 (by decide) (hts (.fieldLink RX12 7 "GateLedgerModel" "kind" "[I") (List.mem_of_getElem? (i := 8) (by decide +kernel))) (fun _ h9 => h9) rfl dX12_tellsChanges_204 ?_
                    refine lv_iload hx hb dX12_tellsChanges_207 (lv_at hl 1 rfl) ?_
                    refine pp_iald hx hb hK (ro hS h_x (dj_cons (or_no (rng_no ha (by omega)) (rng_no ha (by omega))) (dj_cons (or_no (rng_no ha (by omega)) (rng_no ha (by omega))) (dj_cons (or_no (rng_no ha (by omega)) (rng_no ha (by omega))) (dj_cons (or_no (rng_no ha (by omega)) (rng_no ha (by omega))) (dj_cons (or_no (rng_no ha (by omega)) (rng_no ha (by omega))) (dj_cons (or_no (rng_no ha (by omega)) (rng_no ha (by omega))) (dj_nil)))))))) 0 rfl (vp_in_nI (by omega) (by omega)) dX12_tellsChanges_209 ?_
                    refine lv_as (congrArg (KF Ns) (nI_clamp (by omega))) ?_
                    refine lv_as (y := nI (nK (Ns z) k)) (KF_at (by omega)) ?_
                    refine lv_iconst (v := nI 4) hx hb dX12_tellsChanges_210 (by decide) ?_
                    refine lv_icmp_eq (tgt := 445) hx hb dX12_tellsChanges_211 (by decide) (fun c211 => ?_) (fun c211 => ?_)
                    · skip
                      have c211 := cv_eq (by omega) (by omega) c211
                      refine lv_aload_n hx hb dX12_tellsChanges_445 rfl (lv_at hl 2 rfl) ?_
                      refine va_get (D := G.1) (ci := 12) (v := .ref (a 108)) (C := RX12) (T := TX12) (N := 23) hx hb hts inX12_tellsChanges_12 hown hK h_o 0 rfl rfl 14 (by decide) (hts (.fieldLink RX12 52 "GateLedgerModel" "past" "[I") (List.mem_of_getElem? (i := 11) (by decide +kernel))) (fun _ h9 => h9) rfl dX12_tellsChanges_446 ?_
                      refine lv_bipush (v := nI 120) hx hb dX12_tellsChanges_449 (by decide) ?_
                      refine lv_iload hx hb dX12_tellsChanges_451 (lv_at hl 11 rfl) ?_
                      refine lv_bipush (v := nI 10) hx hb dX12_tellsChanges_453 (by decide) ?_
                      refine lv_irem hx hb dX12_tellsChanges_455 (nI_ne0 (by omega) (by omega)) ?_
                      refine lv_as (pk_rem (by omega) (by omega) (by omega)) ?_
                      refine lv_imul hx hb dX12_tellsChanges_456 ?_
                      refine lv_as (pk_mul _ _) ?_
                      refine lv_iload hx hb dX12_tellsChanges_457 (lv_at hl 12 rfl) ?_
                      refine lv_iadd hx hb dX12_tellsChanges_459 ?_
                      refine lv_as (nI_add _ _) ?_
                      refine lv_iload hx hb dX12_tellsChanges_460 (lv_at hl 0 rfl) ?_
                      refine lv_as (y := bi (wv (Ns z) dl n0 n1 k q)) (congrArg bi (wv_giv (Or.inr c211) q).symm) ?_
                      refine pp_iast hx hb hK h_past hS (Or.inr (rng_in (by omega))) (vp_in_nI (by omega) (by omega)) dX12_tellsChanges_462 (fun H locs hP9 hk21 _ hS => ?_)
                      rw [nI_clamp (by omega)] at hP9
                      have h_past : PP G (ar1 G a 108 1200 (upd pg ((120 * (q % 10)) + k) (bi (wv (Ns z) dl n0 n1 k q)))) H := hP9
                      have h_o : PP G (modO a cy (nI 0)) H := kp hk21 h_o (dj_cons (ne_a ha (by omega)) (dj_nil))
                      have h_bits : PP G (ar1 G a 104 120 u10) H := kp hk21 h_bits (dj_cons (ne_a ha (by omega)) (dj_nil))
                      have h_times : PP G (ar1 G a 105 120 u14) H := kp hk21 h_times (dj_cons (ne_a ha (by omega)) (dj_nil))
                      have h_marks : PP G (ar1 G a 106 120 mf) H := kp hk21 h_marks (dj_cons (ne_a ha (by omega)) (dj_nil))
                      have h_old : PP G (ar1 G a 107 120 of) H := kp hk21 h_old (dj_cons (ne_a ha (by omega)) (dj_nil))
                      refine lv_iinc (v := nI (k + 1)) (lv' := [(10, .int (nI (k + 1))), (12, .int (bi (bt (Ns z) n1 k))), (11, .int (nI ((120 * z) + k))), (0, .ref (a 93)), (1, .int (nI z)), (2, .int (nI n0)), (3, .int (nI n1)), (4, .int (nI w)), (5, .int (nI (mxT (Ns z) dl (nG (Ns z))))), (6, .int (nI (tkX (Ns z) dl n0 n1 q + rX (Ns z) dl n0 n1 q k))), (7, .int (nI (rY (Ns z) dl n0 n1 q (tkY (Ns z) dl n0 n1 q) k))), (8, .int (nI (tkZ (Ns z) dl n0 n1 q + rZ (Ns z) dl n0 n1 q k))), (9, .int (nI q))]) hx hb dX12_tellsChanges_463 hl (k := 12) rfl (by first | exact nI_add _ 1 | decide) (by decide) rfl (fun ls hl => ?_)
                      refine lv_goto (tgt := 174) hx hb dX12_tellsChanges_466 (by decide) ?_
                      exact ih20 (k + 1) (upd pg ((120 * (q % 10)) + k) (bi (wv (Ns z) dl n0 n1 k q))) _ _ _ ⟨h_o, h_bits, h_times, h_marks, h_old, h_past, hS, (by have h9 := r_n (N := (Ns z)) (dl := dl) (n0 := n0) (n1 := n1) (t := q) (x := tkX (Ns z) dl n0 n1 q) (y := tkY (Ns z) dl n0 n1 q) (z := tkZ (Ns z) dl n0 n1 q) (k := k) (fun q => q.1 c211); rw [h9.1, h9.2.1, h9.2.2]; exact lv_sub hl [3, 4, 5, 6, 7, 8, 9, 10, 11, 12, 0] rfl), by omega, RG_s hG c182 hg9⟩ (by show nG (Ns z) - (k + 1) < nG (Ns z) - k; omega)
                    · skip
                      have c211 := cv_ne (by omega) (by omega) c211
                      have hfs := hN.fs c182 c211
                      have hdk := hd (nK (Ns z) k) (by omega)
                      refine lv_iload hx hb dX12_tellsChanges_214 (lv_at hl 11 rfl) ?_
                      refine lv_aload_n hx hb dX12_tellsChanges_216 rfl (lv_at hl 2 rfl) ?_
                      refine va_get (D := G.1) (ci := 12) (v := .ref (a 102)) (C := RX12) (T := TX12) (N := 23) hx hb hts inX12_tellsChanges_12 hown hK h_o 0 rfl rfl 8 (by decide) (hts (.fieldLink RX12 34 "GateLedgerModel" "delay" "[I") (List.mem_of_getElem? (i := 9) (by decide +kernel))) (fun _ h9 => h9) rfl dX12_tellsChanges_217 ?_
                      refine lv_aload_n hx hb dX12_tellsChanges_220 rfl (lv_at hl 2 rfl) ?_
                      refine va_get (D := G.1) (ci := 12) (v := .ref (a 94)) (C := RX12) (T := TX12) (N := 23) hx hb hts inX12_tellsChanges_12 hown hK h_o 0 rfl rfl 0 (by decide) (hts (.fieldLink RX12 7 "GateLedgerModel" "kind" "[I") (List.mem_of_getElem? (i := 8) (by decide +kernel))) (fun _ h9 => h9) rfl dX12_tellsChanges_221 ?_
                      refine lv_iload hx hb dX12_tellsChanges_224 (lv_at hl 1 rfl) ?_
                      refine pp_iald hx hb hK (ro hS h_x (dj_cons (or_no (rng_no ha (by omega)) (rng_no ha (by omega))) (dj_cons (or_no (rng_no ha (by omega)) (rng_no ha (by omega))) (dj_cons (or_no (rng_no ha (by omega)) (rng_no ha (by omega))) (dj_cons (or_no (rng_no ha (by omega)) (rng_no ha (by omega))) (dj_cons (or_no (rng_no ha (by omega)) (rng_no ha (by omega))) (dj_cons (or_no (rng_no ha (by omega)) (rng_no ha (by omega))) (dj_nil)))))))) 0 rfl (vp_in_nI (by omega) (by omega)) dX12_tellsChanges_226 ?_
                      refine lv_as (congrArg (KF Ns) (nI_clamp (by omega))) ?_
                      refine lv_as (y := nI (nK (Ns z) k)) (KF_at (by omega)) ?_
                      refine pp_iald hx hb hK (ro hS h_delay (dj_cons (or_no (rng_no ha (by omega)) (rng_no ha (by omega))) (dj_nil))) 0 rfl (vp_in_nI (by omega) (by omega)) dX12_tellsChanges_227 ?_
                      refine lv_as (congrArg (fun z => nI (dl z)) (nI_clamp (by omega))) ?_
                      refine lv_st (st' := [.int (nI (dl (nK (Ns z) k))), .int (nI q)]) rfl ?_
                      refine lv_isub hx hb dX12_tellsChanges_228 ?_
                      refine lv_istore (lv' := [(13, .int ((nI q) - (nI (dl (nK (Ns z) k))))), (12, .int (bi (bt (Ns z) n1 k))), (11, .int (nI ((120 * z) + k))), (0, .ref (a 93)), (1, .int (nI z)), (2, .int (nI n0)), (3, .int (nI n1)), (4, .int (nI w)), (5, .int (nI (mxT (Ns z) dl (nG (Ns z))))), (6, .int (nI (tkX (Ns z) dl n0 n1 q + rX (Ns z) dl n0 n1 q k))), (7, .int (nI (rY (Ns z) dl n0 n1 q (tkY (Ns z) dl n0 n1 q) k))), (8, .int (nI (tkZ (Ns z) dl n0 n1 q + rZ (Ns z) dl n0 n1 q k))), (9, .int (nI q)), (10, .int (nI k))]) hx hb dX12_tellsChanges_229 hl (by decide) rfl (fun ls hl => ?_)
                      refine lv_iload hx hb dX12_tellsChanges_231 (lv_at hl 0 rfl) ?_
                      refine lv_if_ge (tgt := 251) hx hb dX12_tellsChanges_233 (by decide) (fun c233 => ?_) (fun c233 => ?_)
                      · skip
                        have hqd := (sub_ge (by omega) (by omega)).mp c233
                        rw [pk_sub hqd] at c233 hl
                        have hl : lv_has ls 17 [(13, .int (nI (q - dl (nK (Ns z) k)))), (12, .int (bi (bt (Ns z) n1 k))), (11, .int (nI ((120 * z) + k))), (0, .ref (a 93)), (1, .int (nI z)), (2, .int (nI n0)), (3, .int (nI n1)), (4, .int (nI w)), (5, .int (nI (mxT (Ns z) dl (nG (Ns z))))), (6, .int (nI (tkX (Ns z) dl n0 n1 q + rX (Ns z) dl n0 n1 q k))), (7, .int (nI (rY (Ns z) dl n0 n1 q (tkY (Ns z) dl n0 n1 q) k))), (8, .int (nI (tkZ (Ns z) dl n0 n1 q + rZ (Ns z) dl n0 n1 q k))), (9, .int (nI q)), (10, .int (nI k))] := hl
                        refine lv_aload_n hx hb dX12_tellsChanges_251 rfl (lv_at hl 3 rfl) ?_
                        refine va_get (D := G.1) (ci := 12) (v := .ref (a 108)) (C := RX12) (T := TX12) (N := 23) hx hb hts inX12_tellsChanges_12 hown hK h_o 0 rfl rfl 14 (by decide) (hts (.fieldLink RX12 52 "GateLedgerModel" "past" "[I") (List.mem_of_getElem? (i := 11) (by decide +kernel))) (fun _ h9 => h9) rfl dX12_tellsChanges_252 ?_
                        refine lv_bipush (v := nI 120) hx hb dX12_tellsChanges_255 (by decide) ?_
                        refine lv_iload hx hb dX12_tellsChanges_257 (lv_at hl 0 rfl) ?_
                        refine lv_bipush (v := nI 10) hx hb dX12_tellsChanges_259 (by decide) ?_
                        refine lv_irem hx hb dX12_tellsChanges_261 (nI_ne0 (by omega) (by omega)) ?_
                        refine lv_as (pk_rem (by omega) (by omega) (by omega)) ?_
                        refine lv_imul hx hb dX12_tellsChanges_262 ?_
                        refine lv_as (pk_mul _ _) ?_
                        refine lv_aload_n hx hb dX12_tellsChanges_263 rfl (lv_at hl 3 rfl) ?_
                        refine va_get (D := G.1) (ci := 12) (v := .ref (a 95)) (C := RX12) (T := TX12) (N := 23) hx hb hts inX12_tellsChanges_12 hown hK h_o 0 rfl rfl 1 (by decide) (hts (.fieldLink RX12 13 "GateLedgerModel" "first" "[I") (List.mem_of_getElem? (i := 10) (by decide +kernel))) (fun _ h9 => h9) rfl dX12_tellsChanges_264 ?_
                        refine lv_iload hx hb dX12_tellsChanges_267 (lv_at hl 2 rfl) ?_
                        refine pp_iald hx hb hK (ro hS h_x (dj_cons (or_no (rng_no ha (by omega)) (rng_no ha (by omega))) (dj_cons (or_no (rng_no ha (by omega)) (rng_no ha (by omega))) (dj_cons (or_no (rng_no ha (by omega)) (rng_no ha (by omega))) (dj_cons (or_no (rng_no ha (by omega)) (rng_no ha (by omega))) (dj_cons (or_no (rng_no ha (by omega)) (rng_no ha (by omega))) (dj_cons (or_no (rng_no ha (by omega)) (rng_no ha (by omega))) (dj_nil)))))))) 1 rfl (vp_in_nI (by omega) (by omega)) dX12_tellsChanges_269 ?_
                        refine lv_as (congrArg fs (nI_clamp (by omega))) ?_
                        refine lv_as (y := nI (nF (Ns z) k)) ((hFS z hz k (by omega) c182 c211).1) ?_
                        refine lv_iadd hx hb dX12_tellsChanges_270 ?_
                        refine lv_as (nI_add _ _) ?_
                        refine pp_iald hx hb hK h_past 0 rfl (vp_in_nI (by omega) (by omega)) dX12_tellsChanges_271 ?_
                        refine lv_as (congrArg pg (nI_clamp (by omega))) ?_
                        refine lv_as (y := bi (wv (Ns z) dl n0 n1 (nF (Ns z) k) (q - dl (nK (Ns z) k)))) (hG (q - dl (nK (Ns z) k)) (nF (Ns z) k) (by omega) (by omega)) ?_
                        refine lv_istore (lv' := [(14, .int (bi (wv (Ns z) dl n0 n1 (nF (Ns z) k) (q - dl (nK (Ns z) k))))), (13, .int (nI (q - dl (nK (Ns z) k)))), (12, .int (bi (bt (Ns z) n1 k))), (11, .int (nI ((120 * z) + k))), (0, .ref (a 93)), (1, .int (nI z)), (2, .int (nI n0)), (3, .int (nI n1)), (4, .int (nI w)), (5, .int (nI (mxT (Ns z) dl (nG (Ns z))))), (6, .int (nI (tkX (Ns z) dl n0 n1 q + rX (Ns z) dl n0 n1 q k))), (7, .int (nI (rY (Ns z) dl n0 n1 q (tkY (Ns z) dl n0 n1 q) k))), (8, .int (nI (tkZ (Ns z) dl n0 n1 q + rZ (Ns z) dl n0 n1 q k))), (9, .int (nI q)), (10, .int (nI k))]) hx hb dX12_tellsChanges_272 hl (by decide) rfl (fun ls hl => ?_)
                        refine lv_iload hx hb dX12_tellsChanges_274 (lv_at hl 1 rfl) ?_
                        refine lv_if_ge (tgt := 294) hx hb dX12_tellsChanges_276 (by decide) (fun c276 => ?_) (fun c276 => ?_)
                        · skip
                          refine lv_aload_n hx hb dX12_tellsChanges_294 rfl (lv_at hl 4 rfl) ?_
                          refine va_get (D := G.1) (ci := 12) (v := .ref (a 108)) (C := RX12) (T := TX12) (N := 23) hx hb hts inX12_tellsChanges_12 hown hK h_o 0 rfl rfl 14 (by decide) (hts (.fieldLink RX12 52 "GateLedgerModel" "past" "[I") (List.mem_of_getElem? (i := 11) (by decide +kernel))) (fun _ h9 => h9) rfl dX12_tellsChanges_295 ?_
                          refine lv_bipush (v := nI 120) hx hb dX12_tellsChanges_298 (by decide) ?_
                          refine lv_iload hx hb dX12_tellsChanges_300 (lv_at hl 1 rfl) ?_
                          refine lv_bipush (v := nI 10) hx hb dX12_tellsChanges_302 (by decide) ?_
                          refine lv_irem hx hb dX12_tellsChanges_304 (nI_ne0 (by omega) (by omega)) ?_
                          refine lv_as (pk_rem (by omega) (by omega) (by omega)) ?_
                          refine lv_imul hx hb dX12_tellsChanges_305 ?_
                          refine lv_as (pk_mul _ _) ?_
                          refine lv_aload_n hx hb dX12_tellsChanges_306 rfl (lv_at hl 4 rfl) ?_
                          refine va_get (D := G.1) (ci := 12) (v := .ref (a 96)) (C := RX12) (T := TX12) (N := 23) hx hb hts inX12_tellsChanges_12 hown hK h_o 0 rfl rfl 2 (by decide) (hts (.fieldLink RX12 16 "GateLedgerModel" "second" "[I") (List.mem_of_getElem? (i := 12) (by decide +kernel))) (fun _ h9 => h9) rfl dX12_tellsChanges_307 ?_
                          refine lv_iload hx hb dX12_tellsChanges_310 (lv_at hl 3 rfl) ?_
                          refine pp_iald hx hb hK (ro hS h_x (dj_cons (or_no (rng_no ha (by omega)) (rng_no ha (by omega))) (dj_cons (or_no (rng_no ha (by omega)) (rng_no ha (by omega))) (dj_cons (or_no (rng_no ha (by omega)) (rng_no ha (by omega))) (dj_cons (or_no (rng_no ha (by omega)) (rng_no ha (by omega))) (dj_cons (or_no (rng_no ha (by omega)) (rng_no ha (by omega))) (dj_cons (or_no (rng_no ha (by omega)) (rng_no ha (by omega))) (dj_nil)))))))) 2 rfl (vp_in_nI (by omega) (by omega)) dX12_tellsChanges_312 ?_
                          refine lv_as (congrArg sc (nI_clamp (by omega))) ?_
                          refine lv_as (y := nI (nS (Ns z) k)) ((hFS z hz k (by omega) c182 c211).2) ?_
                          refine lv_iadd hx hb dX12_tellsChanges_313 ?_
                          refine lv_as (nI_add _ _) ?_
                          refine pp_iald hx hb hK h_past 0 rfl (vp_in_nI (by omega) (by omega)) dX12_tellsChanges_314 ?_
                          refine lv_as (congrArg pg (nI_clamp (by omega))) ?_
                          refine lv_as (y := bi (wv (Ns z) dl n0 n1 (nS (Ns z) k) (q - dl (nK (Ns z) k)))) (hG (q - dl (nK (Ns z) k)) (nS (Ns z) k) (by omega) (by omega)) ?_
                          refine lv_istore (lv' := [(15, .int (bi (wv (Ns z) dl n0 n1 (nS (Ns z) k) (q - dl (nK (Ns z) k))))), (14, .int (bi (wv (Ns z) dl n0 n1 (nF (Ns z) k) (q - dl (nK (Ns z) k))))), (13, .int (nI (q - dl (nK (Ns z) k)))), (12, .int (bi (bt (Ns z) n1 k))), (11, .int (nI ((120 * z) + k))), (0, .ref (a 93)), (1, .int (nI z)), (2, .int (nI n0)), (3, .int (nI n1)), (4, .int (nI w)), (5, .int (nI (mxT (Ns z) dl (nG (Ns z))))), (6, .int (nI (tkX (Ns z) dl n0 n1 q + rX (Ns z) dl n0 n1 q k))), (7, .int (nI (rY (Ns z) dl n0 n1 q (tkY (Ns z) dl n0 n1 q) k))), (8, .int (nI (tkZ (Ns z) dl n0 n1 q + rZ (Ns z) dl n0 n1 q k))), (9, .int (nI q)), (10, .int (nI k))]) hx hb dX12_tellsChanges_315 hl (by decide) rfl (fun ls hl => ?_)
                          refine lv_aload_n hx hb dX12_tellsChanges_317 rfl (lv_at hl 5 rfl) ?_
                          refine va_get (D := G.1) (ci := 12) (v := .ref (a 97)) (C := RX12) (T := TX12) (N := 23) hx hb hts inX12_tellsChanges_12 hown hK h_o 0 rfl rfl 3 (by decide) (hts (.fieldLink RX12 19 "GateLedgerModel" "stuck" "[I") (List.mem_of_getElem? (i := 13) (by decide +kernel))) (fun _ h9 => h9) rfl dX12_tellsChanges_318 ?_
                          refine lv_iload hx hb dX12_tellsChanges_321 (lv_at hl 4 rfl) ?_
                          refine pp_iald hx hb hK (ro hS h_x (dj_cons (or_no (rng_no ha (by omega)) (rng_no ha (by omega))) (dj_cons (or_no (rng_no ha (by omega)) (rng_no ha (by omega))) (dj_cons (or_no (rng_no ha (by omega)) (rng_no ha (by omega))) (dj_cons (or_no (rng_no ha (by omega)) (rng_no ha (by omega))) (dj_cons (or_no (rng_no ha (by omega)) (rng_no ha (by omega))) (dj_cons (or_no (rng_no ha (by omega)) (rng_no ha (by omega))) (dj_nil)))))))) 3 rfl (vp_in_nI (by omega) (by omega)) dX12_tellsChanges_323 ?_
                          refine lv_as (congrArg (TF Ns) (nI_clamp (by omega))) ?_
                          refine lv_as (y := nT (Ns z) k) (TF_at (by omega)) ?_
                          refine lv_iconst (v := -1) hx hb dX12_tellsChanges_324 (by decide) ?_
                          refine lv_icmp_ne (tgt := 345) hx hb dX12_tellsChanges_325 (by decide) (fun c325 => ?_) (fun c325 => ?_)
                          · skip
                            refine lv_aload_n hx hb dX12_tellsChanges_345 rfl (lv_at hl 5 rfl) ?_
                            refine va_get (D := G.1) (ci := 12) (v := .ref (a 97)) (C := RX12) (T := TX12) (N := 23) hx hb hts inX12_tellsChanges_12 hown hK h_o 0 rfl rfl 3 (by decide) (hts (.fieldLink RX12 19 "GateLedgerModel" "stuck" "[I") (List.mem_of_getElem? (i := 13) (by decide +kernel))) (fun _ h9 => h9) rfl dX12_tellsChanges_346 ?_
                            refine lv_iload hx hb dX12_tellsChanges_349 (lv_at hl 4 rfl) ?_
                            refine pp_iald hx hb hK (ro hS h_x (dj_cons (or_no (rng_no ha (by omega)) (rng_no ha (by omega))) (dj_cons (or_no (rng_no ha (by omega)) (rng_no ha (by omega))) (dj_cons (or_no (rng_no ha (by omega)) (rng_no ha (by omega))) (dj_cons (or_no (rng_no ha (by omega)) (rng_no ha (by omega))) (dj_cons (or_no (rng_no ha (by omega)) (rng_no ha (by omega))) (dj_cons (or_no (rng_no ha (by omega)) (rng_no ha (by omega))) (dj_nil)))))))) 3 rfl (vp_in_nI (by omega) (by omega)) dX12_tellsChanges_351 ?_
                            refine lv_as (congrArg (TF Ns) (nI_clamp (by omega))) ?_
                            refine lv_as (y := nT (Ns z) k) (TF_at (by omega)) ?_
                            refine lv_as (y := bi (wv (Ns z) dl n0 n1 k q)) ((bi_bt hN c182 c325).trans (congrArg bi (wv_giv (Or.inl c325) q).symm)) ?_
                            refine lv_istore (lv' := [(12, .int (bi (wv (Ns z) dl n0 n1 k q))), (15, .int (bi (wv (Ns z) dl n0 n1 (nS (Ns z) k) (q - dl (nK (Ns z) k))))), (14, .int (bi (wv (Ns z) dl n0 n1 (nF (Ns z) k) (q - dl (nK (Ns z) k))))), (13, .int (nI (q - dl (nK (Ns z) k)))), (11, .int (nI ((120 * z) + k))), (0, .ref (a 93)), (1, .int (nI z)), (2, .int (nI n0)), (3, .int (nI n1)), (4, .int (nI w)), (5, .int (nI (mxT (Ns z) dl (nG (Ns z))))), (6, .int (nI (tkX (Ns z) dl n0 n1 q + rX (Ns z) dl n0 n1 q k))), (7, .int (nI (rY (Ns z) dl n0 n1 q (tkY (Ns z) dl n0 n1 q) k))), (8, .int (nI (tkZ (Ns z) dl n0 n1 q + rZ (Ns z) dl n0 n1 q k))), (9, .int (nI q)), (10, .int (nI k))]) hx hb dX12_tellsChanges_352 hl (by decide) rfl (fun ls hl => ?_)
                            refine lv_iload hx hb dX12_tellsChanges_354 (lv_at hl 14 rfl) ?_
                            refine lv_if_ne (tgt := 369) hx hb dX12_tellsChanges_356 (by decide) (fun c356 => ?_) (fun c356 => ?_)
                            · skip
                              have c356 := cv_ne (by omega) (by omega) (show ¬ nI q = nI 0 from c356)
                              refine lv_aload_n hx hb dX12_tellsChanges_369 rfl (lv_at hl 5 rfl) ?_
                              refine va_get (D := G.1) (ci := 12) (v := .ref (a 108)) (C := RX12) (T := TX12) (N := 23) hx hb hts inX12_tellsChanges_12 hown hK h_o 0 rfl rfl 14 (by decide) (hts (.fieldLink RX12 52 "GateLedgerModel" "past" "[I") (List.mem_of_getElem? (i := 11) (by decide +kernel))) (fun _ h9 => h9) rfl dX12_tellsChanges_370 ?_
                              refine lv_bipush (v := nI 120) hx hb dX12_tellsChanges_373 (by decide) ?_
                              refine lv_iload hx hb dX12_tellsChanges_375 (lv_at hl 14 rfl) ?_
                              refine lv_iconst (v := nI 1) hx hb dX12_tellsChanges_377 (by decide) ?_
                              refine lv_isub hx hb dX12_tellsChanges_378 ?_
                              refine lv_as (y := nI (q - 1)) (pk_sub (by omega)) ?_
                              refine lv_bipush (v := nI 10) hx hb dX12_tellsChanges_379 (by decide) ?_
                              refine lv_irem hx hb dX12_tellsChanges_381 (nI_ne0 (by omega) (by omega)) ?_
                              refine lv_as (pk_rem (by omega) (by omega) (by omega)) ?_
                              refine lv_imul hx hb dX12_tellsChanges_382 ?_
                              refine lv_as (pk_mul _ _) ?_
                              refine lv_iload hx hb dX12_tellsChanges_383 (lv_at hl 15 rfl) ?_
                              refine lv_iadd hx hb dX12_tellsChanges_385 ?_
                              refine lv_as (nI_add _ _) ?_
                              refine pp_iald hx hb hK h_past 0 rfl (vp_in_nI (by omega) (by omega)) dX12_tellsChanges_386 ?_
                              refine lv_as (congrArg pg (nI_clamp (by omega))) ?_
                              refine lv_as (y := bi (wp (Ns z) dl n0 n1 k q)) ((hG (q - 1) (k) (by omega) (by omega)).trans (congrArg bi (wp_s c356).symm)) ?_
                              refine lv_istore (lv' := [(16, .int (bi (wp (Ns z) dl n0 n1 k q))), (12, .int (bi (wv (Ns z) dl n0 n1 k q))), (15, .int (bi (wv (Ns z) dl n0 n1 (nS (Ns z) k) (q - dl (nK (Ns z) k))))), (14, .int (bi (wv (Ns z) dl n0 n1 (nF (Ns z) k) (q - dl (nK (Ns z) k))))), (13, .int (nI (q - dl (nK (Ns z) k)))), (11, .int (nI ((120 * z) + k))), (0, .ref (a 93)), (1, .int (nI z)), (2, .int (nI n0)), (3, .int (nI n1)), (4, .int (nI w)), (5, .int (nI (mxT (Ns z) dl (nG (Ns z))))), (6, .int (nI (tkX (Ns z) dl n0 n1 q + rX (Ns z) dl n0 n1 q k))), (7, .int (nI (rY (Ns z) dl n0 n1 q (tkY (Ns z) dl n0 n1 q) k))), (8, .int (nI (tkZ (Ns z) dl n0 n1 q + rZ (Ns z) dl n0 n1 q k))), (9, .int (nI q)), (10, .int (nI k))]) hx hb dX12_tellsChanges_387 hl (by decide) rfl (fun ls hl => ?_)
                              refine lv_iload hx hb dX12_tellsChanges_389 (lv_at hl 12 rfl) ?_
                              refine lv_iload hx hb dX12_tellsChanges_391 (lv_at hl 1 rfl) ?_
                              refine lv_iload hx hb dX12_tellsChanges_393 (lv_at hl 0 rfl) ?_
                              refine lv_icmp_ne (tgt := 402) hx hb dX12_tellsChanges_395 (by decide) (fun c395 => ?_) (fun c395 => ?_)
                              · skip
                                refine lv_iconst (v := nI 1) hx hb dX12_tellsChanges_402 (by decide) ?_
                                refine lv_iadd hx hb dX12_tellsChanges_403 ?_
                                refine lv_as (nI_add _ _) ?_
                                refine lv_istore (lv' := [(6, .int (nI ((tkX (Ns z) dl n0 n1 q + rX (Ns z) dl n0 n1 q k) + 1))), (16, .int (bi (wp (Ns z) dl n0 n1 k q))), (12, .int (bi (wv (Ns z) dl n0 n1 k q))), (15, .int (bi (wv (Ns z) dl n0 n1 (nS (Ns z) k) (q - dl (nK (Ns z) k))))), (14, .int (bi (wv (Ns z) dl n0 n1 (nF (Ns z) k) (q - dl (nK (Ns z) k))))), (13, .int (nI (q - dl (nK (Ns z) k)))), (11, .int (nI ((120 * z) + k))), (0, .ref (a 93)), (1, .int (nI z)), (2, .int (nI n0)), (3, .int (nI n1)), (4, .int (nI w)), (5, .int (nI (mxT (Ns z) dl (nG (Ns z))))), (7, .int (nI (rY (Ns z) dl n0 n1 q (tkY (Ns z) dl n0 n1 q) k))), (8, .int (nI (tkZ (Ns z) dl n0 n1 q + rZ (Ns z) dl n0 n1 q k))), (9, .int (nI q)), (10, .int (nI k))]) hx hb dX12_tellsChanges_404 hl (by decide) rfl (fun ls hl => ?_)
                                refine lv_iload hx hb dX12_tellsChanges_406 (lv_at hl 2 rfl) ?_
                                refine lv_iload hx hb dX12_tellsChanges_408 (lv_at hl 1 rfl) ?_
                                refine lv_icmp_ne (tgt := 418) hx hb dX12_tellsChanges_410 (by decide) (fun c410 => ?_) (fun c410 => ?_)
                                · skip
                                  refine lv_iload hx hb dX12_tellsChanges_418 (lv_at hl 15 rfl) ?_
                                  refine lv_istore (lv' := [(7, .int (nI q)), (6, .int (nI ((tkX (Ns z) dl n0 n1 q + rX (Ns z) dl n0 n1 q k) + 1))), (16, .int (bi (wp (Ns z) dl n0 n1 k q))), (12, .int (bi (wv (Ns z) dl n0 n1 k q))), (15, .int (bi (wv (Ns z) dl n0 n1 (nS (Ns z) k) (q - dl (nK (Ns z) k))))), (14, .int (bi (wv (Ns z) dl n0 n1 (nF (Ns z) k) (q - dl (nK (Ns z) k))))), (13, .int (nI (q - dl (nK (Ns z) k)))), (11, .int (nI ((120 * z) + k))), (0, .ref (a 93)), (1, .int (nI z)), (2, .int (nI n0)), (3, .int (nI n1)), (4, .int (nI w)), (5, .int (nI (mxT (Ns z) dl (nG (Ns z))))), (8, .int (nI (tkZ (Ns z) dl n0 n1 q + rZ (Ns z) dl n0 n1 q k))), (9, .int (nI q)), (10, .int (nI k))]) hx hb dX12_tellsChanges_420 hl (by decide) rfl (fun ls hl => ?_)
                                  refine lv_iload hx hb dX12_tellsChanges_422 (lv_at hl 14 rfl) ?_
                                  refine lv_iload hx hb dX12_tellsChanges_424 (lv_at hl 3 rfl) ?_
                                  refine lv_iload hx hb dX12_tellsChanges_426 (lv_at hl 2 rfl) ?_
                                  refine lv_icmp_ne (tgt := 435) hx hb dX12_tellsChanges_428 (by decide) (fun c428 => ?_) (fun c428 => ?_)
                                  · skip
                                    refine lv_aload_n hx hb dX12_tellsChanges_435 rfl (lv_at hl 8 rfl) ?_
                                    refine va_get (D := G.1) (ci := 12) (v := .ref (a 106)) (C := RX12) (T := TX12) (N := 23) hx hb hts inX12_tellsChanges_12 hown hK h_o 0 rfl rfl 12 (by decide) (hts (.fieldLink RX12 46 "GateLedgerModel" "marks" "[I") (List.mem_of_getElem? (i := 5) (by decide +kernel))) (fun _ h9 => h9) rfl dX12_tellsChanges_436 ?_
                                    refine lv_iload hx hb dX12_tellsChanges_439 (lv_at hl 16 rfl) ?_
                                    refine pp_iald hx hb hK h_marks 0 rfl (vp_in_nI (by omega) (by omega)) dX12_tellsChanges_441 ?_
                                    refine lv_as (congrArg mf (nI_clamp (by omega))) ?_
                                    refine lv_as (y := bi (ouT (Ns z) (nO (Ns z)) k)) (hm4 _ c182) ?_
                                    refine lv_iadd hx hb dX12_tellsChanges_442 ?_
                                    refine lv_as (y := nI (tkZ (Ns z) dl n0 n1 q + rZ (Ns z) dl n0 n1 q k + (if (∃ r, r < nO (Ns z) ∧ nU (Ns z) r = k) then 1 else 0))) ((congrArg (fun q9 : Int32 => nI (tkZ (Ns z) dl n0 n1 q + rZ (Ns z) dl n0 n1 q k) + q9) (ou_if _)).trans (nI_add _ _)) ?_
                                    refine lv_istore (lv' := [(8, .int (nI (tkZ (Ns z) dl n0 n1 q + rZ (Ns z) dl n0 n1 q k + (if (∃ r, r < nO (Ns z) ∧ nU (Ns z) r = k) then 1 else 0)))), (7, .int (nI q)), (6, .int (nI ((tkX (Ns z) dl n0 n1 q + rX (Ns z) dl n0 n1 q k) + 1))), (16, .int (bi (wp (Ns z) dl n0 n1 k q))), (12, .int (bi (wv (Ns z) dl n0 n1 k q))), (15, .int (bi (wv (Ns z) dl n0 n1 (nS (Ns z) k) (q - dl (nK (Ns z) k))))), (14, .int (bi (wv (Ns z) dl n0 n1 (nF (Ns z) k) (q - dl (nK (Ns z) k))))), (13, .int (nI (q - dl (nK (Ns z) k)))), (11, .int (nI ((120 * z) + k))), (0, .ref (a 93)), (1, .int (nI z)), (2, .int (nI n0)), (3, .int (nI n1)), (4, .int (nI w)), (5, .int (nI (mxT (Ns z) dl (nG (Ns z))))), (9, .int (nI q)), (10, .int (nI k))]) hx hb dX12_tellsChanges_443 hl (by decide) rfl (fun ls hl => ?_)
                                    refine lv_aload_n hx hb dX12_tellsChanges_445 rfl (lv_at hl 9 rfl) ?_
                                    refine va_get (D := G.1) (ci := 12) (v := .ref (a 108)) (C := RX12) (T := TX12) (N := 23) hx hb hts inX12_tellsChanges_12 hown hK h_o 0 rfl rfl 14 (by decide) (hts (.fieldLink RX12 52 "GateLedgerModel" "past" "[I") (List.mem_of_getElem? (i := 11) (by decide +kernel))) (fun _ h9 => h9) rfl dX12_tellsChanges_446 ?_
                                    refine lv_bipush (v := nI 120) hx hb dX12_tellsChanges_449 (by decide) ?_
                                    refine lv_iload hx hb dX12_tellsChanges_451 (lv_at hl 15 rfl) ?_
                                    refine lv_bipush (v := nI 10) hx hb dX12_tellsChanges_453 (by decide) ?_
                                    refine lv_irem hx hb dX12_tellsChanges_455 (nI_ne0 (by omega) (by omega)) ?_
                                    refine lv_as (pk_rem (by omega) (by omega) (by omega)) ?_
                                    refine lv_imul hx hb dX12_tellsChanges_456 ?_
                                    refine lv_as (pk_mul _ _) ?_
                                    refine lv_iload hx hb dX12_tellsChanges_457 (lv_at hl 16 rfl) ?_
                                    refine lv_iadd hx hb dX12_tellsChanges_459 ?_
                                    refine lv_as (nI_add _ _) ?_
                                    refine lv_iload hx hb dX12_tellsChanges_460 (lv_at hl 4 rfl) ?_
                                    refine pp_iast hx hb hK h_past hS (Or.inr (rng_in (by omega))) (vp_in_nI (by omega) (by omega)) dX12_tellsChanges_462 (fun H locs hP9 hk22 _ hS => ?_)
                                    rw [nI_clamp (by omega)] at hP9
                                    have h_past : PP G (ar1 G a 108 1200 (upd pg ((120 * (q % 10)) + k) (bi (wv (Ns z) dl n0 n1 k q)))) H := hP9
                                    have h_o : PP G (modO a cy (nI 0)) H := kp hk22 h_o (dj_cons (ne_a ha (by omega)) (dj_nil))
                                    have h_bits : PP G (ar1 G a 104 120 u10) H := kp hk22 h_bits (dj_cons (ne_a ha (by omega)) (dj_nil))
                                    have h_times : PP G (ar1 G a 105 120 u14) H := kp hk22 h_times (dj_cons (ne_a ha (by omega)) (dj_nil))
                                    have h_marks : PP G (ar1 G a 106 120 mf) H := kp hk22 h_marks (dj_cons (ne_a ha (by omega)) (dj_nil))
                                    have h_old : PP G (ar1 G a 107 120 of) H := kp hk22 h_old (dj_cons (ne_a ha (by omega)) (dj_nil))
                                    refine lv_iinc (v := nI (k + 1)) (lv' := [(10, .int (nI (k + 1))), (8, .int (nI (tkZ (Ns z) dl n0 n1 q + rZ (Ns z) dl n0 n1 q k + (if (∃ r, r < nO (Ns z) ∧ nU (Ns z) r = k) then 1 else 0)))), (7, .int (nI q)), (6, .int (nI ((tkX (Ns z) dl n0 n1 q + rX (Ns z) dl n0 n1 q k) + 1))), (16, .int (bi (wp (Ns z) dl n0 n1 k q))), (12, .int (bi (wv (Ns z) dl n0 n1 k q))), (15, .int (bi (wv (Ns z) dl n0 n1 (nS (Ns z) k) (q - dl (nK (Ns z) k))))), (14, .int (bi (wv (Ns z) dl n0 n1 (nF (Ns z) k) (q - dl (nK (Ns z) k))))), (13, .int (nI (q - dl (nK (Ns z) k)))), (11, .int (nI ((120 * z) + k))), (0, .ref (a 93)), (1, .int (nI z)), (2, .int (nI n0)), (3, .int (nI n1)), (4, .int (nI w)), (5, .int (nI (mxT (Ns z) dl (nG (Ns z))))), (9, .int (nI q))]) hx hb dX12_tellsChanges_463 hl (k := 16) rfl (by first | exact nI_add _ 1 | decide) (by decide) rfl (fun ls hl => ?_)
                                    refine lv_goto (tgt := 174) hx hb dX12_tellsChanges_466 (by decide) ?_
                                    exact ih20 (k + 1) (upd pg ((120 * (q % 10)) + k) (bi (wv (Ns z) dl n0 n1 k q))) _ _ _ ⟨h_o, h_bits, h_times, h_marks, h_old, h_past, hS, (by have h9 := r_y (N := (Ns z)) (dl := dl) (n0 := n0) (n1 := n1) (t := q) (x := tkX (Ns z) dl n0 n1 q) (y := tkY (Ns z) dl n0 n1 q) (z := tkZ (Ns z) dl n0 n1 q) (k := k) ⟨c211, fun q => c395 (congrArg bi q)⟩; rw [h9.1, h9.2.1, h9.2.2, Nat.max_eq_right hry]; exact lv_sub hl [10, 11, 12, 13, 14, 15, 3, 2, 1, 16, 0] rfl), by omega, RG_s hG c182 hg9⟩ (by show nG (Ns z) - (k + 1) < nG (Ns z) - k; omega)
                                  · skip
                                    first | exact absurd c428 c395 | exact absurd c395 c428
                                · skip
                                  first | exact absurd c410 c395 | exact absurd c395 c410
                              · skip
                                refine lv_iconst (v := nI 0) hx hb dX12_tellsChanges_398 (by decide) ?_
                                refine lv_goto (tgt := 403) hx hb dX12_tellsChanges_399 (by decide) ?_
                                refine lv_iadd hx hb dX12_tellsChanges_403 ?_
                                refine lv_as (nI_add _ _) ?_
                                refine lv_istore (lv' := [(6, .int (nI ((tkX (Ns z) dl n0 n1 q + rX (Ns z) dl n0 n1 q k) + 0))), (16, .int (bi (wp (Ns z) dl n0 n1 k q))), (12, .int (bi (wv (Ns z) dl n0 n1 k q))), (15, .int (bi (wv (Ns z) dl n0 n1 (nS (Ns z) k) (q - dl (nK (Ns z) k))))), (14, .int (bi (wv (Ns z) dl n0 n1 (nF (Ns z) k) (q - dl (nK (Ns z) k))))), (13, .int (nI (q - dl (nK (Ns z) k)))), (11, .int (nI ((120 * z) + k))), (0, .ref (a 93)), (1, .int (nI z)), (2, .int (nI n0)), (3, .int (nI n1)), (4, .int (nI w)), (5, .int (nI (mxT (Ns z) dl (nG (Ns z))))), (7, .int (nI (rY (Ns z) dl n0 n1 q (tkY (Ns z) dl n0 n1 q) k))), (8, .int (nI (tkZ (Ns z) dl n0 n1 q + rZ (Ns z) dl n0 n1 q k))), (9, .int (nI q)), (10, .int (nI k))]) hx hb dX12_tellsChanges_404 hl (by decide) rfl (fun ls hl => ?_)
                                refine lv_iload hx hb dX12_tellsChanges_406 (lv_at hl 2 rfl) ?_
                                refine lv_iload hx hb dX12_tellsChanges_408 (lv_at hl 1 rfl) ?_
                                refine lv_icmp_ne (tgt := 418) hx hb dX12_tellsChanges_410 (by decide) (fun c410 => ?_) (fun c410 => ?_)
                                · skip
                                  first | exact absurd c410 c395 | exact absurd c395 c410
                                · skip
                                  refine lv_iload hx hb dX12_tellsChanges_413 (lv_at hl 13 rfl) ?_
                                  refine lv_goto (tgt := 420) hx hb dX12_tellsChanges_415 (by decide) ?_
                                  refine lv_istore (lv' := [(7, .int (nI (rY (Ns z) dl n0 n1 q (tkY (Ns z) dl n0 n1 q) k))), (6, .int (nI ((tkX (Ns z) dl n0 n1 q + rX (Ns z) dl n0 n1 q k) + 0))), (16, .int (bi (wp (Ns z) dl n0 n1 k q))), (12, .int (bi (wv (Ns z) dl n0 n1 k q))), (15, .int (bi (wv (Ns z) dl n0 n1 (nS (Ns z) k) (q - dl (nK (Ns z) k))))), (14, .int (bi (wv (Ns z) dl n0 n1 (nF (Ns z) k) (q - dl (nK (Ns z) k))))), (13, .int (nI (q - dl (nK (Ns z) k)))), (11, .int (nI ((120 * z) + k))), (0, .ref (a 93)), (1, .int (nI z)), (2, .int (nI n0)), (3, .int (nI n1)), (4, .int (nI w)), (5, .int (nI (mxT (Ns z) dl (nG (Ns z))))), (8, .int (nI (tkZ (Ns z) dl n0 n1 q + rZ (Ns z) dl n0 n1 q k))), (9, .int (nI q)), (10, .int (nI k))]) hx hb dX12_tellsChanges_420 hl (by decide) rfl (fun ls hl => ?_)
                                  refine lv_iload hx hb dX12_tellsChanges_422 (lv_at hl 14 rfl) ?_
                                  refine lv_iload hx hb dX12_tellsChanges_424 (lv_at hl 3 rfl) ?_
                                  refine lv_iload hx hb dX12_tellsChanges_426 (lv_at hl 2 rfl) ?_
                                  refine lv_icmp_ne (tgt := 435) hx hb dX12_tellsChanges_428 (by decide) (fun c428 => ?_) (fun c428 => ?_)
                                  · skip
                                    first | exact absurd c428 c395 | exact absurd c395 c428
                                  · skip
                                    refine lv_iconst (v := nI 0) hx hb dX12_tellsChanges_431 (by decide) ?_
                                    refine lv_goto (tgt := 442) hx hb dX12_tellsChanges_432 (by decide) ?_
                                    refine lv_iadd hx hb dX12_tellsChanges_442 ?_
                                    refine lv_as (nI_add _ _) ?_
                                    refine lv_istore (lv' := [(8, .int (nI ((tkZ (Ns z) dl n0 n1 q + rZ (Ns z) dl n0 n1 q k) + 0))), (7, .int (nI (rY (Ns z) dl n0 n1 q (tkY (Ns z) dl n0 n1 q) k))), (6, .int (nI ((tkX (Ns z) dl n0 n1 q + rX (Ns z) dl n0 n1 q k) + 0))), (16, .int (bi (wp (Ns z) dl n0 n1 k q))), (12, .int (bi (wv (Ns z) dl n0 n1 k q))), (15, .int (bi (wv (Ns z) dl n0 n1 (nS (Ns z) k) (q - dl (nK (Ns z) k))))), (14, .int (bi (wv (Ns z) dl n0 n1 (nF (Ns z) k) (q - dl (nK (Ns z) k))))), (13, .int (nI (q - dl (nK (Ns z) k)))), (11, .int (nI ((120 * z) + k))), (0, .ref (a 93)), (1, .int (nI z)), (2, .int (nI n0)), (3, .int (nI n1)), (4, .int (nI w)), (5, .int (nI (mxT (Ns z) dl (nG (Ns z))))), (9, .int (nI q)), (10, .int (nI k))]) hx hb dX12_tellsChanges_443 hl (by decide) rfl (fun ls hl => ?_)
                                    refine lv_aload_n hx hb dX12_tellsChanges_445 rfl (lv_at hl 9 rfl) ?_
                                    refine va_get (D := G.1) (ci := 12) (v := .ref (a 108)) (C := RX12) (T := TX12) (N := 23) hx hb hts inX12_tellsChanges_12 hown hK h_o 0 rfl rfl 14 (by decide) (hts (.fieldLink RX12 52 "GateLedgerModel" "past" "[I") (List.mem_of_getElem? (i := 11) (by decide +kernel))) (fun _ h9 => h9) rfl dX12_tellsChanges_446 ?_
                                    refine lv_bipush (v := nI 120) hx hb dX12_tellsChanges_449 (by decide) ?_
                                    refine lv_iload hx hb dX12_tellsChanges_451 (lv_at hl 15 rfl) ?_
                                    refine lv_bipush (v := nI 10) hx hb dX12_tellsChanges_453 (by decide) ?_
                                    refine lv_irem hx hb dX12_tellsChanges_455 (nI_ne0 (by omega) (by omega)) ?_
                                    refine lv_as (pk_rem (by omega) (by omega) (by omega)) ?_
                                    refine lv_imul hx hb dX12_tellsChanges_456 ?_
                                    refine lv_as (pk_mul _ _) ?_
                                    refine lv_iload hx hb dX12_tellsChanges_457 (lv_at hl 16 rfl) ?_
                                    refine lv_iadd hx hb dX12_tellsChanges_459 ?_
                                    refine lv_as (nI_add _ _) ?_
                                    refine lv_iload hx hb dX12_tellsChanges_460 (lv_at hl 4 rfl) ?_
                                    refine pp_iast hx hb hK h_past hS (Or.inr (rng_in (by omega))) (vp_in_nI (by omega) (by omega)) dX12_tellsChanges_462 (fun H locs hP9 hk23 _ hS => ?_)
                                    rw [nI_clamp (by omega)] at hP9
                                    have h_past : PP G (ar1 G a 108 1200 (upd pg ((120 * (q % 10)) + k) (bi (wv (Ns z) dl n0 n1 k q)))) H := hP9
                                    have h_o : PP G (modO a cy (nI 0)) H := kp hk23 h_o (dj_cons (ne_a ha (by omega)) (dj_nil))
                                    have h_bits : PP G (ar1 G a 104 120 u10) H := kp hk23 h_bits (dj_cons (ne_a ha (by omega)) (dj_nil))
                                    have h_times : PP G (ar1 G a 105 120 u14) H := kp hk23 h_times (dj_cons (ne_a ha (by omega)) (dj_nil))
                                    have h_marks : PP G (ar1 G a 106 120 mf) H := kp hk23 h_marks (dj_cons (ne_a ha (by omega)) (dj_nil))
                                    have h_old : PP G (ar1 G a 107 120 of) H := kp hk23 h_old (dj_cons (ne_a ha (by omega)) (dj_nil))
                                    refine lv_iinc (v := nI (k + 1)) (lv' := [(10, .int (nI (k + 1))), (8, .int (nI ((tkZ (Ns z) dl n0 n1 q + rZ (Ns z) dl n0 n1 q k) + 0))), (7, .int (nI (rY (Ns z) dl n0 n1 q (tkY (Ns z) dl n0 n1 q) k))), (6, .int (nI ((tkX (Ns z) dl n0 n1 q + rX (Ns z) dl n0 n1 q k) + 0))), (16, .int (bi (wp (Ns z) dl n0 n1 k q))), (12, .int (bi (wv (Ns z) dl n0 n1 k q))), (15, .int (bi (wv (Ns z) dl n0 n1 (nS (Ns z) k) (q - dl (nK (Ns z) k))))), (14, .int (bi (wv (Ns z) dl n0 n1 (nF (Ns z) k) (q - dl (nK (Ns z) k))))), (13, .int (nI (q - dl (nK (Ns z) k)))), (11, .int (nI ((120 * z) + k))), (0, .ref (a 93)), (1, .int (nI z)), (2, .int (nI n0)), (3, .int (nI n1)), (4, .int (nI w)), (5, .int (nI (mxT (Ns z) dl (nG (Ns z))))), (9, .int (nI q))]) hx hb dX12_tellsChanges_463 hl (k := 16) rfl (by first | exact nI_add _ 1 | decide) (by decide) rfl (fun ls hl => ?_)
                                    refine lv_goto (tgt := 174) hx hb dX12_tellsChanges_466 (by decide) ?_
                                    exact ih20 (k + 1) (upd pg ((120 * (q % 10)) + k) (bi (wv (Ns z) dl n0 n1 k q))) _ _ _ ⟨h_o, h_bits, h_times, h_marks, h_old, h_past, hS, (by have h9 := r_n (N := (Ns z)) (dl := dl) (n0 := n0) (n1 := n1) (t := q) (x := tkX (Ns z) dl n0 n1 q) (y := tkY (Ns z) dl n0 n1 q) (z := tkZ (Ns z) dl n0 n1 q) (k := k) (fun q => q.2 (bi_inj c395)); rw [h9.1, h9.2.1, h9.2.2]; exact lv_sub hl [10, 11, 12, 13, 14, 15, 3, 2, 1, 16, 0] rfl), by omega, RG_s hG c182 hg9⟩ (by show nG (Ns z) - (k + 1) < nG (Ns z) - k; omega)
                            · skip
                              have c356 := cv_eq (by omega) (by omega) (show nI q = nI 0 from c356)
                              refine lv_aload_n hx hb dX12_tellsChanges_359 rfl (lv_at hl 5 rfl) ?_
                              refine va_get (D := G.1) (ci := 12) (v := .ref (a 107)) (C := RX12) (T := TX12) (N := 23) hx hb hts inX12_tellsChanges_12 hown hK h_o 0 rfl rfl 13 (by decide) (hts (.fieldLink RX12 49 "GateLedgerModel" "old" "[I") (List.mem_of_getElem? (i := 3) (by decide +kernel))) (fun _ h9 => h9) rfl dX12_tellsChanges_360 ?_
                              refine lv_iload hx hb dX12_tellsChanges_363 (lv_at hl 15 rfl) ?_
                              refine pp_iald hx hb hK h_old 0 rfl (vp_in_nI (by omega) (by omega)) dX12_tellsChanges_365 ?_
                              refine lv_as (congrArg of (nI_clamp (by omega))) ?_
                              refine lv_as (y := bi (wp (Ns z) dl n0 n1 k q)) ((ho4 _ c182).trans (congrArg bi (wp_0 c356).symm)) ?_
                              refine lv_goto (tgt := 387) hx hb dX12_tellsChanges_366 (by decide) ?_
                              refine lv_istore (lv' := [(16, .int (bi (wp (Ns z) dl n0 n1 k q))), (12, .int (bi (wv (Ns z) dl n0 n1 k q))), (15, .int (bi (wv (Ns z) dl n0 n1 (nS (Ns z) k) (q - dl (nK (Ns z) k))))), (14, .int (bi (wv (Ns z) dl n0 n1 (nF (Ns z) k) (q - dl (nK (Ns z) k))))), (13, .int (nI (q - dl (nK (Ns z) k)))), (11, .int (nI ((120 * z) + k))), (0, .ref (a 93)), (1, .int (nI z)), (2, .int (nI n0)), (3, .int (nI n1)), (4, .int (nI w)), (5, .int (nI (mxT (Ns z) dl (nG (Ns z))))), (6, .int (nI (tkX (Ns z) dl n0 n1 q + rX (Ns z) dl n0 n1 q k))), (7, .int (nI (rY (Ns z) dl n0 n1 q (tkY (Ns z) dl n0 n1 q) k))), (8, .int (nI (tkZ (Ns z) dl n0 n1 q + rZ (Ns z) dl n0 n1 q k))), (9, .int (nI q)), (10, .int (nI k))]) hx hb dX12_tellsChanges_387 hl (by decide) rfl (fun ls hl => ?_)
                              refine lv_iload hx hb dX12_tellsChanges_389 (lv_at hl 12 rfl) ?_
                              refine lv_iload hx hb dX12_tellsChanges_391 (lv_at hl 1 rfl) ?_
                              refine lv_iload hx hb dX12_tellsChanges_393 (lv_at hl 0 rfl) ?_
                              refine lv_icmp_ne (tgt := 402) hx hb dX12_tellsChanges_395 (by decide) (fun c395 => ?_) (fun c395 => ?_)
                              · skip
                                refine lv_iconst (v := nI 1) hx hb dX12_tellsChanges_402 (by decide) ?_
                                refine lv_iadd hx hb dX12_tellsChanges_403 ?_
                                refine lv_as (nI_add _ _) ?_
                                refine lv_istore (lv' := [(6, .int (nI ((tkX (Ns z) dl n0 n1 q + rX (Ns z) dl n0 n1 q k) + 1))), (16, .int (bi (wp (Ns z) dl n0 n1 k q))), (12, .int (bi (wv (Ns z) dl n0 n1 k q))), (15, .int (bi (wv (Ns z) dl n0 n1 (nS (Ns z) k) (q - dl (nK (Ns z) k))))), (14, .int (bi (wv (Ns z) dl n0 n1 (nF (Ns z) k) (q - dl (nK (Ns z) k))))), (13, .int (nI (q - dl (nK (Ns z) k)))), (11, .int (nI ((120 * z) + k))), (0, .ref (a 93)), (1, .int (nI z)), (2, .int (nI n0)), (3, .int (nI n1)), (4, .int (nI w)), (5, .int (nI (mxT (Ns z) dl (nG (Ns z))))), (7, .int (nI (rY (Ns z) dl n0 n1 q (tkY (Ns z) dl n0 n1 q) k))), (8, .int (nI (tkZ (Ns z) dl n0 n1 q + rZ (Ns z) dl n0 n1 q k))), (9, .int (nI q)), (10, .int (nI k))]) hx hb dX12_tellsChanges_404 hl (by decide) rfl (fun ls hl => ?_)
                                refine lv_iload hx hb dX12_tellsChanges_406 (lv_at hl 2 rfl) ?_
                                refine lv_iload hx hb dX12_tellsChanges_408 (lv_at hl 1 rfl) ?_
                                refine lv_icmp_ne (tgt := 418) hx hb dX12_tellsChanges_410 (by decide) (fun c410 => ?_) (fun c410 => ?_)
                                · skip
                                  refine lv_iload hx hb dX12_tellsChanges_418 (lv_at hl 15 rfl) ?_
                                  refine lv_istore (lv' := [(7, .int (nI q)), (6, .int (nI ((tkX (Ns z) dl n0 n1 q + rX (Ns z) dl n0 n1 q k) + 1))), (16, .int (bi (wp (Ns z) dl n0 n1 k q))), (12, .int (bi (wv (Ns z) dl n0 n1 k q))), (15, .int (bi (wv (Ns z) dl n0 n1 (nS (Ns z) k) (q - dl (nK (Ns z) k))))), (14, .int (bi (wv (Ns z) dl n0 n1 (nF (Ns z) k) (q - dl (nK (Ns z) k))))), (13, .int (nI (q - dl (nK (Ns z) k)))), (11, .int (nI ((120 * z) + k))), (0, .ref (a 93)), (1, .int (nI z)), (2, .int (nI n0)), (3, .int (nI n1)), (4, .int (nI w)), (5, .int (nI (mxT (Ns z) dl (nG (Ns z))))), (8, .int (nI (tkZ (Ns z) dl n0 n1 q + rZ (Ns z) dl n0 n1 q k))), (9, .int (nI q)), (10, .int (nI k))]) hx hb dX12_tellsChanges_420 hl (by decide) rfl (fun ls hl => ?_)
                                  refine lv_iload hx hb dX12_tellsChanges_422 (lv_at hl 14 rfl) ?_
                                  refine lv_iload hx hb dX12_tellsChanges_424 (lv_at hl 3 rfl) ?_
                                  refine lv_iload hx hb dX12_tellsChanges_426 (lv_at hl 2 rfl) ?_
                                  refine lv_icmp_ne (tgt := 435) hx hb dX12_tellsChanges_428 (by decide) (fun c428 => ?_) (fun c428 => ?_)
                                  · skip
                                    refine lv_aload_n hx hb dX12_tellsChanges_435 rfl (lv_at hl 8 rfl) ?_
                                    refine va_get (D := G.1) (ci := 12) (v := .ref (a 106)) (C := RX12) (T := TX12) (N := 23) hx hb hts inX12_tellsChanges_12 hown hK h_o 0 rfl rfl 12 (by decide) (hts (.fieldLink RX12 46 "GateLedgerModel" "marks" "[I") (List.mem_of_getElem? (i := 5) (by decide +kernel))) (fun _ h9 => h9) rfl dX12_tellsChanges_436 ?_
                                    refine lv_iload hx hb dX12_tellsChanges_439 (lv_at hl 16 rfl) ?_
                                    refine pp_iald hx hb hK h_marks 0 rfl (vp_in_nI (by omega) (by omega)) dX12_tellsChanges_441 ?_
                                    refine lv_as (congrArg mf (nI_clamp (by omega))) ?_
                                    refine lv_as (y := bi (ouT (Ns z) (nO (Ns z)) k)) (hm4 _ c182) ?_
                                    refine lv_iadd hx hb dX12_tellsChanges_442 ?_
                                    refine lv_as (y := nI (tkZ (Ns z) dl n0 n1 q + rZ (Ns z) dl n0 n1 q k + (if (∃ r, r < nO (Ns z) ∧ nU (Ns z) r = k) then 1 else 0))) ((congrArg (fun q9 : Int32 => nI (tkZ (Ns z) dl n0 n1 q + rZ (Ns z) dl n0 n1 q k) + q9) (ou_if _)).trans (nI_add _ _)) ?_
                                    refine lv_istore (lv' := [(8, .int (nI (tkZ (Ns z) dl n0 n1 q + rZ (Ns z) dl n0 n1 q k + (if (∃ r, r < nO (Ns z) ∧ nU (Ns z) r = k) then 1 else 0)))), (7, .int (nI q)), (6, .int (nI ((tkX (Ns z) dl n0 n1 q + rX (Ns z) dl n0 n1 q k) + 1))), (16, .int (bi (wp (Ns z) dl n0 n1 k q))), (12, .int (bi (wv (Ns z) dl n0 n1 k q))), (15, .int (bi (wv (Ns z) dl n0 n1 (nS (Ns z) k) (q - dl (nK (Ns z) k))))), (14, .int (bi (wv (Ns z) dl n0 n1 (nF (Ns z) k) (q - dl (nK (Ns z) k))))), (13, .int (nI (q - dl (nK (Ns z) k)))), (11, .int (nI ((120 * z) + k))), (0, .ref (a 93)), (1, .int (nI z)), (2, .int (nI n0)), (3, .int (nI n1)), (4, .int (nI w)), (5, .int (nI (mxT (Ns z) dl (nG (Ns z))))), (9, .int (nI q)), (10, .int (nI k))]) hx hb dX12_tellsChanges_443 hl (by decide) rfl (fun ls hl => ?_)
                                    refine lv_aload_n hx hb dX12_tellsChanges_445 rfl (lv_at hl 9 rfl) ?_
                                    refine va_get (D := G.1) (ci := 12) (v := .ref (a 108)) (C := RX12) (T := TX12) (N := 23) hx hb hts inX12_tellsChanges_12 hown hK h_o 0 rfl rfl 14 (by decide) (hts (.fieldLink RX12 52 "GateLedgerModel" "past" "[I") (List.mem_of_getElem? (i := 11) (by decide +kernel))) (fun _ h9 => h9) rfl dX12_tellsChanges_446 ?_
                                    refine lv_bipush (v := nI 120) hx hb dX12_tellsChanges_449 (by decide) ?_
                                    refine lv_iload hx hb dX12_tellsChanges_451 (lv_at hl 15 rfl) ?_
                                    refine lv_bipush (v := nI 10) hx hb dX12_tellsChanges_453 (by decide) ?_
                                    refine lv_irem hx hb dX12_tellsChanges_455 (nI_ne0 (by omega) (by omega)) ?_
                                    refine lv_as (pk_rem (by omega) (by omega) (by omega)) ?_
                                    refine lv_imul hx hb dX12_tellsChanges_456 ?_
                                    refine lv_as (pk_mul _ _) ?_
                                    refine lv_iload hx hb dX12_tellsChanges_457 (lv_at hl 16 rfl) ?_
                                    refine lv_iadd hx hb dX12_tellsChanges_459 ?_
                                    refine lv_as (nI_add _ _) ?_
                                    refine lv_iload hx hb dX12_tellsChanges_460 (lv_at hl 4 rfl) ?_
                                    refine pp_iast hx hb hK h_past hS (Or.inr (rng_in (by omega))) (vp_in_nI (by omega) (by omega)) dX12_tellsChanges_462 (fun H locs hP9 hk24 _ hS => ?_)
                                    rw [nI_clamp (by omega)] at hP9
                                    have h_past : PP G (ar1 G a 108 1200 (upd pg ((120 * (q % 10)) + k) (bi (wv (Ns z) dl n0 n1 k q)))) H := hP9
                                    have h_o : PP G (modO a cy (nI 0)) H := kp hk24 h_o (dj_cons (ne_a ha (by omega)) (dj_nil))
                                    have h_bits : PP G (ar1 G a 104 120 u10) H := kp hk24 h_bits (dj_cons (ne_a ha (by omega)) (dj_nil))
                                    have h_times : PP G (ar1 G a 105 120 u14) H := kp hk24 h_times (dj_cons (ne_a ha (by omega)) (dj_nil))
                                    have h_marks : PP G (ar1 G a 106 120 mf) H := kp hk24 h_marks (dj_cons (ne_a ha (by omega)) (dj_nil))
                                    have h_old : PP G (ar1 G a 107 120 of) H := kp hk24 h_old (dj_cons (ne_a ha (by omega)) (dj_nil))
                                    refine lv_iinc (v := nI (k + 1)) (lv' := [(10, .int (nI (k + 1))), (8, .int (nI (tkZ (Ns z) dl n0 n1 q + rZ (Ns z) dl n0 n1 q k + (if (∃ r, r < nO (Ns z) ∧ nU (Ns z) r = k) then 1 else 0)))), (7, .int (nI q)), (6, .int (nI ((tkX (Ns z) dl n0 n1 q + rX (Ns z) dl n0 n1 q k) + 1))), (16, .int (bi (wp (Ns z) dl n0 n1 k q))), (12, .int (bi (wv (Ns z) dl n0 n1 k q))), (15, .int (bi (wv (Ns z) dl n0 n1 (nS (Ns z) k) (q - dl (nK (Ns z) k))))), (14, .int (bi (wv (Ns z) dl n0 n1 (nF (Ns z) k) (q - dl (nK (Ns z) k))))), (13, .int (nI (q - dl (nK (Ns z) k)))), (11, .int (nI ((120 * z) + k))), (0, .ref (a 93)), (1, .int (nI z)), (2, .int (nI n0)), (3, .int (nI n1)), (4, .int (nI w)), (5, .int (nI (mxT (Ns z) dl (nG (Ns z))))), (9, .int (nI q))]) hx hb dX12_tellsChanges_463 hl (k := 16) rfl (by first | exact nI_add _ 1 | decide) (by decide) rfl (fun ls hl => ?_)
                                    refine lv_goto (tgt := 174) hx hb dX12_tellsChanges_466 (by decide) ?_
                                    exact ih20 (k + 1) (upd pg ((120 * (q % 10)) + k) (bi (wv (Ns z) dl n0 n1 k q))) _ _ _ ⟨h_o, h_bits, h_times, h_marks, h_old, h_past, hS, (by have h9 := r_y (N := (Ns z)) (dl := dl) (n0 := n0) (n1 := n1) (t := q) (x := tkX (Ns z) dl n0 n1 q) (y := tkY (Ns z) dl n0 n1 q) (z := tkZ (Ns z) dl n0 n1 q) (k := k) ⟨c211, fun q => c395 (congrArg bi q)⟩; rw [h9.1, h9.2.1, h9.2.2, Nat.max_eq_right hry]; exact lv_sub hl [10, 11, 12, 13, 14, 15, 3, 2, 1, 16, 0] rfl), by omega, RG_s hG c182 hg9⟩ (by show nG (Ns z) - (k + 1) < nG (Ns z) - k; omega)
                                  · skip
                                    first | exact absurd c428 c395 | exact absurd c395 c428
                                · skip
                                  first | exact absurd c410 c395 | exact absurd c395 c410
                              · skip
                                refine lv_iconst (v := nI 0) hx hb dX12_tellsChanges_398 (by decide) ?_
                                refine lv_goto (tgt := 403) hx hb dX12_tellsChanges_399 (by decide) ?_
                                refine lv_iadd hx hb dX12_tellsChanges_403 ?_
                                refine lv_as (nI_add _ _) ?_
                                refine lv_istore (lv' := [(6, .int (nI ((tkX (Ns z) dl n0 n1 q + rX (Ns z) dl n0 n1 q k) + 0))), (16, .int (bi (wp (Ns z) dl n0 n1 k q))), (12, .int (bi (wv (Ns z) dl n0 n1 k q))), (15, .int (bi (wv (Ns z) dl n0 n1 (nS (Ns z) k) (q - dl (nK (Ns z) k))))), (14, .int (bi (wv (Ns z) dl n0 n1 (nF (Ns z) k) (q - dl (nK (Ns z) k))))), (13, .int (nI (q - dl (nK (Ns z) k)))), (11, .int (nI ((120 * z) + k))), (0, .ref (a 93)), (1, .int (nI z)), (2, .int (nI n0)), (3, .int (nI n1)), (4, .int (nI w)), (5, .int (nI (mxT (Ns z) dl (nG (Ns z))))), (7, .int (nI (rY (Ns z) dl n0 n1 q (tkY (Ns z) dl n0 n1 q) k))), (8, .int (nI (tkZ (Ns z) dl n0 n1 q + rZ (Ns z) dl n0 n1 q k))), (9, .int (nI q)), (10, .int (nI k))]) hx hb dX12_tellsChanges_404 hl (by decide) rfl (fun ls hl => ?_)
                                refine lv_iload hx hb dX12_tellsChanges_406 (lv_at hl 2 rfl) ?_
                                refine lv_iload hx hb dX12_tellsChanges_408 (lv_at hl 1 rfl) ?_
                                refine lv_icmp_ne (tgt := 418) hx hb dX12_tellsChanges_410 (by decide) (fun c410 => ?_) (fun c410 => ?_)
                                · skip
                                  first | exact absurd c410 c395 | exact absurd c395 c410
                                · skip
                                  refine lv_iload hx hb dX12_tellsChanges_413 (lv_at hl 13 rfl) ?_
                                  refine lv_goto (tgt := 420) hx hb dX12_tellsChanges_415 (by decide) ?_
                                  refine lv_istore (lv' := [(7, .int (nI (rY (Ns z) dl n0 n1 q (tkY (Ns z) dl n0 n1 q) k))), (6, .int (nI ((tkX (Ns z) dl n0 n1 q + rX (Ns z) dl n0 n1 q k) + 0))), (16, .int (bi (wp (Ns z) dl n0 n1 k q))), (12, .int (bi (wv (Ns z) dl n0 n1 k q))), (15, .int (bi (wv (Ns z) dl n0 n1 (nS (Ns z) k) (q - dl (nK (Ns z) k))))), (14, .int (bi (wv (Ns z) dl n0 n1 (nF (Ns z) k) (q - dl (nK (Ns z) k))))), (13, .int (nI (q - dl (nK (Ns z) k)))), (11, .int (nI ((120 * z) + k))), (0, .ref (a 93)), (1, .int (nI z)), (2, .int (nI n0)), (3, .int (nI n1)), (4, .int (nI w)), (5, .int (nI (mxT (Ns z) dl (nG (Ns z))))), (8, .int (nI (tkZ (Ns z) dl n0 n1 q + rZ (Ns z) dl n0 n1 q k))), (9, .int (nI q)), (10, .int (nI k))]) hx hb dX12_tellsChanges_420 hl (by decide) rfl (fun ls hl => ?_)
                                  refine lv_iload hx hb dX12_tellsChanges_422 (lv_at hl 14 rfl) ?_
                                  refine lv_iload hx hb dX12_tellsChanges_424 (lv_at hl 3 rfl) ?_
                                  refine lv_iload hx hb dX12_tellsChanges_426 (lv_at hl 2 rfl) ?_
                                  refine lv_icmp_ne (tgt := 435) hx hb dX12_tellsChanges_428 (by decide) (fun c428 => ?_) (fun c428 => ?_)
                                  · skip
                                    first | exact absurd c428 c395 | exact absurd c395 c428
                                  · skip
                                    refine lv_iconst (v := nI 0) hx hb dX12_tellsChanges_431 (by decide) ?_
                                    refine lv_goto (tgt := 442) hx hb dX12_tellsChanges_432 (by decide) ?_
                                    refine lv_iadd hx hb dX12_tellsChanges_442 ?_
                                    refine lv_as (nI_add _ _) ?_
                                    refine lv_istore (lv' := [(8, .int (nI ((tkZ (Ns z) dl n0 n1 q + rZ (Ns z) dl n0 n1 q k) + 0))), (7, .int (nI (rY (Ns z) dl n0 n1 q (tkY (Ns z) dl n0 n1 q) k))), (6, .int (nI ((tkX (Ns z) dl n0 n1 q + rX (Ns z) dl n0 n1 q k) + 0))), (16, .int (bi (wp (Ns z) dl n0 n1 k q))), (12, .int (bi (wv (Ns z) dl n0 n1 k q))), (15, .int (bi (wv (Ns z) dl n0 n1 (nS (Ns z) k) (q - dl (nK (Ns z) k))))), (14, .int (bi (wv (Ns z) dl n0 n1 (nF (Ns z) k) (q - dl (nK (Ns z) k))))), (13, .int (nI (q - dl (nK (Ns z) k)))), (11, .int (nI ((120 * z) + k))), (0, .ref (a 93)), (1, .int (nI z)), (2, .int (nI n0)), (3, .int (nI n1)), (4, .int (nI w)), (5, .int (nI (mxT (Ns z) dl (nG (Ns z))))), (9, .int (nI q)), (10, .int (nI k))]) hx hb dX12_tellsChanges_443 hl (by decide) rfl (fun ls hl => ?_)
                                    refine lv_aload_n hx hb dX12_tellsChanges_445 rfl (lv_at hl 9 rfl) ?_
                                    refine va_get (D := G.1) (ci := 12) (v := .ref (a 108)) (C := RX12) (T := TX12) (N := 23) hx hb hts inX12_tellsChanges_12 hown hK h_o 0 rfl rfl 14 (by decide) (hts (.fieldLink RX12 52 "GateLedgerModel" "past" "[I") (List.mem_of_getElem? (i := 11) (by decide +kernel))) (fun _ h9 => h9) rfl dX12_tellsChanges_446 ?_
                                    refine lv_bipush (v := nI 120) hx hb dX12_tellsChanges_449 (by decide) ?_
                                    refine lv_iload hx hb dX12_tellsChanges_451 (lv_at hl 15 rfl) ?_
                                    refine lv_bipush (v := nI 10) hx hb dX12_tellsChanges_453 (by decide) ?_
                                    refine lv_irem hx hb dX12_tellsChanges_455 (nI_ne0 (by omega) (by omega)) ?_
                                    refine lv_as (pk_rem (by omega) (by omega) (by omega)) ?_
                                    refine lv_imul hx hb dX12_tellsChanges_456 ?_
                                    refine lv_as (pk_mul _ _) ?_
                                    refine lv_iload hx hb dX12_tellsChanges_457 (lv_at hl 16 rfl) ?_
                                    refine lv_iadd hx hb dX12_tellsChanges_459 ?_
                                    refine lv_as (nI_add _ _) ?_
                                    refine lv_iload hx hb dX12_tellsChanges_460 (lv_at hl 4 rfl) ?_
                                    refine pp_iast hx hb hK h_past hS (Or.inr (rng_in (by omega))) (vp_in_nI (by omega) (by omega)) dX12_tellsChanges_462 (fun H locs hP9 hk25 _ hS => ?_)
                                    rw [nI_clamp (by omega)] at hP9
                                    have h_past : PP G (ar1 G a 108 1200 (upd pg ((120 * (q % 10)) + k) (bi (wv (Ns z) dl n0 n1 k q)))) H := hP9
                                    have h_o : PP G (modO a cy (nI 0)) H := kp hk25 h_o (dj_cons (ne_a ha (by omega)) (dj_nil))
                                    have h_bits : PP G (ar1 G a 104 120 u10) H := kp hk25 h_bits (dj_cons (ne_a ha (by omega)) (dj_nil))
                                    have h_times : PP G (ar1 G a 105 120 u14) H := kp hk25 h_times (dj_cons (ne_a ha (by omega)) (dj_nil))
                                    have h_marks : PP G (ar1 G a 106 120 mf) H := kp hk25 h_marks (dj_cons (ne_a ha (by omega)) (dj_nil))
                                    have h_old : PP G (ar1 G a 107 120 of) H := kp hk25 h_old (dj_cons (ne_a ha (by omega)) (dj_nil))
                                    refine lv_iinc (v := nI (k + 1)) (lv' := [(10, .int (nI (k + 1))), (8, .int (nI ((tkZ (Ns z) dl n0 n1 q + rZ (Ns z) dl n0 n1 q k) + 0))), (7, .int (nI (rY (Ns z) dl n0 n1 q (tkY (Ns z) dl n0 n1 q) k))), (6, .int (nI ((tkX (Ns z) dl n0 n1 q + rX (Ns z) dl n0 n1 q k) + 0))), (16, .int (bi (wp (Ns z) dl n0 n1 k q))), (12, .int (bi (wv (Ns z) dl n0 n1 k q))), (15, .int (bi (wv (Ns z) dl n0 n1 (nS (Ns z) k) (q - dl (nK (Ns z) k))))), (14, .int (bi (wv (Ns z) dl n0 n1 (nF (Ns z) k) (q - dl (nK (Ns z) k))))), (13, .int (nI (q - dl (nK (Ns z) k)))), (11, .int (nI ((120 * z) + k))), (0, .ref (a 93)), (1, .int (nI z)), (2, .int (nI n0)), (3, .int (nI n1)), (4, .int (nI w)), (5, .int (nI (mxT (Ns z) dl (nG (Ns z))))), (9, .int (nI q))]) hx hb dX12_tellsChanges_463 hl (k := 16) rfl (by first | exact nI_add _ 1 | decide) (by decide) rfl (fun ls hl => ?_)
                                    refine lv_goto (tgt := 174) hx hb dX12_tellsChanges_466 (by decide) ?_
                                    exact ih20 (k + 1) (upd pg ((120 * (q % 10)) + k) (bi (wv (Ns z) dl n0 n1 k q))) _ _ _ ⟨h_o, h_bits, h_times, h_marks, h_old, h_past, hS, (by have h9 := r_n (N := (Ns z)) (dl := dl) (n0 := n0) (n1 := n1) (t := q) (x := tkX (Ns z) dl n0 n1 q) (y := tkY (Ns z) dl n0 n1 q) (z := tkZ (Ns z) dl n0 n1 q) (k := k) (fun q => q.2 (bi_inj c395)); rw [h9.1, h9.2.1, h9.2.2]; exact lv_sub hl [10, 11, 12, 13, 14, 15, 3, 2, 1, 16, 0] rfl), by omega, RG_s hG c182 hg9⟩ (by show nG (Ns z) - (k + 1) < nG (Ns z) - k; omega)
                          · skip
                            refine lv_aload_n hx hb dX12_tellsChanges_328 rfl (lv_at hl 5 rfl) ?_
                            refine va_get (D := G.1) (ci := 12) (v := .ref (a 94)) (C := RX12) (T := TX12) (N := 23) hx hb hts inX12_tellsChanges_12 hown hK h_o 0 rfl rfl 0 (by decide) (hts (.fieldLink RX12 7 "GateLedgerModel" "kind" "[I") (List.mem_of_getElem? (i := 8) (by decide +kernel))) (fun _ h9 => h9) rfl dX12_tellsChanges_329 ?_
                            refine lv_iload hx hb dX12_tellsChanges_332 (lv_at hl 4 rfl) ?_
                            refine pp_iald hx hb hK (ro hS h_x (dj_cons (or_no (rng_no ha (by omega)) (rng_no ha (by omega))) (dj_cons (or_no (rng_no ha (by omega)) (rng_no ha (by omega))) (dj_cons (or_no (rng_no ha (by omega)) (rng_no ha (by omega))) (dj_cons (or_no (rng_no ha (by omega)) (rng_no ha (by omega))) (dj_cons (or_no (rng_no ha (by omega)) (rng_no ha (by omega))) (dj_cons (or_no (rng_no ha (by omega)) (rng_no ha (by omega))) (dj_nil)))))))) 0 rfl (vp_in_nI (by omega) (by omega)) dX12_tellsChanges_334 ?_
                            refine lv_as (congrArg (KF Ns) (nI_clamp (by omega))) ?_
                            refine lv_as (y := nI (nK (Ns z) k)) (KF_at (by omega)) ?_
                            refine lv_iload hx hb dX12_tellsChanges_335 (lv_at hl 1 rfl) ?_
                            refine lv_iload hx hb dX12_tellsChanges_337 (lv_at hl 0 rfl) ?_
                            refine ro_i (va_runS (As := [.int (nI (nK (Ns z) k)), .int (bi (wv (Ns z) dl n0 n1 (nF (Ns z) k) (q - dl (nK (Ns z) k)))), .int (bi (wv (Ns z) dl n0 n1 (nS (Ns z) k) (q - dl (nK (Ns z) k))))]) (rest := []) FX (c_X12_follows l G (nK (Ns z) k) (wv (Ns z) dl n0 n1 (nF (Ns z) k) (q - dl (nK (Ns z) k))) (wv (Ns z) dl n0 n1 (nS (Ns z) k) (q - dl (nK (Ns z) k))) (by omega)) (va_cwS 3 hts gX12_tellsChanges_X12_follows rfl rfl rfl (by decide +kernel) ⟨Nat.le_of_ble_eq_true rfl, Nat.le_of_ble_eq_true rfl⟩) (preS hK hNW trivial) rfl rfl hl.1 rfl (lv_room (Nat.le_of_ble_eq_true rfl)) dX12_tellsChanges_339 ⟨Nat.le_of_ble_eq_true rfl, Nat.le_of_ble_eq_true rfl⟩) ?_
                            refine lv_goto (tgt := 352) hx hb dX12_tellsChanges_342 (by decide) ?_
                            refine lv_as (y := bi (wv (Ns z) dl n0 n1 k q)) (congrArg bi ((wv_gt hN c182 c325 c211 q).trans (if_neg (by omega))).symm) ?_
                            refine lv_istore (lv' := [(12, .int (bi (wv (Ns z) dl n0 n1 k q))), (15, .int (bi (wv (Ns z) dl n0 n1 (nS (Ns z) k) (q - dl (nK (Ns z) k))))), (14, .int (bi (wv (Ns z) dl n0 n1 (nF (Ns z) k) (q - dl (nK (Ns z) k))))), (13, .int (nI (q - dl (nK (Ns z) k)))), (11, .int (nI ((120 * z) + k))), (0, .ref (a 93)), (1, .int (nI z)), (2, .int (nI n0)), (3, .int (nI n1)), (4, .int (nI w)), (5, .int (nI (mxT (Ns z) dl (nG (Ns z))))), (6, .int (nI (tkX (Ns z) dl n0 n1 q + rX (Ns z) dl n0 n1 q k))), (7, .int (nI (rY (Ns z) dl n0 n1 q (tkY (Ns z) dl n0 n1 q) k))), (8, .int (nI (tkZ (Ns z) dl n0 n1 q + rZ (Ns z) dl n0 n1 q k))), (9, .int (nI q)), (10, .int (nI k))]) hx hb dX12_tellsChanges_352 hl (by decide) rfl (fun ls hl => ?_)
                            refine lv_iload hx hb dX12_tellsChanges_354 (lv_at hl 14 rfl) ?_
                            refine lv_if_ne (tgt := 369) hx hb dX12_tellsChanges_356 (by decide) (fun c356 => ?_) (fun c356 => ?_)
                            · skip
                              have c356 := cv_ne (by omega) (by omega) (show ¬ nI q = nI 0 from c356)
                              refine lv_aload_n hx hb dX12_tellsChanges_369 rfl (lv_at hl 5 rfl) ?_
                              refine va_get (D := G.1) (ci := 12) (v := .ref (a 108)) (C := RX12) (T := TX12) (N := 23) hx hb hts inX12_tellsChanges_12 hown hK h_o 0 rfl rfl 14 (by decide) (hts (.fieldLink RX12 52 "GateLedgerModel" "past" "[I") (List.mem_of_getElem? (i := 11) (by decide +kernel))) (fun _ h9 => h9) rfl dX12_tellsChanges_370 ?_
                              refine lv_bipush (v := nI 120) hx hb dX12_tellsChanges_373 (by decide) ?_
                              refine lv_iload hx hb dX12_tellsChanges_375 (lv_at hl 14 rfl) ?_
                              refine lv_iconst (v := nI 1) hx hb dX12_tellsChanges_377 (by decide) ?_
                              refine lv_isub hx hb dX12_tellsChanges_378 ?_
                              refine lv_as (y := nI (q - 1)) (pk_sub (by omega)) ?_
                              refine lv_bipush (v := nI 10) hx hb dX12_tellsChanges_379 (by decide) ?_
                              refine lv_irem hx hb dX12_tellsChanges_381 (nI_ne0 (by omega) (by omega)) ?_
                              refine lv_as (pk_rem (by omega) (by omega) (by omega)) ?_
                              refine lv_imul hx hb dX12_tellsChanges_382 ?_
                              refine lv_as (pk_mul _ _) ?_
                              refine lv_iload hx hb dX12_tellsChanges_383 (lv_at hl 15 rfl) ?_
                              refine lv_iadd hx hb dX12_tellsChanges_385 ?_
                              refine lv_as (nI_add _ _) ?_
                              refine pp_iald hx hb hK h_past 0 rfl (vp_in_nI (by omega) (by omega)) dX12_tellsChanges_386 ?_
                              refine lv_as (congrArg pg (nI_clamp (by omega))) ?_
                              refine lv_as (y := bi (wp (Ns z) dl n0 n1 k q)) ((hG (q - 1) (k) (by omega) (by omega)).trans (congrArg bi (wp_s c356).symm)) ?_
                              refine lv_istore (lv' := [(16, .int (bi (wp (Ns z) dl n0 n1 k q))), (12, .int (bi (wv (Ns z) dl n0 n1 k q))), (15, .int (bi (wv (Ns z) dl n0 n1 (nS (Ns z) k) (q - dl (nK (Ns z) k))))), (14, .int (bi (wv (Ns z) dl n0 n1 (nF (Ns z) k) (q - dl (nK (Ns z) k))))), (13, .int (nI (q - dl (nK (Ns z) k)))), (11, .int (nI ((120 * z) + k))), (0, .ref (a 93)), (1, .int (nI z)), (2, .int (nI n0)), (3, .int (nI n1)), (4, .int (nI w)), (5, .int (nI (mxT (Ns z) dl (nG (Ns z))))), (6, .int (nI (tkX (Ns z) dl n0 n1 q + rX (Ns z) dl n0 n1 q k))), (7, .int (nI (rY (Ns z) dl n0 n1 q (tkY (Ns z) dl n0 n1 q) k))), (8, .int (nI (tkZ (Ns z) dl n0 n1 q + rZ (Ns z) dl n0 n1 q k))), (9, .int (nI q)), (10, .int (nI k))]) hx hb dX12_tellsChanges_387 hl (by decide) rfl (fun ls hl => ?_)
                              refine lv_iload hx hb dX12_tellsChanges_389 (lv_at hl 12 rfl) ?_
                              refine lv_iload hx hb dX12_tellsChanges_391 (lv_at hl 1 rfl) ?_
                              refine lv_iload hx hb dX12_tellsChanges_393 (lv_at hl 0 rfl) ?_
                              refine lv_icmp_ne (tgt := 402) hx hb dX12_tellsChanges_395 (by decide) (fun c395 => ?_) (fun c395 => ?_)
                              · skip
                                refine lv_iconst (v := nI 1) hx hb dX12_tellsChanges_402 (by decide) ?_
                                refine lv_iadd hx hb dX12_tellsChanges_403 ?_
                                refine lv_as (nI_add _ _) ?_
                                refine lv_istore (lv' := [(6, .int (nI ((tkX (Ns z) dl n0 n1 q + rX (Ns z) dl n0 n1 q k) + 1))), (16, .int (bi (wp (Ns z) dl n0 n1 k q))), (12, .int (bi (wv (Ns z) dl n0 n1 k q))), (15, .int (bi (wv (Ns z) dl n0 n1 (nS (Ns z) k) (q - dl (nK (Ns z) k))))), (14, .int (bi (wv (Ns z) dl n0 n1 (nF (Ns z) k) (q - dl (nK (Ns z) k))))), (13, .int (nI (q - dl (nK (Ns z) k)))), (11, .int (nI ((120 * z) + k))), (0, .ref (a 93)), (1, .int (nI z)), (2, .int (nI n0)), (3, .int (nI n1)), (4, .int (nI w)), (5, .int (nI (mxT (Ns z) dl (nG (Ns z))))), (7, .int (nI (rY (Ns z) dl n0 n1 q (tkY (Ns z) dl n0 n1 q) k))), (8, .int (nI (tkZ (Ns z) dl n0 n1 q + rZ (Ns z) dl n0 n1 q k))), (9, .int (nI q)), (10, .int (nI k))]) hx hb dX12_tellsChanges_404 hl (by decide) rfl (fun ls hl => ?_)
                                refine lv_iload hx hb dX12_tellsChanges_406 (lv_at hl 2 rfl) ?_
                                refine lv_iload hx hb dX12_tellsChanges_408 (lv_at hl 1 rfl) ?_
                                refine lv_icmp_ne (tgt := 418) hx hb dX12_tellsChanges_410 (by decide) (fun c410 => ?_) (fun c410 => ?_)
                                · skip
                                  refine lv_iload hx hb dX12_tellsChanges_418 (lv_at hl 15 rfl) ?_
                                  refine lv_istore (lv' := [(7, .int (nI q)), (6, .int (nI ((tkX (Ns z) dl n0 n1 q + rX (Ns z) dl n0 n1 q k) + 1))), (16, .int (bi (wp (Ns z) dl n0 n1 k q))), (12, .int (bi (wv (Ns z) dl n0 n1 k q))), (15, .int (bi (wv (Ns z) dl n0 n1 (nS (Ns z) k) (q - dl (nK (Ns z) k))))), (14, .int (bi (wv (Ns z) dl n0 n1 (nF (Ns z) k) (q - dl (nK (Ns z) k))))), (13, .int (nI (q - dl (nK (Ns z) k)))), (11, .int (nI ((120 * z) + k))), (0, .ref (a 93)), (1, .int (nI z)), (2, .int (nI n0)), (3, .int (nI n1)), (4, .int (nI w)), (5, .int (nI (mxT (Ns z) dl (nG (Ns z))))), (8, .int (nI (tkZ (Ns z) dl n0 n1 q + rZ (Ns z) dl n0 n1 q k))), (9, .int (nI q)), (10, .int (nI k))]) hx hb dX12_tellsChanges_420 hl (by decide) rfl (fun ls hl => ?_)
                                  refine lv_iload hx hb dX12_tellsChanges_422 (lv_at hl 14 rfl) ?_
                                  refine lv_iload hx hb dX12_tellsChanges_424 (lv_at hl 3 rfl) ?_
                                  refine lv_iload hx hb dX12_tellsChanges_426 (lv_at hl 2 rfl) ?_
                                  refine lv_icmp_ne (tgt := 435) hx hb dX12_tellsChanges_428 (by decide) (fun c428 => ?_) (fun c428 => ?_)
                                  · skip
                                    refine lv_aload_n hx hb dX12_tellsChanges_435 rfl (lv_at hl 8 rfl) ?_
                                    refine va_get (D := G.1) (ci := 12) (v := .ref (a 106)) (C := RX12) (T := TX12) (N := 23) hx hb hts inX12_tellsChanges_12 hown hK h_o 0 rfl rfl 12 (by decide) (hts (.fieldLink RX12 46 "GateLedgerModel" "marks" "[I") (List.mem_of_getElem? (i := 5) (by decide +kernel))) (fun _ h9 => h9) rfl dX12_tellsChanges_436 ?_
                                    refine lv_iload hx hb dX12_tellsChanges_439 (lv_at hl 16 rfl) ?_
                                    refine pp_iald hx hb hK h_marks 0 rfl (vp_in_nI (by omega) (by omega)) dX12_tellsChanges_441 ?_
                                    refine lv_as (congrArg mf (nI_clamp (by omega))) ?_
                                    refine lv_as (y := bi (ouT (Ns z) (nO (Ns z)) k)) (hm4 _ c182) ?_
                                    refine lv_iadd hx hb dX12_tellsChanges_442 ?_
                                    refine lv_as (y := nI (tkZ (Ns z) dl n0 n1 q + rZ (Ns z) dl n0 n1 q k + (if (∃ r, r < nO (Ns z) ∧ nU (Ns z) r = k) then 1 else 0))) ((congrArg (fun q9 : Int32 => nI (tkZ (Ns z) dl n0 n1 q + rZ (Ns z) dl n0 n1 q k) + q9) (ou_if _)).trans (nI_add _ _)) ?_
                                    refine lv_istore (lv' := [(8, .int (nI (tkZ (Ns z) dl n0 n1 q + rZ (Ns z) dl n0 n1 q k + (if (∃ r, r < nO (Ns z) ∧ nU (Ns z) r = k) then 1 else 0)))), (7, .int (nI q)), (6, .int (nI ((tkX (Ns z) dl n0 n1 q + rX (Ns z) dl n0 n1 q k) + 1))), (16, .int (bi (wp (Ns z) dl n0 n1 k q))), (12, .int (bi (wv (Ns z) dl n0 n1 k q))), (15, .int (bi (wv (Ns z) dl n0 n1 (nS (Ns z) k) (q - dl (nK (Ns z) k))))), (14, .int (bi (wv (Ns z) dl n0 n1 (nF (Ns z) k) (q - dl (nK (Ns z) k))))), (13, .int (nI (q - dl (nK (Ns z) k)))), (11, .int (nI ((120 * z) + k))), (0, .ref (a 93)), (1, .int (nI z)), (2, .int (nI n0)), (3, .int (nI n1)), (4, .int (nI w)), (5, .int (nI (mxT (Ns z) dl (nG (Ns z))))), (9, .int (nI q)), (10, .int (nI k))]) hx hb dX12_tellsChanges_443 hl (by decide) rfl (fun ls hl => ?_)
                                    refine lv_aload_n hx hb dX12_tellsChanges_445 rfl (lv_at hl 9 rfl) ?_
                                    refine va_get (D := G.1) (ci := 12) (v := .ref (a 108)) (C := RX12) (T := TX12) (N := 23) hx hb hts inX12_tellsChanges_12 hown hK h_o 0 rfl rfl 14 (by decide) (hts (.fieldLink RX12 52 "GateLedgerModel" "past" "[I") (List.mem_of_getElem? (i := 11) (by decide +kernel))) (fun _ h9 => h9) rfl dX12_tellsChanges_446 ?_
                                    refine lv_bipush (v := nI 120) hx hb dX12_tellsChanges_449 (by decide) ?_
                                    refine lv_iload hx hb dX12_tellsChanges_451 (lv_at hl 15 rfl) ?_
                                    refine lv_bipush (v := nI 10) hx hb dX12_tellsChanges_453 (by decide) ?_
                                    refine lv_irem hx hb dX12_tellsChanges_455 (nI_ne0 (by omega) (by omega)) ?_
                                    refine lv_as (pk_rem (by omega) (by omega) (by omega)) ?_
                                    refine lv_imul hx hb dX12_tellsChanges_456 ?_
                                    refine lv_as (pk_mul _ _) ?_
                                    refine lv_iload hx hb dX12_tellsChanges_457 (lv_at hl 16 rfl) ?_
                                    refine lv_iadd hx hb dX12_tellsChanges_459 ?_
                                    refine lv_as (nI_add _ _) ?_
                                    refine lv_iload hx hb dX12_tellsChanges_460 (lv_at hl 4 rfl) ?_
                                    refine pp_iast hx hb hK h_past hS (Or.inr (rng_in (by omega))) (vp_in_nI (by omega) (by omega)) dX12_tellsChanges_462 (fun H locs hP9 hk26 _ hS => ?_)
                                    rw [nI_clamp (by omega)] at hP9
                                    have h_past : PP G (ar1 G a 108 1200 (upd pg ((120 * (q % 10)) + k) (bi (wv (Ns z) dl n0 n1 k q)))) H := hP9
                                    have h_o : PP G (modO a cy (nI 0)) H := kp hk26 h_o (dj_cons (ne_a ha (by omega)) (dj_nil))
                                    have h_bits : PP G (ar1 G a 104 120 u10) H := kp hk26 h_bits (dj_cons (ne_a ha (by omega)) (dj_nil))
                                    have h_times : PP G (ar1 G a 105 120 u14) H := kp hk26 h_times (dj_cons (ne_a ha (by omega)) (dj_nil))
                                    have h_marks : PP G (ar1 G a 106 120 mf) H := kp hk26 h_marks (dj_cons (ne_a ha (by omega)) (dj_nil))
                                    have h_old : PP G (ar1 G a 107 120 of) H := kp hk26 h_old (dj_cons (ne_a ha (by omega)) (dj_nil))
                                    refine lv_iinc (v := nI (k + 1)) (lv' := [(10, .int (nI (k + 1))), (8, .int (nI (tkZ (Ns z) dl n0 n1 q + rZ (Ns z) dl n0 n1 q k + (if (∃ r, r < nO (Ns z) ∧ nU (Ns z) r = k) then 1 else 0)))), (7, .int (nI q)), (6, .int (nI ((tkX (Ns z) dl n0 n1 q + rX (Ns z) dl n0 n1 q k) + 1))), (16, .int (bi (wp (Ns z) dl n0 n1 k q))), (12, .int (bi (wv (Ns z) dl n0 n1 k q))), (15, .int (bi (wv (Ns z) dl n0 n1 (nS (Ns z) k) (q - dl (nK (Ns z) k))))), (14, .int (bi (wv (Ns z) dl n0 n1 (nF (Ns z) k) (q - dl (nK (Ns z) k))))), (13, .int (nI (q - dl (nK (Ns z) k)))), (11, .int (nI ((120 * z) + k))), (0, .ref (a 93)), (1, .int (nI z)), (2, .int (nI n0)), (3, .int (nI n1)), (4, .int (nI w)), (5, .int (nI (mxT (Ns z) dl (nG (Ns z))))), (9, .int (nI q))]) hx hb dX12_tellsChanges_463 hl (k := 16) rfl (by first | exact nI_add _ 1 | decide) (by decide) rfl (fun ls hl => ?_)
                                    refine lv_goto (tgt := 174) hx hb dX12_tellsChanges_466 (by decide) ?_
                                    exact ih20 (k + 1) (upd pg ((120 * (q % 10)) + k) (bi (wv (Ns z) dl n0 n1 k q))) _ _ _ ⟨h_o, h_bits, h_times, h_marks, h_old, h_past, hS, (by have h9 := r_y (N := (Ns z)) (dl := dl) (n0 := n0) (n1 := n1) (t := q) (x := tkX (Ns z) dl n0 n1 q) (y := tkY (Ns z) dl n0 n1 q) (z := tkZ (Ns z) dl n0 n1 q) (k := k) ⟨c211, fun q => c395 (congrArg bi q)⟩; rw [h9.1, h9.2.1, h9.2.2, Nat.max_eq_right hry]; exact lv_sub hl [10, 11, 12, 13, 14, 15, 3, 2, 1, 16, 0] rfl), by omega, RG_s hG c182 hg9⟩ (by show nG (Ns z) - (k + 1) < nG (Ns z) - k; omega)
                                  · skip
                                    first | exact absurd c428 c395 | exact absurd c395 c428
                                · skip
                                  first | exact absurd c410 c395 | exact absurd c395 c410
                              · skip
                                refine lv_iconst (v := nI 0) hx hb dX12_tellsChanges_398 (by decide) ?_
                                refine lv_goto (tgt := 403) hx hb dX12_tellsChanges_399 (by decide) ?_
                                refine lv_iadd hx hb dX12_tellsChanges_403 ?_
                                refine lv_as (nI_add _ _) ?_
                                refine lv_istore (lv' := [(6, .int (nI ((tkX (Ns z) dl n0 n1 q + rX (Ns z) dl n0 n1 q k) + 0))), (16, .int (bi (wp (Ns z) dl n0 n1 k q))), (12, .int (bi (wv (Ns z) dl n0 n1 k q))), (15, .int (bi (wv (Ns z) dl n0 n1 (nS (Ns z) k) (q - dl (nK (Ns z) k))))), (14, .int (bi (wv (Ns z) dl n0 n1 (nF (Ns z) k) (q - dl (nK (Ns z) k))))), (13, .int (nI (q - dl (nK (Ns z) k)))), (11, .int (nI ((120 * z) + k))), (0, .ref (a 93)), (1, .int (nI z)), (2, .int (nI n0)), (3, .int (nI n1)), (4, .int (nI w)), (5, .int (nI (mxT (Ns z) dl (nG (Ns z))))), (7, .int (nI (rY (Ns z) dl n0 n1 q (tkY (Ns z) dl n0 n1 q) k))), (8, .int (nI (tkZ (Ns z) dl n0 n1 q + rZ (Ns z) dl n0 n1 q k))), (9, .int (nI q)), (10, .int (nI k))]) hx hb dX12_tellsChanges_404 hl (by decide) rfl (fun ls hl => ?_)
                                refine lv_iload hx hb dX12_tellsChanges_406 (lv_at hl 2 rfl) ?_
                                refine lv_iload hx hb dX12_tellsChanges_408 (lv_at hl 1 rfl) ?_
                                refine lv_icmp_ne (tgt := 418) hx hb dX12_tellsChanges_410 (by decide) (fun c410 => ?_) (fun c410 => ?_)
                                · skip
                                  first | exact absurd c410 c395 | exact absurd c395 c410
                                · skip
                                  refine lv_iload hx hb dX12_tellsChanges_413 (lv_at hl 13 rfl) ?_
                                  refine lv_goto (tgt := 420) hx hb dX12_tellsChanges_415 (by decide) ?_
                                  refine lv_istore (lv' := [(7, .int (nI (rY (Ns z) dl n0 n1 q (tkY (Ns z) dl n0 n1 q) k))), (6, .int (nI ((tkX (Ns z) dl n0 n1 q + rX (Ns z) dl n0 n1 q k) + 0))), (16, .int (bi (wp (Ns z) dl n0 n1 k q))), (12, .int (bi (wv (Ns z) dl n0 n1 k q))), (15, .int (bi (wv (Ns z) dl n0 n1 (nS (Ns z) k) (q - dl (nK (Ns z) k))))), (14, .int (bi (wv (Ns z) dl n0 n1 (nF (Ns z) k) (q - dl (nK (Ns z) k))))), (13, .int (nI (q - dl (nK (Ns z) k)))), (11, .int (nI ((120 * z) + k))), (0, .ref (a 93)), (1, .int (nI z)), (2, .int (nI n0)), (3, .int (nI n1)), (4, .int (nI w)), (5, .int (nI (mxT (Ns z) dl (nG (Ns z))))), (8, .int (nI (tkZ (Ns z) dl n0 n1 q + rZ (Ns z) dl n0 n1 q k))), (9, .int (nI q)), (10, .int (nI k))]) hx hb dX12_tellsChanges_420 hl (by decide) rfl (fun ls hl => ?_)
                                  refine lv_iload hx hb dX12_tellsChanges_422 (lv_at hl 14 rfl) ?_
                                  refine lv_iload hx hb dX12_tellsChanges_424 (lv_at hl 3 rfl) ?_
                                  refine lv_iload hx hb dX12_tellsChanges_426 (lv_at hl 2 rfl) ?_
                                  refine lv_icmp_ne (tgt := 435) hx hb dX12_tellsChanges_428 (by decide) (fun c428 => ?_) (fun c428 => ?_)
                                  · skip
                                    first | exact absurd c428 c395 | exact absurd c395 c428
                                  · skip
                                    refine lv_iconst (v := nI 0) hx hb dX12_tellsChanges_431 (by decide) ?_
                                    refine lv_goto (tgt := 442) hx hb dX12_tellsChanges_432 (by decide) ?_
                                    refine lv_iadd hx hb dX12_tellsChanges_442 ?_
                                    refine lv_as (nI_add _ _) ?_
                                    refine lv_istore (lv' := [(8, .int (nI ((tkZ (Ns z) dl n0 n1 q + rZ (Ns z) dl n0 n1 q k) + 0))), (7, .int (nI (rY (Ns z) dl n0 n1 q (tkY (Ns z) dl n0 n1 q) k))), (6, .int (nI ((tkX (Ns z) dl n0 n1 q + rX (Ns z) dl n0 n1 q k) + 0))), (16, .int (bi (wp (Ns z) dl n0 n1 k q))), (12, .int (bi (wv (Ns z) dl n0 n1 k q))), (15, .int (bi (wv (Ns z) dl n0 n1 (nS (Ns z) k) (q - dl (nK (Ns z) k))))), (14, .int (bi (wv (Ns z) dl n0 n1 (nF (Ns z) k) (q - dl (nK (Ns z) k))))), (13, .int (nI (q - dl (nK (Ns z) k)))), (11, .int (nI ((120 * z) + k))), (0, .ref (a 93)), (1, .int (nI z)), (2, .int (nI n0)), (3, .int (nI n1)), (4, .int (nI w)), (5, .int (nI (mxT (Ns z) dl (nG (Ns z))))), (9, .int (nI q)), (10, .int (nI k))]) hx hb dX12_tellsChanges_443 hl (by decide) rfl (fun ls hl => ?_)
                                    refine lv_aload_n hx hb dX12_tellsChanges_445 rfl (lv_at hl 9 rfl) ?_
                                    refine va_get (D := G.1) (ci := 12) (v := .ref (a 108)) (C := RX12) (T := TX12) (N := 23) hx hb hts inX12_tellsChanges_12 hown hK h_o 0 rfl rfl 14 (by decide) (hts (.fieldLink RX12 52 "GateLedgerModel" "past" "[I") (List.mem_of_getElem? (i := 11) (by decide +kernel))) (fun _ h9 => h9) rfl dX12_tellsChanges_446 ?_
                                    refine lv_bipush (v := nI 120) hx hb dX12_tellsChanges_449 (by decide) ?_
                                    refine lv_iload hx hb dX12_tellsChanges_451 (lv_at hl 15 rfl) ?_
                                    refine lv_bipush (v := nI 10) hx hb dX12_tellsChanges_453 (by decide) ?_
                                    refine lv_irem hx hb dX12_tellsChanges_455 (nI_ne0 (by omega) (by omega)) ?_
                                    refine lv_as (pk_rem (by omega) (by omega) (by omega)) ?_
                                    refine lv_imul hx hb dX12_tellsChanges_456 ?_
                                    refine lv_as (pk_mul _ _) ?_
                                    refine lv_iload hx hb dX12_tellsChanges_457 (lv_at hl 16 rfl) ?_
                                    refine lv_iadd hx hb dX12_tellsChanges_459 ?_
                                    refine lv_as (nI_add _ _) ?_
                                    refine lv_iload hx hb dX12_tellsChanges_460 (lv_at hl 4 rfl) ?_
                                    refine pp_iast hx hb hK h_past hS (Or.inr (rng_in (by omega))) (vp_in_nI (by omega) (by omega)) dX12_tellsChanges_462 (fun H locs hP9 hk27 _ hS => ?_)
                                    rw [nI_clamp (by omega)] at hP9
                                    have h_past : PP G (ar1 G a 108 1200 (upd pg ((120 * (q % 10)) + k) (bi (wv (Ns z) dl n0 n1 k q)))) H := hP9
                                    have h_o : PP G (modO a cy (nI 0)) H := kp hk27 h_o (dj_cons (ne_a ha (by omega)) (dj_nil))
                                    have h_bits : PP G (ar1 G a 104 120 u10) H := kp hk27 h_bits (dj_cons (ne_a ha (by omega)) (dj_nil))
                                    have h_times : PP G (ar1 G a 105 120 u14) H := kp hk27 h_times (dj_cons (ne_a ha (by omega)) (dj_nil))
                                    have h_marks : PP G (ar1 G a 106 120 mf) H := kp hk27 h_marks (dj_cons (ne_a ha (by omega)) (dj_nil))
                                    have h_old : PP G (ar1 G a 107 120 of) H := kp hk27 h_old (dj_cons (ne_a ha (by omega)) (dj_nil))
                                    refine lv_iinc (v := nI (k + 1)) (lv' := [(10, .int (nI (k + 1))), (8, .int (nI ((tkZ (Ns z) dl n0 n1 q + rZ (Ns z) dl n0 n1 q k) + 0))), (7, .int (nI (rY (Ns z) dl n0 n1 q (tkY (Ns z) dl n0 n1 q) k))), (6, .int (nI ((tkX (Ns z) dl n0 n1 q + rX (Ns z) dl n0 n1 q k) + 0))), (16, .int (bi (wp (Ns z) dl n0 n1 k q))), (12, .int (bi (wv (Ns z) dl n0 n1 k q))), (15, .int (bi (wv (Ns z) dl n0 n1 (nS (Ns z) k) (q - dl (nK (Ns z) k))))), (14, .int (bi (wv (Ns z) dl n0 n1 (nF (Ns z) k) (q - dl (nK (Ns z) k))))), (13, .int (nI (q - dl (nK (Ns z) k)))), (11, .int (nI ((120 * z) + k))), (0, .ref (a 93)), (1, .int (nI z)), (2, .int (nI n0)), (3, .int (nI n1)), (4, .int (nI w)), (5, .int (nI (mxT (Ns z) dl (nG (Ns z))))), (9, .int (nI q))]) hx hb dX12_tellsChanges_463 hl (k := 16) rfl (by first | exact nI_add _ 1 | decide) (by decide) rfl (fun ls hl => ?_)
                                    refine lv_goto (tgt := 174) hx hb dX12_tellsChanges_466 (by decide) ?_
                                    exact ih20 (k + 1) (upd pg ((120 * (q % 10)) + k) (bi (wv (Ns z) dl n0 n1 k q))) _ _ _ ⟨h_o, h_bits, h_times, h_marks, h_old, h_past, hS, (by have h9 := r_n (N := (Ns z)) (dl := dl) (n0 := n0) (n1 := n1) (t := q) (x := tkX (Ns z) dl n0 n1 q) (y := tkY (Ns z) dl n0 n1 q) (z := tkZ (Ns z) dl n0 n1 q) (k := k) (fun q => q.2 (bi_inj c395)); rw [h9.1, h9.2.1, h9.2.2]; exact lv_sub hl [10, 11, 12, 13, 14, 15, 3, 2, 1, 16, 0] rfl), by omega, RG_s hG c182 hg9⟩ (by show nG (Ns z) - (k + 1) < nG (Ns z) - k; omega)
                            · skip
                              have c356 := cv_eq (by omega) (by omega) (show nI q = nI 0 from c356)
                              refine lv_aload_n hx hb dX12_tellsChanges_359 rfl (lv_at hl 5 rfl) ?_
                              refine va_get (D := G.1) (ci := 12) (v := .ref (a 107)) (C := RX12) (T := TX12) (N := 23) hx hb hts inX12_tellsChanges_12 hown hK h_o 0 rfl rfl 13 (by decide) (hts (.fieldLink RX12 49 "GateLedgerModel" "old" "[I") (List.mem_of_getElem? (i := 3) (by decide +kernel))) (fun _ h9 => h9) rfl dX12_tellsChanges_360 ?_
                              refine lv_iload hx hb dX12_tellsChanges_363 (lv_at hl 15 rfl) ?_
                              refine pp_iald hx hb hK h_old 0 rfl (vp_in_nI (by omega) (by omega)) dX12_tellsChanges_365 ?_
                              refine lv_as (congrArg of (nI_clamp (by omega))) ?_
                              refine lv_as (y := bi (wp (Ns z) dl n0 n1 k q)) ((ho4 _ c182).trans (congrArg bi (wp_0 c356).symm)) ?_
                              refine lv_goto (tgt := 387) hx hb dX12_tellsChanges_366 (by decide) ?_
                              refine lv_istore (lv' := [(16, .int (bi (wp (Ns z) dl n0 n1 k q))), (12, .int (bi (wv (Ns z) dl n0 n1 k q))), (15, .int (bi (wv (Ns z) dl n0 n1 (nS (Ns z) k) (q - dl (nK (Ns z) k))))), (14, .int (bi (wv (Ns z) dl n0 n1 (nF (Ns z) k) (q - dl (nK (Ns z) k))))), (13, .int (nI (q - dl (nK (Ns z) k)))), (11, .int (nI ((120 * z) + k))), (0, .ref (a 93)), (1, .int (nI z)), (2, .int (nI n0)), (3, .int (nI n1)), (4, .int (nI w)), (5, .int (nI (mxT (Ns z) dl (nG (Ns z))))), (6, .int (nI (tkX (Ns z) dl n0 n1 q + rX (Ns z) dl n0 n1 q k))), (7, .int (nI (rY (Ns z) dl n0 n1 q (tkY (Ns z) dl n0 n1 q) k))), (8, .int (nI (tkZ (Ns z) dl n0 n1 q + rZ (Ns z) dl n0 n1 q k))), (9, .int (nI q)), (10, .int (nI k))]) hx hb dX12_tellsChanges_387 hl (by decide) rfl (fun ls hl => ?_)
                              refine lv_iload hx hb dX12_tellsChanges_389 (lv_at hl 12 rfl) ?_
                              refine lv_iload hx hb dX12_tellsChanges_391 (lv_at hl 1 rfl) ?_
                              refine lv_iload hx hb dX12_tellsChanges_393 (lv_at hl 0 rfl) ?_
                              refine lv_icmp_ne (tgt := 402) hx hb dX12_tellsChanges_395 (by decide) (fun c395 => ?_) (fun c395 => ?_)
                              · skip
                                refine lv_iconst (v := nI 1) hx hb dX12_tellsChanges_402 (by decide) ?_
                                refine lv_iadd hx hb dX12_tellsChanges_403 ?_
                                refine lv_as (nI_add _ _) ?_
                                refine lv_istore (lv' := [(6, .int (nI ((tkX (Ns z) dl n0 n1 q + rX (Ns z) dl n0 n1 q k) + 1))), (16, .int (bi (wp (Ns z) dl n0 n1 k q))), (12, .int (bi (wv (Ns z) dl n0 n1 k q))), (15, .int (bi (wv (Ns z) dl n0 n1 (nS (Ns z) k) (q - dl (nK (Ns z) k))))), (14, .int (bi (wv (Ns z) dl n0 n1 (nF (Ns z) k) (q - dl (nK (Ns z) k))))), (13, .int (nI (q - dl (nK (Ns z) k)))), (11, .int (nI ((120 * z) + k))), (0, .ref (a 93)), (1, .int (nI z)), (2, .int (nI n0)), (3, .int (nI n1)), (4, .int (nI w)), (5, .int (nI (mxT (Ns z) dl (nG (Ns z))))), (7, .int (nI (rY (Ns z) dl n0 n1 q (tkY (Ns z) dl n0 n1 q) k))), (8, .int (nI (tkZ (Ns z) dl n0 n1 q + rZ (Ns z) dl n0 n1 q k))), (9, .int (nI q)), (10, .int (nI k))]) hx hb dX12_tellsChanges_404 hl (by decide) rfl (fun ls hl => ?_)
                                refine lv_iload hx hb dX12_tellsChanges_406 (lv_at hl 2 rfl) ?_
                                refine lv_iload hx hb dX12_tellsChanges_408 (lv_at hl 1 rfl) ?_
                                refine lv_icmp_ne (tgt := 418) hx hb dX12_tellsChanges_410 (by decide) (fun c410 => ?_) (fun c410 => ?_)
                                · skip
                                  refine lv_iload hx hb dX12_tellsChanges_418 (lv_at hl 15 rfl) ?_
                                  refine lv_istore (lv' := [(7, .int (nI q)), (6, .int (nI ((tkX (Ns z) dl n0 n1 q + rX (Ns z) dl n0 n1 q k) + 1))), (16, .int (bi (wp (Ns z) dl n0 n1 k q))), (12, .int (bi (wv (Ns z) dl n0 n1 k q))), (15, .int (bi (wv (Ns z) dl n0 n1 (nS (Ns z) k) (q - dl (nK (Ns z) k))))), (14, .int (bi (wv (Ns z) dl n0 n1 (nF (Ns z) k) (q - dl (nK (Ns z) k))))), (13, .int (nI (q - dl (nK (Ns z) k)))), (11, .int (nI ((120 * z) + k))), (0, .ref (a 93)), (1, .int (nI z)), (2, .int (nI n0)), (3, .int (nI n1)), (4, .int (nI w)), (5, .int (nI (mxT (Ns z) dl (nG (Ns z))))), (8, .int (nI (tkZ (Ns z) dl n0 n1 q + rZ (Ns z) dl n0 n1 q k))), (9, .int (nI q)), (10, .int (nI k))]) hx hb dX12_tellsChanges_420 hl (by decide) rfl (fun ls hl => ?_)
                                  refine lv_iload hx hb dX12_tellsChanges_422 (lv_at hl 14 rfl) ?_
                                  refine lv_iload hx hb dX12_tellsChanges_424 (lv_at hl 3 rfl) ?_
                                  refine lv_iload hx hb dX12_tellsChanges_426 (lv_at hl 2 rfl) ?_
                                  refine lv_icmp_ne (tgt := 435) hx hb dX12_tellsChanges_428 (by decide) (fun c428 => ?_) (fun c428 => ?_)
                                  · skip
                                    refine lv_aload_n hx hb dX12_tellsChanges_435 rfl (lv_at hl 8 rfl) ?_
                                    refine va_get (D := G.1) (ci := 12) (v := .ref (a 106)) (C := RX12) (T := TX12) (N := 23) hx hb hts inX12_tellsChanges_12 hown hK h_o 0 rfl rfl 12 (by decide) (hts (.fieldLink RX12 46 "GateLedgerModel" "marks" "[I") (List.mem_of_getElem? (i := 5) (by decide +kernel))) (fun _ h9 => h9) rfl dX12_tellsChanges_436 ?_
                                    refine lv_iload hx hb dX12_tellsChanges_439 (lv_at hl 16 rfl) ?_
                                    refine pp_iald hx hb hK h_marks 0 rfl (vp_in_nI (by omega) (by omega)) dX12_tellsChanges_441 ?_
                                    refine lv_as (congrArg mf (nI_clamp (by omega))) ?_
                                    refine lv_as (y := bi (ouT (Ns z) (nO (Ns z)) k)) (hm4 _ c182) ?_
                                    refine lv_iadd hx hb dX12_tellsChanges_442 ?_
                                    refine lv_as (y := nI (tkZ (Ns z) dl n0 n1 q + rZ (Ns z) dl n0 n1 q k + (if (∃ r, r < nO (Ns z) ∧ nU (Ns z) r = k) then 1 else 0))) ((congrArg (fun q9 : Int32 => nI (tkZ (Ns z) dl n0 n1 q + rZ (Ns z) dl n0 n1 q k) + q9) (ou_if _)).trans (nI_add _ _)) ?_
                                    refine lv_istore (lv' := [(8, .int (nI (tkZ (Ns z) dl n0 n1 q + rZ (Ns z) dl n0 n1 q k + (if (∃ r, r < nO (Ns z) ∧ nU (Ns z) r = k) then 1 else 0)))), (7, .int (nI q)), (6, .int (nI ((tkX (Ns z) dl n0 n1 q + rX (Ns z) dl n0 n1 q k) + 1))), (16, .int (bi (wp (Ns z) dl n0 n1 k q))), (12, .int (bi (wv (Ns z) dl n0 n1 k q))), (15, .int (bi (wv (Ns z) dl n0 n1 (nS (Ns z) k) (q - dl (nK (Ns z) k))))), (14, .int (bi (wv (Ns z) dl n0 n1 (nF (Ns z) k) (q - dl (nK (Ns z) k))))), (13, .int (nI (q - dl (nK (Ns z) k)))), (11, .int (nI ((120 * z) + k))), (0, .ref (a 93)), (1, .int (nI z)), (2, .int (nI n0)), (3, .int (nI n1)), (4, .int (nI w)), (5, .int (nI (mxT (Ns z) dl (nG (Ns z))))), (9, .int (nI q)), (10, .int (nI k))]) hx hb dX12_tellsChanges_443 hl (by decide) rfl (fun ls hl => ?_)
                                    refine lv_aload_n hx hb dX12_tellsChanges_445 rfl (lv_at hl 9 rfl) ?_
                                    refine va_get (D := G.1) (ci := 12) (v := .ref (a 108)) (C := RX12) (T := TX12) (N := 23) hx hb hts inX12_tellsChanges_12 hown hK h_o 0 rfl rfl 14 (by decide) (hts (.fieldLink RX12 52 "GateLedgerModel" "past" "[I") (List.mem_of_getElem? (i := 11) (by decide +kernel))) (fun _ h9 => h9) rfl dX12_tellsChanges_446 ?_
                                    refine lv_bipush (v := nI 120) hx hb dX12_tellsChanges_449 (by decide) ?_
                                    refine lv_iload hx hb dX12_tellsChanges_451 (lv_at hl 15 rfl) ?_
                                    refine lv_bipush (v := nI 10) hx hb dX12_tellsChanges_453 (by decide) ?_
                                    refine lv_irem hx hb dX12_tellsChanges_455 (nI_ne0 (by omega) (by omega)) ?_
                                    refine lv_as (pk_rem (by omega) (by omega) (by omega)) ?_
                                    refine lv_imul hx hb dX12_tellsChanges_456 ?_
                                    refine lv_as (pk_mul _ _) ?_
                                    refine lv_iload hx hb dX12_tellsChanges_457 (lv_at hl 16 rfl) ?_
                                    refine lv_iadd hx hb dX12_tellsChanges_459 ?_
                                    refine lv_as (nI_add _ _) ?_
                                    refine lv_iload hx hb dX12_tellsChanges_460 (lv_at hl 4 rfl) ?_
                                    refine pp_iast hx hb hK h_past hS (Or.inr (rng_in (by omega))) (vp_in_nI (by omega) (by omega)) dX12_tellsChanges_462 (fun H locs hP9 hk28 _ hS => ?_)
                                    rw [nI_clamp (by omega)] at hP9
                                    have h_past : PP G (ar1 G a 108 1200 (upd pg ((120 * (q % 10)) + k) (bi (wv (Ns z) dl n0 n1 k q)))) H := hP9
                                    have h_o : PP G (modO a cy (nI 0)) H := kp hk28 h_o (dj_cons (ne_a ha (by omega)) (dj_nil))
                                    have h_bits : PP G (ar1 G a 104 120 u10) H := kp hk28 h_bits (dj_cons (ne_a ha (by omega)) (dj_nil))
                                    have h_times : PP G (ar1 G a 105 120 u14) H := kp hk28 h_times (dj_cons (ne_a ha (by omega)) (dj_nil))
                                    have h_marks : PP G (ar1 G a 106 120 mf) H := kp hk28 h_marks (dj_cons (ne_a ha (by omega)) (dj_nil))
                                    have h_old : PP G (ar1 G a 107 120 of) H := kp hk28 h_old (dj_cons (ne_a ha (by omega)) (dj_nil))
                                    refine lv_iinc (v := nI (k + 1)) (lv' := [(10, .int (nI (k + 1))), (8, .int (nI (tkZ (Ns z) dl n0 n1 q + rZ (Ns z) dl n0 n1 q k + (if (∃ r, r < nO (Ns z) ∧ nU (Ns z) r = k) then 1 else 0)))), (7, .int (nI q)), (6, .int (nI ((tkX (Ns z) dl n0 n1 q + rX (Ns z) dl n0 n1 q k) + 1))), (16, .int (bi (wp (Ns z) dl n0 n1 k q))), (12, .int (bi (wv (Ns z) dl n0 n1 k q))), (15, .int (bi (wv (Ns z) dl n0 n1 (nS (Ns z) k) (q - dl (nK (Ns z) k))))), (14, .int (bi (wv (Ns z) dl n0 n1 (nF (Ns z) k) (q - dl (nK (Ns z) k))))), (13, .int (nI (q - dl (nK (Ns z) k)))), (11, .int (nI ((120 * z) + k))), (0, .ref (a 93)), (1, .int (nI z)), (2, .int (nI n0)), (3, .int (nI n1)), (4, .int (nI w)), (5, .int (nI (mxT (Ns z) dl (nG (Ns z))))), (9, .int (nI q))]) hx hb dX12_tellsChanges_463 hl (k := 16) rfl (by first | exact nI_add _ 1 | decide) (by decide) rfl (fun ls hl => ?_)
                                    refine lv_goto (tgt := 174) hx hb dX12_tellsChanges_466 (by decide) ?_
                                    exact ih20 (k + 1) (upd pg ((120 * (q % 10)) + k) (bi (wv (Ns z) dl n0 n1 k q))) _ _ _ ⟨h_o, h_bits, h_times, h_marks, h_old, h_past, hS, (by have h9 := r_y (N := (Ns z)) (dl := dl) (n0 := n0) (n1 := n1) (t := q) (x := tkX (Ns z) dl n0 n1 q) (y := tkY (Ns z) dl n0 n1 q) (z := tkZ (Ns z) dl n0 n1 q) (k := k) ⟨c211, fun q => c395 (congrArg bi q)⟩; rw [h9.1, h9.2.1, h9.2.2, Nat.max_eq_right hry]; exact lv_sub hl [10, 11, 12, 13, 14, 15, 3, 2, 1, 16, 0] rfl), by omega, RG_s hG c182 hg9⟩ (by show nG (Ns z) - (k + 1) < nG (Ns z) - k; omega)
                                  · skip
                                    first | exact absurd c428 c395 | exact absurd c395 c428
                                · skip
                                  first | exact absurd c410 c395 | exact absurd c395 c410
                              · skip
                                refine lv_iconst (v := nI 0) hx hb dX12_tellsChanges_398 (by decide) ?_
                                refine lv_goto (tgt := 403) hx hb dX12_tellsChanges_399 (by decide) ?_
                                refine lv_iadd hx hb dX12_tellsChanges_403 ?_
                                refine lv_as (nI_add _ _) ?_
                                refine lv_istore (lv' := [(6, .int (nI ((tkX (Ns z) dl n0 n1 q + rX (Ns z) dl n0 n1 q k) + 0))), (16, .int (bi (wp (Ns z) dl n0 n1 k q))), (12, .int (bi (wv (Ns z) dl n0 n1 k q))), (15, .int (bi (wv (Ns z) dl n0 n1 (nS (Ns z) k) (q - dl (nK (Ns z) k))))), (14, .int (bi (wv (Ns z) dl n0 n1 (nF (Ns z) k) (q - dl (nK (Ns z) k))))), (13, .int (nI (q - dl (nK (Ns z) k)))), (11, .int (nI ((120 * z) + k))), (0, .ref (a 93)), (1, .int (nI z)), (2, .int (nI n0)), (3, .int (nI n1)), (4, .int (nI w)), (5, .int (nI (mxT (Ns z) dl (nG (Ns z))))), (7, .int (nI (rY (Ns z) dl n0 n1 q (tkY (Ns z) dl n0 n1 q) k))), (8, .int (nI (tkZ (Ns z) dl n0 n1 q + rZ (Ns z) dl n0 n1 q k))), (9, .int (nI q)), (10, .int (nI k))]) hx hb dX12_tellsChanges_404 hl (by decide) rfl (fun ls hl => ?_)
                                refine lv_iload hx hb dX12_tellsChanges_406 (lv_at hl 2 rfl) ?_
                                refine lv_iload hx hb dX12_tellsChanges_408 (lv_at hl 1 rfl) ?_
                                refine lv_icmp_ne (tgt := 418) hx hb dX12_tellsChanges_410 (by decide) (fun c410 => ?_) (fun c410 => ?_)
                                · skip
                                  first | exact absurd c410 c395 | exact absurd c395 c410
                                · skip
                                  refine lv_iload hx hb dX12_tellsChanges_413 (lv_at hl 13 rfl) ?_
                                  refine lv_goto (tgt := 420) hx hb dX12_tellsChanges_415 (by decide) ?_
                                  refine lv_istore (lv' := [(7, .int (nI (rY (Ns z) dl n0 n1 q (tkY (Ns z) dl n0 n1 q) k))), (6, .int (nI ((tkX (Ns z) dl n0 n1 q + rX (Ns z) dl n0 n1 q k) + 0))), (16, .int (bi (wp (Ns z) dl n0 n1 k q))), (12, .int (bi (wv (Ns z) dl n0 n1 k q))), (15, .int (bi (wv (Ns z) dl n0 n1 (nS (Ns z) k) (q - dl (nK (Ns z) k))))), (14, .int (bi (wv (Ns z) dl n0 n1 (nF (Ns z) k) (q - dl (nK (Ns z) k))))), (13, .int (nI (q - dl (nK (Ns z) k)))), (11, .int (nI ((120 * z) + k))), (0, .ref (a 93)), (1, .int (nI z)), (2, .int (nI n0)), (3, .int (nI n1)), (4, .int (nI w)), (5, .int (nI (mxT (Ns z) dl (nG (Ns z))))), (8, .int (nI (tkZ (Ns z) dl n0 n1 q + rZ (Ns z) dl n0 n1 q k))), (9, .int (nI q)), (10, .int (nI k))]) hx hb dX12_tellsChanges_420 hl (by decide) rfl (fun ls hl => ?_)
                                  refine lv_iload hx hb dX12_tellsChanges_422 (lv_at hl 14 rfl) ?_
                                  refine lv_iload hx hb dX12_tellsChanges_424 (lv_at hl 3 rfl) ?_
                                  refine lv_iload hx hb dX12_tellsChanges_426 (lv_at hl 2 rfl) ?_
                                  refine lv_icmp_ne (tgt := 435) hx hb dX12_tellsChanges_428 (by decide) (fun c428 => ?_) (fun c428 => ?_)
                                  · skip
                                    first | exact absurd c428 c395 | exact absurd c395 c428
                                  · skip
                                    refine lv_iconst (v := nI 0) hx hb dX12_tellsChanges_431 (by decide) ?_
                                    refine lv_goto (tgt := 442) hx hb dX12_tellsChanges_432 (by decide) ?_
                                    refine lv_iadd hx hb dX12_tellsChanges_442 ?_
                                    refine lv_as (nI_add _ _) ?_
                                    refine lv_istore (lv' := [(8, .int (nI ((tkZ (Ns z) dl n0 n1 q + rZ (Ns z) dl n0 n1 q k) + 0))), (7, .int (nI (rY (Ns z) dl n0 n1 q (tkY (Ns z) dl n0 n1 q) k))), (6, .int (nI ((tkX (Ns z) dl n0 n1 q + rX (Ns z) dl n0 n1 q k) + 0))), (16, .int (bi (wp (Ns z) dl n0 n1 k q))), (12, .int (bi (wv (Ns z) dl n0 n1 k q))), (15, .int (bi (wv (Ns z) dl n0 n1 (nS (Ns z) k) (q - dl (nK (Ns z) k))))), (14, .int (bi (wv (Ns z) dl n0 n1 (nF (Ns z) k) (q - dl (nK (Ns z) k))))), (13, .int (nI (q - dl (nK (Ns z) k)))), (11, .int (nI ((120 * z) + k))), (0, .ref (a 93)), (1, .int (nI z)), (2, .int (nI n0)), (3, .int (nI n1)), (4, .int (nI w)), (5, .int (nI (mxT (Ns z) dl (nG (Ns z))))), (9, .int (nI q)), (10, .int (nI k))]) hx hb dX12_tellsChanges_443 hl (by decide) rfl (fun ls hl => ?_)
                                    refine lv_aload_n hx hb dX12_tellsChanges_445 rfl (lv_at hl 9 rfl) ?_
                                    refine va_get (D := G.1) (ci := 12) (v := .ref (a 108)) (C := RX12) (T := TX12) (N := 23) hx hb hts inX12_tellsChanges_12 hown hK h_o 0 rfl rfl 14 (by decide) (hts (.fieldLink RX12 52 "GateLedgerModel" "past" "[I") (List.mem_of_getElem? (i := 11) (by decide +kernel))) (fun _ h9 => h9) rfl dX12_tellsChanges_446 ?_
                                    refine lv_bipush (v := nI 120) hx hb dX12_tellsChanges_449 (by decide) ?_
                                    refine lv_iload hx hb dX12_tellsChanges_451 (lv_at hl 15 rfl) ?_
                                    refine lv_bipush (v := nI 10) hx hb dX12_tellsChanges_453 (by decide) ?_
                                    refine lv_irem hx hb dX12_tellsChanges_455 (nI_ne0 (by omega) (by omega)) ?_
                                    refine lv_as (pk_rem (by omega) (by omega) (by omega)) ?_
                                    refine lv_imul hx hb dX12_tellsChanges_456 ?_
                                    refine lv_as (pk_mul _ _) ?_
                                    refine lv_iload hx hb dX12_tellsChanges_457 (lv_at hl 16 rfl) ?_
                                    refine lv_iadd hx hb dX12_tellsChanges_459 ?_
                                    refine lv_as (nI_add _ _) ?_
                                    refine lv_iload hx hb dX12_tellsChanges_460 (lv_at hl 4 rfl) ?_
                                    refine pp_iast hx hb hK h_past hS (Or.inr (rng_in (by omega))) (vp_in_nI (by omega) (by omega)) dX12_tellsChanges_462 (fun H locs hP9 hk29 _ hS => ?_)
                                    rw [nI_clamp (by omega)] at hP9
                                    have h_past : PP G (ar1 G a 108 1200 (upd pg ((120 * (q % 10)) + k) (bi (wv (Ns z) dl n0 n1 k q)))) H := hP9
                                    have h_o : PP G (modO a cy (nI 0)) H := kp hk29 h_o (dj_cons (ne_a ha (by omega)) (dj_nil))
                                    have h_bits : PP G (ar1 G a 104 120 u10) H := kp hk29 h_bits (dj_cons (ne_a ha (by omega)) (dj_nil))
                                    have h_times : PP G (ar1 G a 105 120 u14) H := kp hk29 h_times (dj_cons (ne_a ha (by omega)) (dj_nil))
                                    have h_marks : PP G (ar1 G a 106 120 mf) H := kp hk29 h_marks (dj_cons (ne_a ha (by omega)) (dj_nil))
                                    have h_old : PP G (ar1 G a 107 120 of) H := kp hk29 h_old (dj_cons (ne_a ha (by omega)) (dj_nil))
                                    refine lv_iinc (v := nI (k + 1)) (lv' := [(10, .int (nI (k + 1))), (8, .int (nI ((tkZ (Ns z) dl n0 n1 q + rZ (Ns z) dl n0 n1 q k) + 0))), (7, .int (nI (rY (Ns z) dl n0 n1 q (tkY (Ns z) dl n0 n1 q) k))), (6, .int (nI ((tkX (Ns z) dl n0 n1 q + rX (Ns z) dl n0 n1 q k) + 0))), (16, .int (bi (wp (Ns z) dl n0 n1 k q))), (12, .int (bi (wv (Ns z) dl n0 n1 k q))), (15, .int (bi (wv (Ns z) dl n0 n1 (nS (Ns z) k) (q - dl (nK (Ns z) k))))), (14, .int (bi (wv (Ns z) dl n0 n1 (nF (Ns z) k) (q - dl (nK (Ns z) k))))), (13, .int (nI (q - dl (nK (Ns z) k)))), (11, .int (nI ((120 * z) + k))), (0, .ref (a 93)), (1, .int (nI z)), (2, .int (nI n0)), (3, .int (nI n1)), (4, .int (nI w)), (5, .int (nI (mxT (Ns z) dl (nG (Ns z))))), (9, .int (nI q))]) hx hb dX12_tellsChanges_463 hl (k := 16) rfl (by first | exact nI_add _ 1 | decide) (by decide) rfl (fun ls hl => ?_)
                                    refine lv_goto (tgt := 174) hx hb dX12_tellsChanges_466 (by decide) ?_
                                    exact ih20 (k + 1) (upd pg ((120 * (q % 10)) + k) (bi (wv (Ns z) dl n0 n1 k q))) _ _ _ ⟨h_o, h_bits, h_times, h_marks, h_old, h_past, hS, (by have h9 := r_n (N := (Ns z)) (dl := dl) (n0 := n0) (n1 := n1) (t := q) (x := tkX (Ns z) dl n0 n1 q) (y := tkY (Ns z) dl n0 n1 q) (z := tkZ (Ns z) dl n0 n1 q) (k := k) (fun q => q.2 (bi_inj c395)); rw [h9.1, h9.2.1, h9.2.2]; exact lv_sub hl [10, 11, 12, 13, 14, 15, 3, 2, 1, 16, 0] rfl), by omega, RG_s hG c182 hg9⟩ (by show nG (Ns z) - (k + 1) < nG (Ns z) - k; omega)
                        · skip
                          first | exact absurd c276 c233 | exact absurd c233 c276
                      · skip
                        have hqn : ¬ dl (nK (Ns z) k) ≤ q := fun q9 => c233 ((sub_ge (by omega) (by omega)).mpr q9)
                        have hqd : q < dl (nK (Ns z) k) := by omega
                        refine lv_aload_n hx hb dX12_tellsChanges_236 rfl (lv_at hl 3 rfl) ?_
                        refine va_get (D := G.1) (ci := 12) (v := .ref (a 107)) (C := RX12) (T := TX12) (N := 23) hx hb hts inX12_tellsChanges_12 hown hK h_o 0 rfl rfl 13 (by decide) (hts (.fieldLink RX12 49 "GateLedgerModel" "old" "[I") (List.mem_of_getElem? (i := 3) (by decide +kernel))) (fun _ h9 => h9) rfl dX12_tellsChanges_237 ?_
                        refine lv_aload_n hx hb dX12_tellsChanges_240 rfl (lv_at hl 3 rfl) ?_
                        refine va_get (D := G.1) (ci := 12) (v := .ref (a 95)) (C := RX12) (T := TX12) (N := 23) hx hb hts inX12_tellsChanges_12 hown hK h_o 0 rfl rfl 1 (by decide) (hts (.fieldLink RX12 13 "GateLedgerModel" "first" "[I") (List.mem_of_getElem? (i := 10) (by decide +kernel))) (fun _ h9 => h9) rfl dX12_tellsChanges_241 ?_
                        refine lv_iload hx hb dX12_tellsChanges_244 (lv_at hl 2 rfl) ?_
                        refine pp_iald hx hb hK (ro hS h_x (dj_cons (or_no (rng_no ha (by omega)) (rng_no ha (by omega))) (dj_cons (or_no (rng_no ha (by omega)) (rng_no ha (by omega))) (dj_cons (or_no (rng_no ha (by omega)) (rng_no ha (by omega))) (dj_cons (or_no (rng_no ha (by omega)) (rng_no ha (by omega))) (dj_cons (or_no (rng_no ha (by omega)) (rng_no ha (by omega))) (dj_cons (or_no (rng_no ha (by omega)) (rng_no ha (by omega))) (dj_nil)))))))) 1 rfl (vp_in_nI (by omega) (by omega)) dX12_tellsChanges_246 ?_
                        refine lv_as (congrArg fs (nI_clamp (by omega))) ?_
                        refine lv_as (y := nI (nF (Ns z) k)) ((hFS z hz k (by omega) c182 c211).1) ?_
                        refine pp_iald hx hb hK h_old 0 rfl (vp_in_nI (by omega) (by omega)) dX12_tellsChanges_247 ?_
                        refine lv_as (congrArg of (nI_clamp (by omega))) ?_
                        refine lv_as (y := bi (bt (Ns z) n0 (nF (Ns z) k))) (ho4 _ (by omega)) ?_
                        refine lv_goto (tgt := 272) hx hb dX12_tellsChanges_248 (by decide) ?_
                        refine lv_istore (lv' := [(14, .int (bi (bt (Ns z) n0 (nF (Ns z) k)))), (13, .int ((nI q) - (nI (dl (nK (Ns z) k))))), (12, .int (bi (bt (Ns z) n1 k))), (11, .int (nI ((120 * z) + k))), (0, .ref (a 93)), (1, .int (nI z)), (2, .int (nI n0)), (3, .int (nI n1)), (4, .int (nI w)), (5, .int (nI (mxT (Ns z) dl (nG (Ns z))))), (6, .int (nI (tkX (Ns z) dl n0 n1 q + rX (Ns z) dl n0 n1 q k))), (7, .int (nI (rY (Ns z) dl n0 n1 q (tkY (Ns z) dl n0 n1 q) k))), (8, .int (nI (tkZ (Ns z) dl n0 n1 q + rZ (Ns z) dl n0 n1 q k))), (9, .int (nI q)), (10, .int (nI k))]) hx hb dX12_tellsChanges_272 hl (by decide) rfl (fun ls hl => ?_)
                        refine lv_iload hx hb dX12_tellsChanges_274 (lv_at hl 1 rfl) ?_
                        refine lv_if_ge (tgt := 294) hx hb dX12_tellsChanges_276 (by decide) (fun c276 => ?_) (fun c276 => ?_)
                        · skip
                          first | exact absurd c276 c233 | exact absurd c233 c276
                        · skip
                          refine lv_aload_n hx hb dX12_tellsChanges_279 rfl (lv_at hl 4 rfl) ?_
                          refine va_get (D := G.1) (ci := 12) (v := .ref (a 107)) (C := RX12) (T := TX12) (N := 23) hx hb hts inX12_tellsChanges_12 hown hK h_o 0 rfl rfl 13 (by decide) (hts (.fieldLink RX12 49 "GateLedgerModel" "old" "[I") (List.mem_of_getElem? (i := 3) (by decide +kernel))) (fun _ h9 => h9) rfl dX12_tellsChanges_280 ?_
                          refine lv_aload_n hx hb dX12_tellsChanges_283 rfl (lv_at hl 4 rfl) ?_
                          refine va_get (D := G.1) (ci := 12) (v := .ref (a 96)) (C := RX12) (T := TX12) (N := 23) hx hb hts inX12_tellsChanges_12 hown hK h_o 0 rfl rfl 2 (by decide) (hts (.fieldLink RX12 16 "GateLedgerModel" "second" "[I") (List.mem_of_getElem? (i := 12) (by decide +kernel))) (fun _ h9 => h9) rfl dX12_tellsChanges_284 ?_
                          refine lv_iload hx hb dX12_tellsChanges_287 (lv_at hl 3 rfl) ?_
                          refine pp_iald hx hb hK (ro hS h_x (dj_cons (or_no (rng_no ha (by omega)) (rng_no ha (by omega))) (dj_cons (or_no (rng_no ha (by omega)) (rng_no ha (by omega))) (dj_cons (or_no (rng_no ha (by omega)) (rng_no ha (by omega))) (dj_cons (or_no (rng_no ha (by omega)) (rng_no ha (by omega))) (dj_cons (or_no (rng_no ha (by omega)) (rng_no ha (by omega))) (dj_cons (or_no (rng_no ha (by omega)) (rng_no ha (by omega))) (dj_nil)))))))) 2 rfl (vp_in_nI (by omega) (by omega)) dX12_tellsChanges_289 ?_
                          refine lv_as (congrArg sc (nI_clamp (by omega))) ?_
                          refine lv_as (y := nI (nS (Ns z) k)) ((hFS z hz k (by omega) c182 c211).2) ?_
                          refine pp_iald hx hb hK h_old 0 rfl (vp_in_nI (by omega) (by omega)) dX12_tellsChanges_290 ?_
                          refine lv_as (congrArg of (nI_clamp (by omega))) ?_
                          refine lv_as (y := bi (bt (Ns z) n0 (nS (Ns z) k))) (ho4 _ (by omega)) ?_
                          refine lv_goto (tgt := 315) hx hb dX12_tellsChanges_291 (by decide) ?_
                          refine lv_istore (lv' := [(15, .int (bi (bt (Ns z) n0 (nS (Ns z) k)))), (14, .int (bi (bt (Ns z) n0 (nF (Ns z) k)))), (13, .int ((nI q) - (nI (dl (nK (Ns z) k))))), (12, .int (bi (bt (Ns z) n1 k))), (11, .int (nI ((120 * z) + k))), (0, .ref (a 93)), (1, .int (nI z)), (2, .int (nI n0)), (3, .int (nI n1)), (4, .int (nI w)), (5, .int (nI (mxT (Ns z) dl (nG (Ns z))))), (6, .int (nI (tkX (Ns z) dl n0 n1 q + rX (Ns z) dl n0 n1 q k))), (7, .int (nI (rY (Ns z) dl n0 n1 q (tkY (Ns z) dl n0 n1 q) k))), (8, .int (nI (tkZ (Ns z) dl n0 n1 q + rZ (Ns z) dl n0 n1 q k))), (9, .int (nI q)), (10, .int (nI k))]) hx hb dX12_tellsChanges_315 hl (by decide) rfl (fun ls hl => ?_)
                          refine lv_aload_n hx hb dX12_tellsChanges_317 rfl (lv_at hl 5 rfl) ?_
                          refine va_get (D := G.1) (ci := 12) (v := .ref (a 97)) (C := RX12) (T := TX12) (N := 23) hx hb hts inX12_tellsChanges_12 hown hK h_o 0 rfl rfl 3 (by decide) (hts (.fieldLink RX12 19 "GateLedgerModel" "stuck" "[I") (List.mem_of_getElem? (i := 13) (by decide +kernel))) (fun _ h9 => h9) rfl dX12_tellsChanges_318 ?_
                          refine lv_iload hx hb dX12_tellsChanges_321 (lv_at hl 4 rfl) ?_
                          refine pp_iald hx hb hK (ro hS h_x (dj_cons (or_no (rng_no ha (by omega)) (rng_no ha (by omega))) (dj_cons (or_no (rng_no ha (by omega)) (rng_no ha (by omega))) (dj_cons (or_no (rng_no ha (by omega)) (rng_no ha (by omega))) (dj_cons (or_no (rng_no ha (by omega)) (rng_no ha (by omega))) (dj_cons (or_no (rng_no ha (by omega)) (rng_no ha (by omega))) (dj_cons (or_no (rng_no ha (by omega)) (rng_no ha (by omega))) (dj_nil)))))))) 3 rfl (vp_in_nI (by omega) (by omega)) dX12_tellsChanges_323 ?_
                          refine lv_as (congrArg (TF Ns) (nI_clamp (by omega))) ?_
                          refine lv_as (y := nT (Ns z) k) (TF_at (by omega)) ?_
                          refine lv_iconst (v := -1) hx hb dX12_tellsChanges_324 (by decide) ?_
                          refine lv_icmp_ne (tgt := 345) hx hb dX12_tellsChanges_325 (by decide) (fun c325 => ?_) (fun c325 => ?_)
                          · skip
                            refine lv_aload_n hx hb dX12_tellsChanges_345 rfl (lv_at hl 5 rfl) ?_
                            refine va_get (D := G.1) (ci := 12) (v := .ref (a 97)) (C := RX12) (T := TX12) (N := 23) hx hb hts inX12_tellsChanges_12 hown hK h_o 0 rfl rfl 3 (by decide) (hts (.fieldLink RX12 19 "GateLedgerModel" "stuck" "[I") (List.mem_of_getElem? (i := 13) (by decide +kernel))) (fun _ h9 => h9) rfl dX12_tellsChanges_346 ?_
                            refine lv_iload hx hb dX12_tellsChanges_349 (lv_at hl 4 rfl) ?_
                            refine pp_iald hx hb hK (ro hS h_x (dj_cons (or_no (rng_no ha (by omega)) (rng_no ha (by omega))) (dj_cons (or_no (rng_no ha (by omega)) (rng_no ha (by omega))) (dj_cons (or_no (rng_no ha (by omega)) (rng_no ha (by omega))) (dj_cons (or_no (rng_no ha (by omega)) (rng_no ha (by omega))) (dj_cons (or_no (rng_no ha (by omega)) (rng_no ha (by omega))) (dj_cons (or_no (rng_no ha (by omega)) (rng_no ha (by omega))) (dj_nil)))))))) 3 rfl (vp_in_nI (by omega) (by omega)) dX12_tellsChanges_351 ?_
                            refine lv_as (congrArg (TF Ns) (nI_clamp (by omega))) ?_
                            refine lv_as (y := nT (Ns z) k) (TF_at (by omega)) ?_
                            refine lv_as (y := bi (wv (Ns z) dl n0 n1 k q)) ((bi_bt hN c182 c325).trans (congrArg bi (wv_giv (Or.inl c325) q).symm)) ?_
                            refine lv_istore (lv' := [(12, .int (bi (wv (Ns z) dl n0 n1 k q))), (15, .int (bi (bt (Ns z) n0 (nS (Ns z) k)))), (14, .int (bi (bt (Ns z) n0 (nF (Ns z) k)))), (13, .int ((nI q) - (nI (dl (nK (Ns z) k))))), (11, .int (nI ((120 * z) + k))), (0, .ref (a 93)), (1, .int (nI z)), (2, .int (nI n0)), (3, .int (nI n1)), (4, .int (nI w)), (5, .int (nI (mxT (Ns z) dl (nG (Ns z))))), (6, .int (nI (tkX (Ns z) dl n0 n1 q + rX (Ns z) dl n0 n1 q k))), (7, .int (nI (rY (Ns z) dl n0 n1 q (tkY (Ns z) dl n0 n1 q) k))), (8, .int (nI (tkZ (Ns z) dl n0 n1 q + rZ (Ns z) dl n0 n1 q k))), (9, .int (nI q)), (10, .int (nI k))]) hx hb dX12_tellsChanges_352 hl (by decide) rfl (fun ls hl => ?_)
                            refine lv_iload hx hb dX12_tellsChanges_354 (lv_at hl 14 rfl) ?_
                            refine lv_if_ne (tgt := 369) hx hb dX12_tellsChanges_356 (by decide) (fun c356 => ?_) (fun c356 => ?_)
                            · skip
                              have c356 := cv_ne (by omega) (by omega) (show ¬ nI q = nI 0 from c356)
                              refine lv_aload_n hx hb dX12_tellsChanges_369 rfl (lv_at hl 5 rfl) ?_
                              refine va_get (D := G.1) (ci := 12) (v := .ref (a 108)) (C := RX12) (T := TX12) (N := 23) hx hb hts inX12_tellsChanges_12 hown hK h_o 0 rfl rfl 14 (by decide) (hts (.fieldLink RX12 52 "GateLedgerModel" "past" "[I") (List.mem_of_getElem? (i := 11) (by decide +kernel))) (fun _ h9 => h9) rfl dX12_tellsChanges_370 ?_
                              refine lv_bipush (v := nI 120) hx hb dX12_tellsChanges_373 (by decide) ?_
                              refine lv_iload hx hb dX12_tellsChanges_375 (lv_at hl 14 rfl) ?_
                              refine lv_iconst (v := nI 1) hx hb dX12_tellsChanges_377 (by decide) ?_
                              refine lv_isub hx hb dX12_tellsChanges_378 ?_
                              refine lv_as (y := nI (q - 1)) (pk_sub (by omega)) ?_
                              refine lv_bipush (v := nI 10) hx hb dX12_tellsChanges_379 (by decide) ?_
                              refine lv_irem hx hb dX12_tellsChanges_381 (nI_ne0 (by omega) (by omega)) ?_
                              refine lv_as (pk_rem (by omega) (by omega) (by omega)) ?_
                              refine lv_imul hx hb dX12_tellsChanges_382 ?_
                              refine lv_as (pk_mul _ _) ?_
                              refine lv_iload hx hb dX12_tellsChanges_383 (lv_at hl 15 rfl) ?_
                              refine lv_iadd hx hb dX12_tellsChanges_385 ?_
                              refine lv_as (nI_add _ _) ?_
                              refine pp_iald hx hb hK h_past 0 rfl (vp_in_nI (by omega) (by omega)) dX12_tellsChanges_386 ?_
                              refine lv_as (congrArg pg (nI_clamp (by omega))) ?_
                              refine lv_as (y := bi (wp (Ns z) dl n0 n1 k q)) ((hG (q - 1) (k) (by omega) (by omega)).trans (congrArg bi (wp_s c356).symm)) ?_
                              refine lv_istore (lv' := [(16, .int (bi (wp (Ns z) dl n0 n1 k q))), (12, .int (bi (wv (Ns z) dl n0 n1 k q))), (15, .int (bi (bt (Ns z) n0 (nS (Ns z) k)))), (14, .int (bi (bt (Ns z) n0 (nF (Ns z) k)))), (13, .int ((nI q) - (nI (dl (nK (Ns z) k))))), (11, .int (nI ((120 * z) + k))), (0, .ref (a 93)), (1, .int (nI z)), (2, .int (nI n0)), (3, .int (nI n1)), (4, .int (nI w)), (5, .int (nI (mxT (Ns z) dl (nG (Ns z))))), (6, .int (nI (tkX (Ns z) dl n0 n1 q + rX (Ns z) dl n0 n1 q k))), (7, .int (nI (rY (Ns z) dl n0 n1 q (tkY (Ns z) dl n0 n1 q) k))), (8, .int (nI (tkZ (Ns z) dl n0 n1 q + rZ (Ns z) dl n0 n1 q k))), (9, .int (nI q)), (10, .int (nI k))]) hx hb dX12_tellsChanges_387 hl (by decide) rfl (fun ls hl => ?_)
                              refine lv_iload hx hb dX12_tellsChanges_389 (lv_at hl 12 rfl) ?_
                              refine lv_iload hx hb dX12_tellsChanges_391 (lv_at hl 1 rfl) ?_
                              refine lv_iload hx hb dX12_tellsChanges_393 (lv_at hl 0 rfl) ?_
                              refine lv_icmp_ne (tgt := 402) hx hb dX12_tellsChanges_395 (by decide) (fun c395 => ?_) (fun c395 => ?_)
                              · skip
                                refine lv_iconst (v := nI 1) hx hb dX12_tellsChanges_402 (by decide) ?_
                                refine lv_iadd hx hb dX12_tellsChanges_403 ?_
                                refine lv_as (nI_add _ _) ?_
                                refine lv_istore (lv' := [(6, .int (nI ((tkX (Ns z) dl n0 n1 q + rX (Ns z) dl n0 n1 q k) + 1))), (16, .int (bi (wp (Ns z) dl n0 n1 k q))), (12, .int (bi (wv (Ns z) dl n0 n1 k q))), (15, .int (bi (bt (Ns z) n0 (nS (Ns z) k)))), (14, .int (bi (bt (Ns z) n0 (nF (Ns z) k)))), (13, .int ((nI q) - (nI (dl (nK (Ns z) k))))), (11, .int (nI ((120 * z) + k))), (0, .ref (a 93)), (1, .int (nI z)), (2, .int (nI n0)), (3, .int (nI n1)), (4, .int (nI w)), (5, .int (nI (mxT (Ns z) dl (nG (Ns z))))), (7, .int (nI (rY (Ns z) dl n0 n1 q (tkY (Ns z) dl n0 n1 q) k))), (8, .int (nI (tkZ (Ns z) dl n0 n1 q + rZ (Ns z) dl n0 n1 q k))), (9, .int (nI q)), (10, .int (nI k))]) hx hb dX12_tellsChanges_404 hl (by decide) rfl (fun ls hl => ?_)
                                refine lv_iload hx hb dX12_tellsChanges_406 (lv_at hl 2 rfl) ?_
                                refine lv_iload hx hb dX12_tellsChanges_408 (lv_at hl 1 rfl) ?_
                                refine lv_icmp_ne (tgt := 418) hx hb dX12_tellsChanges_410 (by decide) (fun c410 => ?_) (fun c410 => ?_)
                                · skip
                                  refine lv_iload hx hb dX12_tellsChanges_418 (lv_at hl 15 rfl) ?_
                                  refine lv_istore (lv' := [(7, .int (nI q)), (6, .int (nI ((tkX (Ns z) dl n0 n1 q + rX (Ns z) dl n0 n1 q k) + 1))), (16, .int (bi (wp (Ns z) dl n0 n1 k q))), (12, .int (bi (wv (Ns z) dl n0 n1 k q))), (15, .int (bi (bt (Ns z) n0 (nS (Ns z) k)))), (14, .int (bi (bt (Ns z) n0 (nF (Ns z) k)))), (13, .int ((nI q) - (nI (dl (nK (Ns z) k))))), (11, .int (nI ((120 * z) + k))), (0, .ref (a 93)), (1, .int (nI z)), (2, .int (nI n0)), (3, .int (nI n1)), (4, .int (nI w)), (5, .int (nI (mxT (Ns z) dl (nG (Ns z))))), (8, .int (nI (tkZ (Ns z) dl n0 n1 q + rZ (Ns z) dl n0 n1 q k))), (9, .int (nI q)), (10, .int (nI k))]) hx hb dX12_tellsChanges_420 hl (by decide) rfl (fun ls hl => ?_)
                                  refine lv_iload hx hb dX12_tellsChanges_422 (lv_at hl 14 rfl) ?_
                                  refine lv_iload hx hb dX12_tellsChanges_424 (lv_at hl 3 rfl) ?_
                                  refine lv_iload hx hb dX12_tellsChanges_426 (lv_at hl 2 rfl) ?_
                                  refine lv_icmp_ne (tgt := 435) hx hb dX12_tellsChanges_428 (by decide) (fun c428 => ?_) (fun c428 => ?_)
                                  · skip
                                    refine lv_aload_n hx hb dX12_tellsChanges_435 rfl (lv_at hl 8 rfl) ?_
                                    refine va_get (D := G.1) (ci := 12) (v := .ref (a 106)) (C := RX12) (T := TX12) (N := 23) hx hb hts inX12_tellsChanges_12 hown hK h_o 0 rfl rfl 12 (by decide) (hts (.fieldLink RX12 46 "GateLedgerModel" "marks" "[I") (List.mem_of_getElem? (i := 5) (by decide +kernel))) (fun _ h9 => h9) rfl dX12_tellsChanges_436 ?_
                                    refine lv_iload hx hb dX12_tellsChanges_439 (lv_at hl 16 rfl) ?_
                                    refine pp_iald hx hb hK h_marks 0 rfl (vp_in_nI (by omega) (by omega)) dX12_tellsChanges_441 ?_
                                    refine lv_as (congrArg mf (nI_clamp (by omega))) ?_
                                    refine lv_as (y := bi (ouT (Ns z) (nO (Ns z)) k)) (hm4 _ c182) ?_
                                    refine lv_iadd hx hb dX12_tellsChanges_442 ?_
                                    refine lv_as (y := nI (tkZ (Ns z) dl n0 n1 q + rZ (Ns z) dl n0 n1 q k + (if (∃ r, r < nO (Ns z) ∧ nU (Ns z) r = k) then 1 else 0))) ((congrArg (fun q9 : Int32 => nI (tkZ (Ns z) dl n0 n1 q + rZ (Ns z) dl n0 n1 q k) + q9) (ou_if _)).trans (nI_add _ _)) ?_
                                    refine lv_istore (lv' := [(8, .int (nI (tkZ (Ns z) dl n0 n1 q + rZ (Ns z) dl n0 n1 q k + (if (∃ r, r < nO (Ns z) ∧ nU (Ns z) r = k) then 1 else 0)))), (7, .int (nI q)), (6, .int (nI ((tkX (Ns z) dl n0 n1 q + rX (Ns z) dl n0 n1 q k) + 1))), (16, .int (bi (wp (Ns z) dl n0 n1 k q))), (12, .int (bi (wv (Ns z) dl n0 n1 k q))), (15, .int (bi (bt (Ns z) n0 (nS (Ns z) k)))), (14, .int (bi (bt (Ns z) n0 (nF (Ns z) k)))), (13, .int ((nI q) - (nI (dl (nK (Ns z) k))))), (11, .int (nI ((120 * z) + k))), (0, .ref (a 93)), (1, .int (nI z)), (2, .int (nI n0)), (3, .int (nI n1)), (4, .int (nI w)), (5, .int (nI (mxT (Ns z) dl (nG (Ns z))))), (9, .int (nI q)), (10, .int (nI k))]) hx hb dX12_tellsChanges_443 hl (by decide) rfl (fun ls hl => ?_)
                                    refine lv_aload_n hx hb dX12_tellsChanges_445 rfl (lv_at hl 9 rfl) ?_
                                    refine va_get (D := G.1) (ci := 12) (v := .ref (a 108)) (C := RX12) (T := TX12) (N := 23) hx hb hts inX12_tellsChanges_12 hown hK h_o 0 rfl rfl 14 (by decide) (hts (.fieldLink RX12 52 "GateLedgerModel" "past" "[I") (List.mem_of_getElem? (i := 11) (by decide +kernel))) (fun _ h9 => h9) rfl dX12_tellsChanges_446 ?_
                                    refine lv_bipush (v := nI 120) hx hb dX12_tellsChanges_449 (by decide) ?_
                                    refine lv_iload hx hb dX12_tellsChanges_451 (lv_at hl 15 rfl) ?_
                                    refine lv_bipush (v := nI 10) hx hb dX12_tellsChanges_453 (by decide) ?_
                                    refine lv_irem hx hb dX12_tellsChanges_455 (nI_ne0 (by omega) (by omega)) ?_
                                    refine lv_as (pk_rem (by omega) (by omega) (by omega)) ?_
                                    refine lv_imul hx hb dX12_tellsChanges_456 ?_
                                    refine lv_as (pk_mul _ _) ?_
                                    refine lv_iload hx hb dX12_tellsChanges_457 (lv_at hl 16 rfl) ?_
                                    refine lv_iadd hx hb dX12_tellsChanges_459 ?_
                                    refine lv_as (nI_add _ _) ?_
                                    refine lv_iload hx hb dX12_tellsChanges_460 (lv_at hl 4 rfl) ?_
                                    refine pp_iast hx hb hK h_past hS (Or.inr (rng_in (by omega))) (vp_in_nI (by omega) (by omega)) dX12_tellsChanges_462 (fun H locs hP9 hk30 _ hS => ?_)
                                    rw [nI_clamp (by omega)] at hP9
                                    have h_past : PP G (ar1 G a 108 1200 (upd pg ((120 * (q % 10)) + k) (bi (wv (Ns z) dl n0 n1 k q)))) H := hP9
                                    have h_o : PP G (modO a cy (nI 0)) H := kp hk30 h_o (dj_cons (ne_a ha (by omega)) (dj_nil))
                                    have h_bits : PP G (ar1 G a 104 120 u10) H := kp hk30 h_bits (dj_cons (ne_a ha (by omega)) (dj_nil))
                                    have h_times : PP G (ar1 G a 105 120 u14) H := kp hk30 h_times (dj_cons (ne_a ha (by omega)) (dj_nil))
                                    have h_marks : PP G (ar1 G a 106 120 mf) H := kp hk30 h_marks (dj_cons (ne_a ha (by omega)) (dj_nil))
                                    have h_old : PP G (ar1 G a 107 120 of) H := kp hk30 h_old (dj_cons (ne_a ha (by omega)) (dj_nil))
                                    refine lv_iinc (v := nI (k + 1)) (lv' := [(10, .int (nI (k + 1))), (8, .int (nI (tkZ (Ns z) dl n0 n1 q + rZ (Ns z) dl n0 n1 q k + (if (∃ r, r < nO (Ns z) ∧ nU (Ns z) r = k) then 1 else 0)))), (7, .int (nI q)), (6, .int (nI ((tkX (Ns z) dl n0 n1 q + rX (Ns z) dl n0 n1 q k) + 1))), (16, .int (bi (wp (Ns z) dl n0 n1 k q))), (12, .int (bi (wv (Ns z) dl n0 n1 k q))), (15, .int (bi (bt (Ns z) n0 (nS (Ns z) k)))), (14, .int (bi (bt (Ns z) n0 (nF (Ns z) k)))), (13, .int ((nI q) - (nI (dl (nK (Ns z) k))))), (11, .int (nI ((120 * z) + k))), (0, .ref (a 93)), (1, .int (nI z)), (2, .int (nI n0)), (3, .int (nI n1)), (4, .int (nI w)), (5, .int (nI (mxT (Ns z) dl (nG (Ns z))))), (9, .int (nI q))]) hx hb dX12_tellsChanges_463 hl (k := 16) rfl (by first | exact nI_add _ 1 | decide) (by decide) rfl (fun ls hl => ?_)
                                    refine lv_goto (tgt := 174) hx hb dX12_tellsChanges_466 (by decide) ?_
                                    exact ih20 (k + 1) (upd pg ((120 * (q % 10)) + k) (bi (wv (Ns z) dl n0 n1 k q))) _ _ _ ⟨h_o, h_bits, h_times, h_marks, h_old, h_past, hS, (by have h9 := r_y (N := (Ns z)) (dl := dl) (n0 := n0) (n1 := n1) (t := q) (x := tkX (Ns z) dl n0 n1 q) (y := tkY (Ns z) dl n0 n1 q) (z := tkZ (Ns z) dl n0 n1 q) (k := k) ⟨c211, fun q => c395 (congrArg bi q)⟩; rw [h9.1, h9.2.1, h9.2.2, Nat.max_eq_right hry]; exact lv_sub hl [10, 11, 12, 13, 14, 15, 3, 2, 1, 16, 0] rfl), by omega, RG_s hG c182 hg9⟩ (by show nG (Ns z) - (k + 1) < nG (Ns z) - k; omega)
                                  · skip
                                    first | exact absurd c428 c395 | exact absurd c395 c428
                                · skip
                                  first | exact absurd c410 c395 | exact absurd c395 c410
                              · skip
                                refine lv_iconst (v := nI 0) hx hb dX12_tellsChanges_398 (by decide) ?_
                                refine lv_goto (tgt := 403) hx hb dX12_tellsChanges_399 (by decide) ?_
                                refine lv_iadd hx hb dX12_tellsChanges_403 ?_
                                refine lv_as (nI_add _ _) ?_
                                refine lv_istore (lv' := [(6, .int (nI ((tkX (Ns z) dl n0 n1 q + rX (Ns z) dl n0 n1 q k) + 0))), (16, .int (bi (wp (Ns z) dl n0 n1 k q))), (12, .int (bi (wv (Ns z) dl n0 n1 k q))), (15, .int (bi (bt (Ns z) n0 (nS (Ns z) k)))), (14, .int (bi (bt (Ns z) n0 (nF (Ns z) k)))), (13, .int ((nI q) - (nI (dl (nK (Ns z) k))))), (11, .int (nI ((120 * z) + k))), (0, .ref (a 93)), (1, .int (nI z)), (2, .int (nI n0)), (3, .int (nI n1)), (4, .int (nI w)), (5, .int (nI (mxT (Ns z) dl (nG (Ns z))))), (7, .int (nI (rY (Ns z) dl n0 n1 q (tkY (Ns z) dl n0 n1 q) k))), (8, .int (nI (tkZ (Ns z) dl n0 n1 q + rZ (Ns z) dl n0 n1 q k))), (9, .int (nI q)), (10, .int (nI k))]) hx hb dX12_tellsChanges_404 hl (by decide) rfl (fun ls hl => ?_)
                                refine lv_iload hx hb dX12_tellsChanges_406 (lv_at hl 2 rfl) ?_
                                refine lv_iload hx hb dX12_tellsChanges_408 (lv_at hl 1 rfl) ?_
                                refine lv_icmp_ne (tgt := 418) hx hb dX12_tellsChanges_410 (by decide) (fun c410 => ?_) (fun c410 => ?_)
                                · skip
                                  first | exact absurd c410 c395 | exact absurd c395 c410
                                · skip
                                  refine lv_iload hx hb dX12_tellsChanges_413 (lv_at hl 13 rfl) ?_
                                  refine lv_goto (tgt := 420) hx hb dX12_tellsChanges_415 (by decide) ?_
                                  refine lv_istore (lv' := [(7, .int (nI (rY (Ns z) dl n0 n1 q (tkY (Ns z) dl n0 n1 q) k))), (6, .int (nI ((tkX (Ns z) dl n0 n1 q + rX (Ns z) dl n0 n1 q k) + 0))), (16, .int (bi (wp (Ns z) dl n0 n1 k q))), (12, .int (bi (wv (Ns z) dl n0 n1 k q))), (15, .int (bi (bt (Ns z) n0 (nS (Ns z) k)))), (14, .int (bi (bt (Ns z) n0 (nF (Ns z) k)))), (13, .int ((nI q) - (nI (dl (nK (Ns z) k))))), (11, .int (nI ((120 * z) + k))), (0, .ref (a 93)), (1, .int (nI z)), (2, .int (nI n0)), (3, .int (nI n1)), (4, .int (nI w)), (5, .int (nI (mxT (Ns z) dl (nG (Ns z))))), (8, .int (nI (tkZ (Ns z) dl n0 n1 q + rZ (Ns z) dl n0 n1 q k))), (9, .int (nI q)), (10, .int (nI k))]) hx hb dX12_tellsChanges_420 hl (by decide) rfl (fun ls hl => ?_)
                                  refine lv_iload hx hb dX12_tellsChanges_422 (lv_at hl 14 rfl) ?_
                                  refine lv_iload hx hb dX12_tellsChanges_424 (lv_at hl 3 rfl) ?_
                                  refine lv_iload hx hb dX12_tellsChanges_426 (lv_at hl 2 rfl) ?_
                                  refine lv_icmp_ne (tgt := 435) hx hb dX12_tellsChanges_428 (by decide) (fun c428 => ?_) (fun c428 => ?_)
                                  · skip
                                    first | exact absurd c428 c395 | exact absurd c395 c428
                                  · skip
                                    refine lv_iconst (v := nI 0) hx hb dX12_tellsChanges_431 (by decide) ?_
                                    refine lv_goto (tgt := 442) hx hb dX12_tellsChanges_432 (by decide) ?_
                                    refine lv_iadd hx hb dX12_tellsChanges_442 ?_
                                    refine lv_as (nI_add _ _) ?_
                                    refine lv_istore (lv' := [(8, .int (nI ((tkZ (Ns z) dl n0 n1 q + rZ (Ns z) dl n0 n1 q k) + 0))), (7, .int (nI (rY (Ns z) dl n0 n1 q (tkY (Ns z) dl n0 n1 q) k))), (6, .int (nI ((tkX (Ns z) dl n0 n1 q + rX (Ns z) dl n0 n1 q k) + 0))), (16, .int (bi (wp (Ns z) dl n0 n1 k q))), (12, .int (bi (wv (Ns z) dl n0 n1 k q))), (15, .int (bi (bt (Ns z) n0 (nS (Ns z) k)))), (14, .int (bi (bt (Ns z) n0 (nF (Ns z) k)))), (13, .int ((nI q) - (nI (dl (nK (Ns z) k))))), (11, .int (nI ((120 * z) + k))), (0, .ref (a 93)), (1, .int (nI z)), (2, .int (nI n0)), (3, .int (nI n1)), (4, .int (nI w)), (5, .int (nI (mxT (Ns z) dl (nG (Ns z))))), (9, .int (nI q)), (10, .int (nI k))]) hx hb dX12_tellsChanges_443 hl (by decide) rfl (fun ls hl => ?_)
                                    refine lv_aload_n hx hb dX12_tellsChanges_445 rfl (lv_at hl 9 rfl) ?_
                                    refine va_get (D := G.1) (ci := 12) (v := .ref (a 108)) (C := RX12) (T := TX12) (N := 23) hx hb hts inX12_tellsChanges_12 hown hK h_o 0 rfl rfl 14 (by decide) (hts (.fieldLink RX12 52 "GateLedgerModel" "past" "[I") (List.mem_of_getElem? (i := 11) (by decide +kernel))) (fun _ h9 => h9) rfl dX12_tellsChanges_446 ?_
                                    refine lv_bipush (v := nI 120) hx hb dX12_tellsChanges_449 (by decide) ?_
                                    refine lv_iload hx hb dX12_tellsChanges_451 (lv_at hl 15 rfl) ?_
                                    refine lv_bipush (v := nI 10) hx hb dX12_tellsChanges_453 (by decide) ?_
                                    refine lv_irem hx hb dX12_tellsChanges_455 (nI_ne0 (by omega) (by omega)) ?_
                                    refine lv_as (pk_rem (by omega) (by omega) (by omega)) ?_
                                    refine lv_imul hx hb dX12_tellsChanges_456 ?_
                                    refine lv_as (pk_mul _ _) ?_
                                    refine lv_iload hx hb dX12_tellsChanges_457 (lv_at hl 16 rfl) ?_
                                    refine lv_iadd hx hb dX12_tellsChanges_459 ?_
                                    refine lv_as (nI_add _ _) ?_
                                    refine lv_iload hx hb dX12_tellsChanges_460 (lv_at hl 4 rfl) ?_
                                    refine pp_iast hx hb hK h_past hS (Or.inr (rng_in (by omega))) (vp_in_nI (by omega) (by omega)) dX12_tellsChanges_462 (fun H locs hP9 hk31 _ hS => ?_)
                                    rw [nI_clamp (by omega)] at hP9
                                    have h_past : PP G (ar1 G a 108 1200 (upd pg ((120 * (q % 10)) + k) (bi (wv (Ns z) dl n0 n1 k q)))) H := hP9
                                    have h_o : PP G (modO a cy (nI 0)) H := kp hk31 h_o (dj_cons (ne_a ha (by omega)) (dj_nil))
                                    have h_bits : PP G (ar1 G a 104 120 u10) H := kp hk31 h_bits (dj_cons (ne_a ha (by omega)) (dj_nil))
                                    have h_times : PP G (ar1 G a 105 120 u14) H := kp hk31 h_times (dj_cons (ne_a ha (by omega)) (dj_nil))
                                    have h_marks : PP G (ar1 G a 106 120 mf) H := kp hk31 h_marks (dj_cons (ne_a ha (by omega)) (dj_nil))
                                    have h_old : PP G (ar1 G a 107 120 of) H := kp hk31 h_old (dj_cons (ne_a ha (by omega)) (dj_nil))
                                    refine lv_iinc (v := nI (k + 1)) (lv' := [(10, .int (nI (k + 1))), (8, .int (nI ((tkZ (Ns z) dl n0 n1 q + rZ (Ns z) dl n0 n1 q k) + 0))), (7, .int (nI (rY (Ns z) dl n0 n1 q (tkY (Ns z) dl n0 n1 q) k))), (6, .int (nI ((tkX (Ns z) dl n0 n1 q + rX (Ns z) dl n0 n1 q k) + 0))), (16, .int (bi (wp (Ns z) dl n0 n1 k q))), (12, .int (bi (wv (Ns z) dl n0 n1 k q))), (15, .int (bi (bt (Ns z) n0 (nS (Ns z) k)))), (14, .int (bi (bt (Ns z) n0 (nF (Ns z) k)))), (13, .int ((nI q) - (nI (dl (nK (Ns z) k))))), (11, .int (nI ((120 * z) + k))), (0, .ref (a 93)), (1, .int (nI z)), (2, .int (nI n0)), (3, .int (nI n1)), (4, .int (nI w)), (5, .int (nI (mxT (Ns z) dl (nG (Ns z))))), (9, .int (nI q))]) hx hb dX12_tellsChanges_463 hl (k := 16) rfl (by first | exact nI_add _ 1 | decide) (by decide) rfl (fun ls hl => ?_)
                                    refine lv_goto (tgt := 174) hx hb dX12_tellsChanges_466 (by decide) ?_
                                    exact ih20 (k + 1) (upd pg ((120 * (q % 10)) + k) (bi (wv (Ns z) dl n0 n1 k q))) _ _ _ ⟨h_o, h_bits, h_times, h_marks, h_old, h_past, hS, (by have h9 := r_n (N := (Ns z)) (dl := dl) (n0 := n0) (n1 := n1) (t := q) (x := tkX (Ns z) dl n0 n1 q) (y := tkY (Ns z) dl n0 n1 q) (z := tkZ (Ns z) dl n0 n1 q) (k := k) (fun q => q.2 (bi_inj c395)); rw [h9.1, h9.2.1, h9.2.2]; exact lv_sub hl [10, 11, 12, 13, 14, 15, 3, 2, 1, 16, 0] rfl), by omega, RG_s hG c182 hg9⟩ (by show nG (Ns z) - (k + 1) < nG (Ns z) - k; omega)
                            · skip
                              have c356 := cv_eq (by omega) (by omega) (show nI q = nI 0 from c356)
                              refine lv_aload_n hx hb dX12_tellsChanges_359 rfl (lv_at hl 5 rfl) ?_
                              refine va_get (D := G.1) (ci := 12) (v := .ref (a 107)) (C := RX12) (T := TX12) (N := 23) hx hb hts inX12_tellsChanges_12 hown hK h_o 0 rfl rfl 13 (by decide) (hts (.fieldLink RX12 49 "GateLedgerModel" "old" "[I") (List.mem_of_getElem? (i := 3) (by decide +kernel))) (fun _ h9 => h9) rfl dX12_tellsChanges_360 ?_
                              refine lv_iload hx hb dX12_tellsChanges_363 (lv_at hl 15 rfl) ?_
                              refine pp_iald hx hb hK h_old 0 rfl (vp_in_nI (by omega) (by omega)) dX12_tellsChanges_365 ?_
                              refine lv_as (congrArg of (nI_clamp (by omega))) ?_
                              refine lv_as (y := bi (wp (Ns z) dl n0 n1 k q)) ((ho4 _ c182).trans (congrArg bi (wp_0 c356).symm)) ?_
                              refine lv_goto (tgt := 387) hx hb dX12_tellsChanges_366 (by decide) ?_
                              refine lv_istore (lv' := [(16, .int (bi (wp (Ns z) dl n0 n1 k q))), (12, .int (bi (wv (Ns z) dl n0 n1 k q))), (15, .int (bi (bt (Ns z) n0 (nS (Ns z) k)))), (14, .int (bi (bt (Ns z) n0 (nF (Ns z) k)))), (13, .int ((nI q) - (nI (dl (nK (Ns z) k))))), (11, .int (nI ((120 * z) + k))), (0, .ref (a 93)), (1, .int (nI z)), (2, .int (nI n0)), (3, .int (nI n1)), (4, .int (nI w)), (5, .int (nI (mxT (Ns z) dl (nG (Ns z))))), (6, .int (nI (tkX (Ns z) dl n0 n1 q + rX (Ns z) dl n0 n1 q k))), (7, .int (nI (rY (Ns z) dl n0 n1 q (tkY (Ns z) dl n0 n1 q) k))), (8, .int (nI (tkZ (Ns z) dl n0 n1 q + rZ (Ns z) dl n0 n1 q k))), (9, .int (nI q)), (10, .int (nI k))]) hx hb dX12_tellsChanges_387 hl (by decide) rfl (fun ls hl => ?_)
                              refine lv_iload hx hb dX12_tellsChanges_389 (lv_at hl 12 rfl) ?_
                              refine lv_iload hx hb dX12_tellsChanges_391 (lv_at hl 1 rfl) ?_
                              refine lv_iload hx hb dX12_tellsChanges_393 (lv_at hl 0 rfl) ?_
                              refine lv_icmp_ne (tgt := 402) hx hb dX12_tellsChanges_395 (by decide) (fun c395 => ?_) (fun c395 => ?_)
                              · skip
                                refine lv_iconst (v := nI 1) hx hb dX12_tellsChanges_402 (by decide) ?_
                                refine lv_iadd hx hb dX12_tellsChanges_403 ?_
                                refine lv_as (nI_add _ _) ?_
                                refine lv_istore (lv' := [(6, .int (nI ((tkX (Ns z) dl n0 n1 q + rX (Ns z) dl n0 n1 q k) + 1))), (16, .int (bi (wp (Ns z) dl n0 n1 k q))), (12, .int (bi (wv (Ns z) dl n0 n1 k q))), (15, .int (bi (bt (Ns z) n0 (nS (Ns z) k)))), (14, .int (bi (bt (Ns z) n0 (nF (Ns z) k)))), (13, .int ((nI q) - (nI (dl (nK (Ns z) k))))), (11, .int (nI ((120 * z) + k))), (0, .ref (a 93)), (1, .int (nI z)), (2, .int (nI n0)), (3, .int (nI n1)), (4, .int (nI w)), (5, .int (nI (mxT (Ns z) dl (nG (Ns z))))), (7, .int (nI (rY (Ns z) dl n0 n1 q (tkY (Ns z) dl n0 n1 q) k))), (8, .int (nI (tkZ (Ns z) dl n0 n1 q + rZ (Ns z) dl n0 n1 q k))), (9, .int (nI q)), (10, .int (nI k))]) hx hb dX12_tellsChanges_404 hl (by decide) rfl (fun ls hl => ?_)
                                refine lv_iload hx hb dX12_tellsChanges_406 (lv_at hl 2 rfl) ?_
                                refine lv_iload hx hb dX12_tellsChanges_408 (lv_at hl 1 rfl) ?_
                                refine lv_icmp_ne (tgt := 418) hx hb dX12_tellsChanges_410 (by decide) (fun c410 => ?_) (fun c410 => ?_)
                                · skip
                                  refine lv_iload hx hb dX12_tellsChanges_418 (lv_at hl 15 rfl) ?_
                                  refine lv_istore (lv' := [(7, .int (nI q)), (6, .int (nI ((tkX (Ns z) dl n0 n1 q + rX (Ns z) dl n0 n1 q k) + 1))), (16, .int (bi (wp (Ns z) dl n0 n1 k q))), (12, .int (bi (wv (Ns z) dl n0 n1 k q))), (15, .int (bi (bt (Ns z) n0 (nS (Ns z) k)))), (14, .int (bi (bt (Ns z) n0 (nF (Ns z) k)))), (13, .int ((nI q) - (nI (dl (nK (Ns z) k))))), (11, .int (nI ((120 * z) + k))), (0, .ref (a 93)), (1, .int (nI z)), (2, .int (nI n0)), (3, .int (nI n1)), (4, .int (nI w)), (5, .int (nI (mxT (Ns z) dl (nG (Ns z))))), (8, .int (nI (tkZ (Ns z) dl n0 n1 q + rZ (Ns z) dl n0 n1 q k))), (9, .int (nI q)), (10, .int (nI k))]) hx hb dX12_tellsChanges_420 hl (by decide) rfl (fun ls hl => ?_)
                                  refine lv_iload hx hb dX12_tellsChanges_422 (lv_at hl 14 rfl) ?_
                                  refine lv_iload hx hb dX12_tellsChanges_424 (lv_at hl 3 rfl) ?_
                                  refine lv_iload hx hb dX12_tellsChanges_426 (lv_at hl 2 rfl) ?_
                                  refine lv_icmp_ne (tgt := 435) hx hb dX12_tellsChanges_428 (by decide) (fun c428 => ?_) (fun c428 => ?_)
                                  · skip
                                    refine lv_aload_n hx hb dX12_tellsChanges_435 rfl (lv_at hl 8 rfl) ?_
                                    refine va_get (D := G.1) (ci := 12) (v := .ref (a 106)) (C := RX12) (T := TX12) (N := 23) hx hb hts inX12_tellsChanges_12 hown hK h_o 0 rfl rfl 12 (by decide) (hts (.fieldLink RX12 46 "GateLedgerModel" "marks" "[I") (List.mem_of_getElem? (i := 5) (by decide +kernel))) (fun _ h9 => h9) rfl dX12_tellsChanges_436 ?_
                                    refine lv_iload hx hb dX12_tellsChanges_439 (lv_at hl 16 rfl) ?_
                                    refine pp_iald hx hb hK h_marks 0 rfl (vp_in_nI (by omega) (by omega)) dX12_tellsChanges_441 ?_
                                    refine lv_as (congrArg mf (nI_clamp (by omega))) ?_
                                    refine lv_as (y := bi (ouT (Ns z) (nO (Ns z)) k)) (hm4 _ c182) ?_
                                    refine lv_iadd hx hb dX12_tellsChanges_442 ?_
                                    refine lv_as (y := nI (tkZ (Ns z) dl n0 n1 q + rZ (Ns z) dl n0 n1 q k + (if (∃ r, r < nO (Ns z) ∧ nU (Ns z) r = k) then 1 else 0))) ((congrArg (fun q9 : Int32 => nI (tkZ (Ns z) dl n0 n1 q + rZ (Ns z) dl n0 n1 q k) + q9) (ou_if _)).trans (nI_add _ _)) ?_
                                    refine lv_istore (lv' := [(8, .int (nI (tkZ (Ns z) dl n0 n1 q + rZ (Ns z) dl n0 n1 q k + (if (∃ r, r < nO (Ns z) ∧ nU (Ns z) r = k) then 1 else 0)))), (7, .int (nI q)), (6, .int (nI ((tkX (Ns z) dl n0 n1 q + rX (Ns z) dl n0 n1 q k) + 1))), (16, .int (bi (wp (Ns z) dl n0 n1 k q))), (12, .int (bi (wv (Ns z) dl n0 n1 k q))), (15, .int (bi (bt (Ns z) n0 (nS (Ns z) k)))), (14, .int (bi (bt (Ns z) n0 (nF (Ns z) k)))), (13, .int ((nI q) - (nI (dl (nK (Ns z) k))))), (11, .int (nI ((120 * z) + k))), (0, .ref (a 93)), (1, .int (nI z)), (2, .int (nI n0)), (3, .int (nI n1)), (4, .int (nI w)), (5, .int (nI (mxT (Ns z) dl (nG (Ns z))))), (9, .int (nI q)), (10, .int (nI k))]) hx hb dX12_tellsChanges_443 hl (by decide) rfl (fun ls hl => ?_)
                                    refine lv_aload_n hx hb dX12_tellsChanges_445 rfl (lv_at hl 9 rfl) ?_
                                    refine va_get (D := G.1) (ci := 12) (v := .ref (a 108)) (C := RX12) (T := TX12) (N := 23) hx hb hts inX12_tellsChanges_12 hown hK h_o 0 rfl rfl 14 (by decide) (hts (.fieldLink RX12 52 "GateLedgerModel" "past" "[I") (List.mem_of_getElem? (i := 11) (by decide +kernel))) (fun _ h9 => h9) rfl dX12_tellsChanges_446 ?_
                                    refine lv_bipush (v := nI 120) hx hb dX12_tellsChanges_449 (by decide) ?_
                                    refine lv_iload hx hb dX12_tellsChanges_451 (lv_at hl 15 rfl) ?_
                                    refine lv_bipush (v := nI 10) hx hb dX12_tellsChanges_453 (by decide) ?_
                                    refine lv_irem hx hb dX12_tellsChanges_455 (nI_ne0 (by omega) (by omega)) ?_
                                    refine lv_as (pk_rem (by omega) (by omega) (by omega)) ?_
                                    refine lv_imul hx hb dX12_tellsChanges_456 ?_
                                    refine lv_as (pk_mul _ _) ?_
                                    refine lv_iload hx hb dX12_tellsChanges_457 (lv_at hl 16 rfl) ?_
                                    refine lv_iadd hx hb dX12_tellsChanges_459 ?_
                                    refine lv_as (nI_add _ _) ?_
                                    refine lv_iload hx hb dX12_tellsChanges_460 (lv_at hl 4 rfl) ?_
                                    refine pp_iast hx hb hK h_past hS (Or.inr (rng_in (by omega))) (vp_in_nI (by omega) (by omega)) dX12_tellsChanges_462 (fun H locs hP9 hk32 _ hS => ?_)
                                    rw [nI_clamp (by omega)] at hP9
                                    have h_past : PP G (ar1 G a 108 1200 (upd pg ((120 * (q % 10)) + k) (bi (wv (Ns z) dl n0 n1 k q)))) H := hP9
                                    have h_o : PP G (modO a cy (nI 0)) H := kp hk32 h_o (dj_cons (ne_a ha (by omega)) (dj_nil))
                                    have h_bits : PP G (ar1 G a 104 120 u10) H := kp hk32 h_bits (dj_cons (ne_a ha (by omega)) (dj_nil))
                                    have h_times : PP G (ar1 G a 105 120 u14) H := kp hk32 h_times (dj_cons (ne_a ha (by omega)) (dj_nil))
                                    have h_marks : PP G (ar1 G a 106 120 mf) H := kp hk32 h_marks (dj_cons (ne_a ha (by omega)) (dj_nil))
                                    have h_old : PP G (ar1 G a 107 120 of) H := kp hk32 h_old (dj_cons (ne_a ha (by omega)) (dj_nil))
                                    refine lv_iinc (v := nI (k + 1)) (lv' := [(10, .int (nI (k + 1))), (8, .int (nI (tkZ (Ns z) dl n0 n1 q + rZ (Ns z) dl n0 n1 q k + (if (∃ r, r < nO (Ns z) ∧ nU (Ns z) r = k) then 1 else 0)))), (7, .int (nI q)), (6, .int (nI ((tkX (Ns z) dl n0 n1 q + rX (Ns z) dl n0 n1 q k) + 1))), (16, .int (bi (wp (Ns z) dl n0 n1 k q))), (12, .int (bi (wv (Ns z) dl n0 n1 k q))), (15, .int (bi (bt (Ns z) n0 (nS (Ns z) k)))), (14, .int (bi (bt (Ns z) n0 (nF (Ns z) k)))), (13, .int ((nI q) - (nI (dl (nK (Ns z) k))))), (11, .int (nI ((120 * z) + k))), (0, .ref (a 93)), (1, .int (nI z)), (2, .int (nI n0)), (3, .int (nI n1)), (4, .int (nI w)), (5, .int (nI (mxT (Ns z) dl (nG (Ns z))))), (9, .int (nI q))]) hx hb dX12_tellsChanges_463 hl (k := 16) rfl (by first | exact nI_add _ 1 | decide) (by decide) rfl (fun ls hl => ?_)
                                    refine lv_goto (tgt := 174) hx hb dX12_tellsChanges_466 (by decide) ?_
                                    exact ih20 (k + 1) (upd pg ((120 * (q % 10)) + k) (bi (wv (Ns z) dl n0 n1 k q))) _ _ _ ⟨h_o, h_bits, h_times, h_marks, h_old, h_past, hS, (by have h9 := r_y (N := (Ns z)) (dl := dl) (n0 := n0) (n1 := n1) (t := q) (x := tkX (Ns z) dl n0 n1 q) (y := tkY (Ns z) dl n0 n1 q) (z := tkZ (Ns z) dl n0 n1 q) (k := k) ⟨c211, fun q => c395 (congrArg bi q)⟩; rw [h9.1, h9.2.1, h9.2.2, Nat.max_eq_right hry]; exact lv_sub hl [10, 11, 12, 13, 14, 15, 3, 2, 1, 16, 0] rfl), by omega, RG_s hG c182 hg9⟩ (by show nG (Ns z) - (k + 1) < nG (Ns z) - k; omega)
                                  · skip
                                    first | exact absurd c428 c395 | exact absurd c395 c428
                                · skip
                                  first | exact absurd c410 c395 | exact absurd c395 c410
                              · skip
                                refine lv_iconst (v := nI 0) hx hb dX12_tellsChanges_398 (by decide) ?_
                                refine lv_goto (tgt := 403) hx hb dX12_tellsChanges_399 (by decide) ?_
                                refine lv_iadd hx hb dX12_tellsChanges_403 ?_
                                refine lv_as (nI_add _ _) ?_
                                refine lv_istore (lv' := [(6, .int (nI ((tkX (Ns z) dl n0 n1 q + rX (Ns z) dl n0 n1 q k) + 0))), (16, .int (bi (wp (Ns z) dl n0 n1 k q))), (12, .int (bi (wv (Ns z) dl n0 n1 k q))), (15, .int (bi (bt (Ns z) n0 (nS (Ns z) k)))), (14, .int (bi (bt (Ns z) n0 (nF (Ns z) k)))), (13, .int ((nI q) - (nI (dl (nK (Ns z) k))))), (11, .int (nI ((120 * z) + k))), (0, .ref (a 93)), (1, .int (nI z)), (2, .int (nI n0)), (3, .int (nI n1)), (4, .int (nI w)), (5, .int (nI (mxT (Ns z) dl (nG (Ns z))))), (7, .int (nI (rY (Ns z) dl n0 n1 q (tkY (Ns z) dl n0 n1 q) k))), (8, .int (nI (tkZ (Ns z) dl n0 n1 q + rZ (Ns z) dl n0 n1 q k))), (9, .int (nI q)), (10, .int (nI k))]) hx hb dX12_tellsChanges_404 hl (by decide) rfl (fun ls hl => ?_)
                                refine lv_iload hx hb dX12_tellsChanges_406 (lv_at hl 2 rfl) ?_
                                refine lv_iload hx hb dX12_tellsChanges_408 (lv_at hl 1 rfl) ?_
                                refine lv_icmp_ne (tgt := 418) hx hb dX12_tellsChanges_410 (by decide) (fun c410 => ?_) (fun c410 => ?_)
                                · skip
                                  first | exact absurd c410 c395 | exact absurd c395 c410
                                · skip
                                  refine lv_iload hx hb dX12_tellsChanges_413 (lv_at hl 13 rfl) ?_
                                  refine lv_goto (tgt := 420) hx hb dX12_tellsChanges_415 (by decide) ?_
                                  refine lv_istore (lv' := [(7, .int (nI (rY (Ns z) dl n0 n1 q (tkY (Ns z) dl n0 n1 q) k))), (6, .int (nI ((tkX (Ns z) dl n0 n1 q + rX (Ns z) dl n0 n1 q k) + 0))), (16, .int (bi (wp (Ns z) dl n0 n1 k q))), (12, .int (bi (wv (Ns z) dl n0 n1 k q))), (15, .int (bi (bt (Ns z) n0 (nS (Ns z) k)))), (14, .int (bi (bt (Ns z) n0 (nF (Ns z) k)))), (13, .int ((nI q) - (nI (dl (nK (Ns z) k))))), (11, .int (nI ((120 * z) + k))), (0, .ref (a 93)), (1, .int (nI z)), (2, .int (nI n0)), (3, .int (nI n1)), (4, .int (nI w)), (5, .int (nI (mxT (Ns z) dl (nG (Ns z))))), (8, .int (nI (tkZ (Ns z) dl n0 n1 q + rZ (Ns z) dl n0 n1 q k))), (9, .int (nI q)), (10, .int (nI k))]) hx hb dX12_tellsChanges_420 hl (by decide) rfl (fun ls hl => ?_)
                                  refine lv_iload hx hb dX12_tellsChanges_422 (lv_at hl 14 rfl) ?_
                                  refine lv_iload hx hb dX12_tellsChanges_424 (lv_at hl 3 rfl) ?_
                                  refine lv_iload hx hb dX12_tellsChanges_426 (lv_at hl 2 rfl) ?_
                                  refine lv_icmp_ne (tgt := 435) hx hb dX12_tellsChanges_428 (by decide) (fun c428 => ?_) (fun c428 => ?_)
                                  · skip
                                    first | exact absurd c428 c395 | exact absurd c395 c428
                                  · skip
                                    refine lv_iconst (v := nI 0) hx hb dX12_tellsChanges_431 (by decide) ?_
                                    refine lv_goto (tgt := 442) hx hb dX12_tellsChanges_432 (by decide) ?_
                                    refine lv_iadd hx hb dX12_tellsChanges_442 ?_
                                    refine lv_as (nI_add _ _) ?_
                                    refine lv_istore (lv' := [(8, .int (nI ((tkZ (Ns z) dl n0 n1 q + rZ (Ns z) dl n0 n1 q k) + 0))), (7, .int (nI (rY (Ns z) dl n0 n1 q (tkY (Ns z) dl n0 n1 q) k))), (6, .int (nI ((tkX (Ns z) dl n0 n1 q + rX (Ns z) dl n0 n1 q k) + 0))), (16, .int (bi (wp (Ns z) dl n0 n1 k q))), (12, .int (bi (wv (Ns z) dl n0 n1 k q))), (15, .int (bi (bt (Ns z) n0 (nS (Ns z) k)))), (14, .int (bi (bt (Ns z) n0 (nF (Ns z) k)))), (13, .int ((nI q) - (nI (dl (nK (Ns z) k))))), (11, .int (nI ((120 * z) + k))), (0, .ref (a 93)), (1, .int (nI z)), (2, .int (nI n0)), (3, .int (nI n1)), (4, .int (nI w)), (5, .int (nI (mxT (Ns z) dl (nG (Ns z))))), (9, .int (nI q)), (10, .int (nI k))]) hx hb dX12_tellsChanges_443 hl (by decide) rfl (fun ls hl => ?_)
                                    refine lv_aload_n hx hb dX12_tellsChanges_445 rfl (lv_at hl 9 rfl) ?_
                                    refine va_get (D := G.1) (ci := 12) (v := .ref (a 108)) (C := RX12) (T := TX12) (N := 23) hx hb hts inX12_tellsChanges_12 hown hK h_o 0 rfl rfl 14 (by decide) (hts (.fieldLink RX12 52 "GateLedgerModel" "past" "[I") (List.mem_of_getElem? (i := 11) (by decide +kernel))) (fun _ h9 => h9) rfl dX12_tellsChanges_446 ?_
                                    refine lv_bipush (v := nI 120) hx hb dX12_tellsChanges_449 (by decide) ?_
                                    refine lv_iload hx hb dX12_tellsChanges_451 (lv_at hl 15 rfl) ?_
                                    refine lv_bipush (v := nI 10) hx hb dX12_tellsChanges_453 (by decide) ?_
                                    refine lv_irem hx hb dX12_tellsChanges_455 (nI_ne0 (by omega) (by omega)) ?_
                                    refine lv_as (pk_rem (by omega) (by omega) (by omega)) ?_
                                    refine lv_imul hx hb dX12_tellsChanges_456 ?_
                                    refine lv_as (pk_mul _ _) ?_
                                    refine lv_iload hx hb dX12_tellsChanges_457 (lv_at hl 16 rfl) ?_
                                    refine lv_iadd hx hb dX12_tellsChanges_459 ?_
                                    refine lv_as (nI_add _ _) ?_
                                    refine lv_iload hx hb dX12_tellsChanges_460 (lv_at hl 4 rfl) ?_
                                    refine pp_iast hx hb hK h_past hS (Or.inr (rng_in (by omega))) (vp_in_nI (by omega) (by omega)) dX12_tellsChanges_462 (fun H locs hP9 hk33 _ hS => ?_)
                                    rw [nI_clamp (by omega)] at hP9
                                    have h_past : PP G (ar1 G a 108 1200 (upd pg ((120 * (q % 10)) + k) (bi (wv (Ns z) dl n0 n1 k q)))) H := hP9
                                    have h_o : PP G (modO a cy (nI 0)) H := kp hk33 h_o (dj_cons (ne_a ha (by omega)) (dj_nil))
                                    have h_bits : PP G (ar1 G a 104 120 u10) H := kp hk33 h_bits (dj_cons (ne_a ha (by omega)) (dj_nil))
                                    have h_times : PP G (ar1 G a 105 120 u14) H := kp hk33 h_times (dj_cons (ne_a ha (by omega)) (dj_nil))
                                    have h_marks : PP G (ar1 G a 106 120 mf) H := kp hk33 h_marks (dj_cons (ne_a ha (by omega)) (dj_nil))
                                    have h_old : PP G (ar1 G a 107 120 of) H := kp hk33 h_old (dj_cons (ne_a ha (by omega)) (dj_nil))
                                    refine lv_iinc (v := nI (k + 1)) (lv' := [(10, .int (nI (k + 1))), (8, .int (nI ((tkZ (Ns z) dl n0 n1 q + rZ (Ns z) dl n0 n1 q k) + 0))), (7, .int (nI (rY (Ns z) dl n0 n1 q (tkY (Ns z) dl n0 n1 q) k))), (6, .int (nI ((tkX (Ns z) dl n0 n1 q + rX (Ns z) dl n0 n1 q k) + 0))), (16, .int (bi (wp (Ns z) dl n0 n1 k q))), (12, .int (bi (wv (Ns z) dl n0 n1 k q))), (15, .int (bi (bt (Ns z) n0 (nS (Ns z) k)))), (14, .int (bi (bt (Ns z) n0 (nF (Ns z) k)))), (13, .int ((nI q) - (nI (dl (nK (Ns z) k))))), (11, .int (nI ((120 * z) + k))), (0, .ref (a 93)), (1, .int (nI z)), (2, .int (nI n0)), (3, .int (nI n1)), (4, .int (nI w)), (5, .int (nI (mxT (Ns z) dl (nG (Ns z))))), (9, .int (nI q))]) hx hb dX12_tellsChanges_463 hl (k := 16) rfl (by first | exact nI_add _ 1 | decide) (by decide) rfl (fun ls hl => ?_)
                                    refine lv_goto (tgt := 174) hx hb dX12_tellsChanges_466 (by decide) ?_
                                    exact ih20 (k + 1) (upd pg ((120 * (q % 10)) + k) (bi (wv (Ns z) dl n0 n1 k q))) _ _ _ ⟨h_o, h_bits, h_times, h_marks, h_old, h_past, hS, (by have h9 := r_n (N := (Ns z)) (dl := dl) (n0 := n0) (n1 := n1) (t := q) (x := tkX (Ns z) dl n0 n1 q) (y := tkY (Ns z) dl n0 n1 q) (z := tkZ (Ns z) dl n0 n1 q) (k := k) (fun q => q.2 (bi_inj c395)); rw [h9.1, h9.2.1, h9.2.2]; exact lv_sub hl [10, 11, 12, 13, 14, 15, 3, 2, 1, 16, 0] rfl), by omega, RG_s hG c182 hg9⟩ (by show nG (Ns z) - (k + 1) < nG (Ns z) - k; omega)
                          · skip
                            refine lv_aload_n hx hb dX12_tellsChanges_328 rfl (lv_at hl 5 rfl) ?_
                            refine va_get (D := G.1) (ci := 12) (v := .ref (a 94)) (C := RX12) (T := TX12) (N := 23) hx hb hts inX12_tellsChanges_12 hown hK h_o 0 rfl rfl 0 (by decide) (hts (.fieldLink RX12 7 "GateLedgerModel" "kind" "[I") (List.mem_of_getElem? (i := 8) (by decide +kernel))) (fun _ h9 => h9) rfl dX12_tellsChanges_329 ?_
                            refine lv_iload hx hb dX12_tellsChanges_332 (lv_at hl 4 rfl) ?_
                            refine pp_iald hx hb hK (ro hS h_x (dj_cons (or_no (rng_no ha (by omega)) (rng_no ha (by omega))) (dj_cons (or_no (rng_no ha (by omega)) (rng_no ha (by omega))) (dj_cons (or_no (rng_no ha (by omega)) (rng_no ha (by omega))) (dj_cons (or_no (rng_no ha (by omega)) (rng_no ha (by omega))) (dj_cons (or_no (rng_no ha (by omega)) (rng_no ha (by omega))) (dj_cons (or_no (rng_no ha (by omega)) (rng_no ha (by omega))) (dj_nil)))))))) 0 rfl (vp_in_nI (by omega) (by omega)) dX12_tellsChanges_334 ?_
                            refine lv_as (congrArg (KF Ns) (nI_clamp (by omega))) ?_
                            refine lv_as (y := nI (nK (Ns z) k)) (KF_at (by omega)) ?_
                            refine lv_iload hx hb dX12_tellsChanges_335 (lv_at hl 1 rfl) ?_
                            refine lv_iload hx hb dX12_tellsChanges_337 (lv_at hl 0 rfl) ?_
                            refine ro_i (va_runS (As := [.int (nI (nK (Ns z) k)), .int (bi (bt (Ns z) n0 (nF (Ns z) k))), .int (bi (bt (Ns z) n0 (nS (Ns z) k)))]) (rest := []) FX (c_X12_follows l G (nK (Ns z) k) (bt (Ns z) n0 (nF (Ns z) k)) (bt (Ns z) n0 (nS (Ns z) k)) (by omega)) (va_cwS 3 hts gX12_tellsChanges_X12_follows rfl rfl rfl (by decide +kernel) ⟨Nat.le_of_ble_eq_true rfl, Nat.le_of_ble_eq_true rfl⟩) (preS hK hNW trivial) rfl rfl hl.1 rfl (lv_room (Nat.le_of_ble_eq_true rfl)) dX12_tellsChanges_339 ⟨Nat.le_of_ble_eq_true rfl, Nat.le_of_ble_eq_true rfl⟩) ?_
                            refine lv_goto (tgt := 352) hx hb dX12_tellsChanges_342 (by decide) ?_
                            refine lv_as (y := bi (wv (Ns z) dl n0 n1 k q)) (congrArg bi (((wv_gt hN c182 c325 c211 q).trans (if_pos hqd)).trans (bt_gt hN c182 c325 c211)).symm) ?_
                            refine lv_istore (lv' := [(12, .int (bi (wv (Ns z) dl n0 n1 k q))), (15, .int (bi (bt (Ns z) n0 (nS (Ns z) k)))), (14, .int (bi (bt (Ns z) n0 (nF (Ns z) k)))), (13, .int ((nI q) - (nI (dl (nK (Ns z) k))))), (11, .int (nI ((120 * z) + k))), (0, .ref (a 93)), (1, .int (nI z)), (2, .int (nI n0)), (3, .int (nI n1)), (4, .int (nI w)), (5, .int (nI (mxT (Ns z) dl (nG (Ns z))))), (6, .int (nI (tkX (Ns z) dl n0 n1 q + rX (Ns z) dl n0 n1 q k))), (7, .int (nI (rY (Ns z) dl n0 n1 q (tkY (Ns z) dl n0 n1 q) k))), (8, .int (nI (tkZ (Ns z) dl n0 n1 q + rZ (Ns z) dl n0 n1 q k))), (9, .int (nI q)), (10, .int (nI k))]) hx hb dX12_tellsChanges_352 hl (by decide) rfl (fun ls hl => ?_)
                            refine lv_iload hx hb dX12_tellsChanges_354 (lv_at hl 14 rfl) ?_
                            refine lv_if_ne (tgt := 369) hx hb dX12_tellsChanges_356 (by decide) (fun c356 => ?_) (fun c356 => ?_)
                            · skip
                              have c356 := cv_ne (by omega) (by omega) (show ¬ nI q = nI 0 from c356)
                              refine lv_aload_n hx hb dX12_tellsChanges_369 rfl (lv_at hl 5 rfl) ?_
                              refine va_get (D := G.1) (ci := 12) (v := .ref (a 108)) (C := RX12) (T := TX12) (N := 23) hx hb hts inX12_tellsChanges_12 hown hK h_o 0 rfl rfl 14 (by decide) (hts (.fieldLink RX12 52 "GateLedgerModel" "past" "[I") (List.mem_of_getElem? (i := 11) (by decide +kernel))) (fun _ h9 => h9) rfl dX12_tellsChanges_370 ?_
                              refine lv_bipush (v := nI 120) hx hb dX12_tellsChanges_373 (by decide) ?_
                              refine lv_iload hx hb dX12_tellsChanges_375 (lv_at hl 14 rfl) ?_
                              refine lv_iconst (v := nI 1) hx hb dX12_tellsChanges_377 (by decide) ?_
                              refine lv_isub hx hb dX12_tellsChanges_378 ?_
                              refine lv_as (y := nI (q - 1)) (pk_sub (by omega)) ?_
                              refine lv_bipush (v := nI 10) hx hb dX12_tellsChanges_379 (by decide) ?_
                              refine lv_irem hx hb dX12_tellsChanges_381 (nI_ne0 (by omega) (by omega)) ?_
                              refine lv_as (pk_rem (by omega) (by omega) (by omega)) ?_
                              refine lv_imul hx hb dX12_tellsChanges_382 ?_
                              refine lv_as (pk_mul _ _) ?_
                              refine lv_iload hx hb dX12_tellsChanges_383 (lv_at hl 15 rfl) ?_
                              refine lv_iadd hx hb dX12_tellsChanges_385 ?_
                              refine lv_as (nI_add _ _) ?_
                              refine pp_iald hx hb hK h_past 0 rfl (vp_in_nI (by omega) (by omega)) dX12_tellsChanges_386 ?_
                              refine lv_as (congrArg pg (nI_clamp (by omega))) ?_
                              refine lv_as (y := bi (wp (Ns z) dl n0 n1 k q)) ((hG (q - 1) (k) (by omega) (by omega)).trans (congrArg bi (wp_s c356).symm)) ?_
                              refine lv_istore (lv' := [(16, .int (bi (wp (Ns z) dl n0 n1 k q))), (12, .int (bi (wv (Ns z) dl n0 n1 k q))), (15, .int (bi (bt (Ns z) n0 (nS (Ns z) k)))), (14, .int (bi (bt (Ns z) n0 (nF (Ns z) k)))), (13, .int ((nI q) - (nI (dl (nK (Ns z) k))))), (11, .int (nI ((120 * z) + k))), (0, .ref (a 93)), (1, .int (nI z)), (2, .int (nI n0)), (3, .int (nI n1)), (4, .int (nI w)), (5, .int (nI (mxT (Ns z) dl (nG (Ns z))))), (6, .int (nI (tkX (Ns z) dl n0 n1 q + rX (Ns z) dl n0 n1 q k))), (7, .int (nI (rY (Ns z) dl n0 n1 q (tkY (Ns z) dl n0 n1 q) k))), (8, .int (nI (tkZ (Ns z) dl n0 n1 q + rZ (Ns z) dl n0 n1 q k))), (9, .int (nI q)), (10, .int (nI k))]) hx hb dX12_tellsChanges_387 hl (by decide) rfl (fun ls hl => ?_)
                              refine lv_iload hx hb dX12_tellsChanges_389 (lv_at hl 12 rfl) ?_
                              refine lv_iload hx hb dX12_tellsChanges_391 (lv_at hl 1 rfl) ?_
                              refine lv_iload hx hb dX12_tellsChanges_393 (lv_at hl 0 rfl) ?_
                              refine lv_icmp_ne (tgt := 402) hx hb dX12_tellsChanges_395 (by decide) (fun c395 => ?_) (fun c395 => ?_)
                              · skip
                                refine lv_iconst (v := nI 1) hx hb dX12_tellsChanges_402 (by decide) ?_
                                refine lv_iadd hx hb dX12_tellsChanges_403 ?_
                                refine lv_as (nI_add _ _) ?_
                                refine lv_istore (lv' := [(6, .int (nI ((tkX (Ns z) dl n0 n1 q + rX (Ns z) dl n0 n1 q k) + 1))), (16, .int (bi (wp (Ns z) dl n0 n1 k q))), (12, .int (bi (wv (Ns z) dl n0 n1 k q))), (15, .int (bi (bt (Ns z) n0 (nS (Ns z) k)))), (14, .int (bi (bt (Ns z) n0 (nF (Ns z) k)))), (13, .int ((nI q) - (nI (dl (nK (Ns z) k))))), (11, .int (nI ((120 * z) + k))), (0, .ref (a 93)), (1, .int (nI z)), (2, .int (nI n0)), (3, .int (nI n1)), (4, .int (nI w)), (5, .int (nI (mxT (Ns z) dl (nG (Ns z))))), (7, .int (nI (rY (Ns z) dl n0 n1 q (tkY (Ns z) dl n0 n1 q) k))), (8, .int (nI (tkZ (Ns z) dl n0 n1 q + rZ (Ns z) dl n0 n1 q k))), (9, .int (nI q)), (10, .int (nI k))]) hx hb dX12_tellsChanges_404 hl (by decide) rfl (fun ls hl => ?_)
                                refine lv_iload hx hb dX12_tellsChanges_406 (lv_at hl 2 rfl) ?_
                                refine lv_iload hx hb dX12_tellsChanges_408 (lv_at hl 1 rfl) ?_
                                refine lv_icmp_ne (tgt := 418) hx hb dX12_tellsChanges_410 (by decide) (fun c410 => ?_) (fun c410 => ?_)
                                · skip
                                  refine lv_iload hx hb dX12_tellsChanges_418 (lv_at hl 15 rfl) ?_
                                  refine lv_istore (lv' := [(7, .int (nI q)), (6, .int (nI ((tkX (Ns z) dl n0 n1 q + rX (Ns z) dl n0 n1 q k) + 1))), (16, .int (bi (wp (Ns z) dl n0 n1 k q))), (12, .int (bi (wv (Ns z) dl n0 n1 k q))), (15, .int (bi (bt (Ns z) n0 (nS (Ns z) k)))), (14, .int (bi (bt (Ns z) n0 (nF (Ns z) k)))), (13, .int ((nI q) - (nI (dl (nK (Ns z) k))))), (11, .int (nI ((120 * z) + k))), (0, .ref (a 93)), (1, .int (nI z)), (2, .int (nI n0)), (3, .int (nI n1)), (4, .int (nI w)), (5, .int (nI (mxT (Ns z) dl (nG (Ns z))))), (8, .int (nI (tkZ (Ns z) dl n0 n1 q + rZ (Ns z) dl n0 n1 q k))), (9, .int (nI q)), (10, .int (nI k))]) hx hb dX12_tellsChanges_420 hl (by decide) rfl (fun ls hl => ?_)
                                  refine lv_iload hx hb dX12_tellsChanges_422 (lv_at hl 14 rfl) ?_
                                  refine lv_iload hx hb dX12_tellsChanges_424 (lv_at hl 3 rfl) ?_
                                  refine lv_iload hx hb dX12_tellsChanges_426 (lv_at hl 2 rfl) ?_
                                  refine lv_icmp_ne (tgt := 435) hx hb dX12_tellsChanges_428 (by decide) (fun c428 => ?_) (fun c428 => ?_)
                                  · skip
                                    refine lv_aload_n hx hb dX12_tellsChanges_435 rfl (lv_at hl 8 rfl) ?_
                                    refine va_get (D := G.1) (ci := 12) (v := .ref (a 106)) (C := RX12) (T := TX12) (N := 23) hx hb hts inX12_tellsChanges_12 hown hK h_o 0 rfl rfl 12 (by decide) (hts (.fieldLink RX12 46 "GateLedgerModel" "marks" "[I") (List.mem_of_getElem? (i := 5) (by decide +kernel))) (fun _ h9 => h9) rfl dX12_tellsChanges_436 ?_
                                    refine lv_iload hx hb dX12_tellsChanges_439 (lv_at hl 16 rfl) ?_
                                    refine pp_iald hx hb hK h_marks 0 rfl (vp_in_nI (by omega) (by omega)) dX12_tellsChanges_441 ?_
                                    refine lv_as (congrArg mf (nI_clamp (by omega))) ?_
                                    refine lv_as (y := bi (ouT (Ns z) (nO (Ns z)) k)) (hm4 _ c182) ?_
                                    refine lv_iadd hx hb dX12_tellsChanges_442 ?_
                                    refine lv_as (y := nI (tkZ (Ns z) dl n0 n1 q + rZ (Ns z) dl n0 n1 q k + (if (∃ r, r < nO (Ns z) ∧ nU (Ns z) r = k) then 1 else 0))) ((congrArg (fun q9 : Int32 => nI (tkZ (Ns z) dl n0 n1 q + rZ (Ns z) dl n0 n1 q k) + q9) (ou_if _)).trans (nI_add _ _)) ?_
                                    refine lv_istore (lv' := [(8, .int (nI (tkZ (Ns z) dl n0 n1 q + rZ (Ns z) dl n0 n1 q k + (if (∃ r, r < nO (Ns z) ∧ nU (Ns z) r = k) then 1 else 0)))), (7, .int (nI q)), (6, .int (nI ((tkX (Ns z) dl n0 n1 q + rX (Ns z) dl n0 n1 q k) + 1))), (16, .int (bi (wp (Ns z) dl n0 n1 k q))), (12, .int (bi (wv (Ns z) dl n0 n1 k q))), (15, .int (bi (bt (Ns z) n0 (nS (Ns z) k)))), (14, .int (bi (bt (Ns z) n0 (nF (Ns z) k)))), (13, .int ((nI q) - (nI (dl (nK (Ns z) k))))), (11, .int (nI ((120 * z) + k))), (0, .ref (a 93)), (1, .int (nI z)), (2, .int (nI n0)), (3, .int (nI n1)), (4, .int (nI w)), (5, .int (nI (mxT (Ns z) dl (nG (Ns z))))), (9, .int (nI q)), (10, .int (nI k))]) hx hb dX12_tellsChanges_443 hl (by decide) rfl (fun ls hl => ?_)
                                    refine lv_aload_n hx hb dX12_tellsChanges_445 rfl (lv_at hl 9 rfl) ?_
                                    refine va_get (D := G.1) (ci := 12) (v := .ref (a 108)) (C := RX12) (T := TX12) (N := 23) hx hb hts inX12_tellsChanges_12 hown hK h_o 0 rfl rfl 14 (by decide) (hts (.fieldLink RX12 52 "GateLedgerModel" "past" "[I") (List.mem_of_getElem? (i := 11) (by decide +kernel))) (fun _ h9 => h9) rfl dX12_tellsChanges_446 ?_
                                    refine lv_bipush (v := nI 120) hx hb dX12_tellsChanges_449 (by decide) ?_
                                    refine lv_iload hx hb dX12_tellsChanges_451 (lv_at hl 15 rfl) ?_
                                    refine lv_bipush (v := nI 10) hx hb dX12_tellsChanges_453 (by decide) ?_
                                    refine lv_irem hx hb dX12_tellsChanges_455 (nI_ne0 (by omega) (by omega)) ?_
                                    refine lv_as (pk_rem (by omega) (by omega) (by omega)) ?_
                                    refine lv_imul hx hb dX12_tellsChanges_456 ?_
                                    refine lv_as (pk_mul _ _) ?_
                                    refine lv_iload hx hb dX12_tellsChanges_457 (lv_at hl 16 rfl) ?_
                                    refine lv_iadd hx hb dX12_tellsChanges_459 ?_
                                    refine lv_as (nI_add _ _) ?_
                                    refine lv_iload hx hb dX12_tellsChanges_460 (lv_at hl 4 rfl) ?_
                                    refine pp_iast hx hb hK h_past hS (Or.inr (rng_in (by omega))) (vp_in_nI (by omega) (by omega)) dX12_tellsChanges_462 (fun H locs hP9 hk34 _ hS => ?_)
                                    rw [nI_clamp (by omega)] at hP9
                                    have h_past : PP G (ar1 G a 108 1200 (upd pg ((120 * (q % 10)) + k) (bi (wv (Ns z) dl n0 n1 k q)))) H := hP9
                                    have h_o : PP G (modO a cy (nI 0)) H := kp hk34 h_o (dj_cons (ne_a ha (by omega)) (dj_nil))
                                    have h_bits : PP G (ar1 G a 104 120 u10) H := kp hk34 h_bits (dj_cons (ne_a ha (by omega)) (dj_nil))
                                    have h_times : PP G (ar1 G a 105 120 u14) H := kp hk34 h_times (dj_cons (ne_a ha (by omega)) (dj_nil))
                                    have h_marks : PP G (ar1 G a 106 120 mf) H := kp hk34 h_marks (dj_cons (ne_a ha (by omega)) (dj_nil))
                                    have h_old : PP G (ar1 G a 107 120 of) H := kp hk34 h_old (dj_cons (ne_a ha (by omega)) (dj_nil))
                                    refine lv_iinc (v := nI (k + 1)) (lv' := [(10, .int (nI (k + 1))), (8, .int (nI (tkZ (Ns z) dl n0 n1 q + rZ (Ns z) dl n0 n1 q k + (if (∃ r, r < nO (Ns z) ∧ nU (Ns z) r = k) then 1 else 0)))), (7, .int (nI q)), (6, .int (nI ((tkX (Ns z) dl n0 n1 q + rX (Ns z) dl n0 n1 q k) + 1))), (16, .int (bi (wp (Ns z) dl n0 n1 k q))), (12, .int (bi (wv (Ns z) dl n0 n1 k q))), (15, .int (bi (bt (Ns z) n0 (nS (Ns z) k)))), (14, .int (bi (bt (Ns z) n0 (nF (Ns z) k)))), (13, .int ((nI q) - (nI (dl (nK (Ns z) k))))), (11, .int (nI ((120 * z) + k))), (0, .ref (a 93)), (1, .int (nI z)), (2, .int (nI n0)), (3, .int (nI n1)), (4, .int (nI w)), (5, .int (nI (mxT (Ns z) dl (nG (Ns z))))), (9, .int (nI q))]) hx hb dX12_tellsChanges_463 hl (k := 16) rfl (by first | exact nI_add _ 1 | decide) (by decide) rfl (fun ls hl => ?_)
                                    refine lv_goto (tgt := 174) hx hb dX12_tellsChanges_466 (by decide) ?_
                                    exact ih20 (k + 1) (upd pg ((120 * (q % 10)) + k) (bi (wv (Ns z) dl n0 n1 k q))) _ _ _ ⟨h_o, h_bits, h_times, h_marks, h_old, h_past, hS, (by have h9 := r_y (N := (Ns z)) (dl := dl) (n0 := n0) (n1 := n1) (t := q) (x := tkX (Ns z) dl n0 n1 q) (y := tkY (Ns z) dl n0 n1 q) (z := tkZ (Ns z) dl n0 n1 q) (k := k) ⟨c211, fun q => c395 (congrArg bi q)⟩; rw [h9.1, h9.2.1, h9.2.2, Nat.max_eq_right hry]; exact lv_sub hl [10, 11, 12, 13, 14, 15, 3, 2, 1, 16, 0] rfl), by omega, RG_s hG c182 hg9⟩ (by show nG (Ns z) - (k + 1) < nG (Ns z) - k; omega)
                                  · skip
                                    first | exact absurd c428 c395 | exact absurd c395 c428
                                · skip
                                  first | exact absurd c410 c395 | exact absurd c395 c410
                              · skip
                                refine lv_iconst (v := nI 0) hx hb dX12_tellsChanges_398 (by decide) ?_
                                refine lv_goto (tgt := 403) hx hb dX12_tellsChanges_399 (by decide) ?_
                                refine lv_iadd hx hb dX12_tellsChanges_403 ?_
                                refine lv_as (nI_add _ _) ?_
                                refine lv_istore (lv' := [(6, .int (nI ((tkX (Ns z) dl n0 n1 q + rX (Ns z) dl n0 n1 q k) + 0))), (16, .int (bi (wp (Ns z) dl n0 n1 k q))), (12, .int (bi (wv (Ns z) dl n0 n1 k q))), (15, .int (bi (bt (Ns z) n0 (nS (Ns z) k)))), (14, .int (bi (bt (Ns z) n0 (nF (Ns z) k)))), (13, .int ((nI q) - (nI (dl (nK (Ns z) k))))), (11, .int (nI ((120 * z) + k))), (0, .ref (a 93)), (1, .int (nI z)), (2, .int (nI n0)), (3, .int (nI n1)), (4, .int (nI w)), (5, .int (nI (mxT (Ns z) dl (nG (Ns z))))), (7, .int (nI (rY (Ns z) dl n0 n1 q (tkY (Ns z) dl n0 n1 q) k))), (8, .int (nI (tkZ (Ns z) dl n0 n1 q + rZ (Ns z) dl n0 n1 q k))), (9, .int (nI q)), (10, .int (nI k))]) hx hb dX12_tellsChanges_404 hl (by decide) rfl (fun ls hl => ?_)
                                refine lv_iload hx hb dX12_tellsChanges_406 (lv_at hl 2 rfl) ?_
                                refine lv_iload hx hb dX12_tellsChanges_408 (lv_at hl 1 rfl) ?_
                                refine lv_icmp_ne (tgt := 418) hx hb dX12_tellsChanges_410 (by decide) (fun c410 => ?_) (fun c410 => ?_)
                                · skip
                                  first | exact absurd c410 c395 | exact absurd c395 c410
                                · skip
                                  refine lv_iload hx hb dX12_tellsChanges_413 (lv_at hl 13 rfl) ?_
                                  refine lv_goto (tgt := 420) hx hb dX12_tellsChanges_415 (by decide) ?_
                                  refine lv_istore (lv' := [(7, .int (nI (rY (Ns z) dl n0 n1 q (tkY (Ns z) dl n0 n1 q) k))), (6, .int (nI ((tkX (Ns z) dl n0 n1 q + rX (Ns z) dl n0 n1 q k) + 0))), (16, .int (bi (wp (Ns z) dl n0 n1 k q))), (12, .int (bi (wv (Ns z) dl n0 n1 k q))), (15, .int (bi (bt (Ns z) n0 (nS (Ns z) k)))), (14, .int (bi (bt (Ns z) n0 (nF (Ns z) k)))), (13, .int ((nI q) - (nI (dl (nK (Ns z) k))))), (11, .int (nI ((120 * z) + k))), (0, .ref (a 93)), (1, .int (nI z)), (2, .int (nI n0)), (3, .int (nI n1)), (4, .int (nI w)), (5, .int (nI (mxT (Ns z) dl (nG (Ns z))))), (8, .int (nI (tkZ (Ns z) dl n0 n1 q + rZ (Ns z) dl n0 n1 q k))), (9, .int (nI q)), (10, .int (nI k))]) hx hb dX12_tellsChanges_420 hl (by decide) rfl (fun ls hl => ?_)
                                  refine lv_iload hx hb dX12_tellsChanges_422 (lv_at hl 14 rfl) ?_
                                  refine lv_iload hx hb dX12_tellsChanges_424 (lv_at hl 3 rfl) ?_
                                  refine lv_iload hx hb dX12_tellsChanges_426 (lv_at hl 2 rfl) ?_
                                  refine lv_icmp_ne (tgt := 435) hx hb dX12_tellsChanges_428 (by decide) (fun c428 => ?_) (fun c428 => ?_)
                                  · skip
                                    first | exact absurd c428 c395 | exact absurd c395 c428
                                  · skip
                                    refine lv_iconst (v := nI 0) hx hb dX12_tellsChanges_431 (by decide) ?_
                                    refine lv_goto (tgt := 442) hx hb dX12_tellsChanges_432 (by decide) ?_
                                    refine lv_iadd hx hb dX12_tellsChanges_442 ?_
                                    refine lv_as (nI_add _ _) ?_
                                    refine lv_istore (lv' := [(8, .int (nI ((tkZ (Ns z) dl n0 n1 q + rZ (Ns z) dl n0 n1 q k) + 0))), (7, .int (nI (rY (Ns z) dl n0 n1 q (tkY (Ns z) dl n0 n1 q) k))), (6, .int (nI ((tkX (Ns z) dl n0 n1 q + rX (Ns z) dl n0 n1 q k) + 0))), (16, .int (bi (wp (Ns z) dl n0 n1 k q))), (12, .int (bi (wv (Ns z) dl n0 n1 k q))), (15, .int (bi (bt (Ns z) n0 (nS (Ns z) k)))), (14, .int (bi (bt (Ns z) n0 (nF (Ns z) k)))), (13, .int ((nI q) - (nI (dl (nK (Ns z) k))))), (11, .int (nI ((120 * z) + k))), (0, .ref (a 93)), (1, .int (nI z)), (2, .int (nI n0)), (3, .int (nI n1)), (4, .int (nI w)), (5, .int (nI (mxT (Ns z) dl (nG (Ns z))))), (9, .int (nI q)), (10, .int (nI k))]) hx hb dX12_tellsChanges_443 hl (by decide) rfl (fun ls hl => ?_)
                                    refine lv_aload_n hx hb dX12_tellsChanges_445 rfl (lv_at hl 9 rfl) ?_
                                    refine va_get (D := G.1) (ci := 12) (v := .ref (a 108)) (C := RX12) (T := TX12) (N := 23) hx hb hts inX12_tellsChanges_12 hown hK h_o 0 rfl rfl 14 (by decide) (hts (.fieldLink RX12 52 "GateLedgerModel" "past" "[I") (List.mem_of_getElem? (i := 11) (by decide +kernel))) (fun _ h9 => h9) rfl dX12_tellsChanges_446 ?_
                                    refine lv_bipush (v := nI 120) hx hb dX12_tellsChanges_449 (by decide) ?_
                                    refine lv_iload hx hb dX12_tellsChanges_451 (lv_at hl 15 rfl) ?_
                                    refine lv_bipush (v := nI 10) hx hb dX12_tellsChanges_453 (by decide) ?_
                                    refine lv_irem hx hb dX12_tellsChanges_455 (nI_ne0 (by omega) (by omega)) ?_
                                    refine lv_as (pk_rem (by omega) (by omega) (by omega)) ?_
                                    refine lv_imul hx hb dX12_tellsChanges_456 ?_
                                    refine lv_as (pk_mul _ _) ?_
                                    refine lv_iload hx hb dX12_tellsChanges_457 (lv_at hl 16 rfl) ?_
                                    refine lv_iadd hx hb dX12_tellsChanges_459 ?_
                                    refine lv_as (nI_add _ _) ?_
                                    refine lv_iload hx hb dX12_tellsChanges_460 (lv_at hl 4 rfl) ?_
                                    refine pp_iast hx hb hK h_past hS (Or.inr (rng_in (by omega))) (vp_in_nI (by omega) (by omega)) dX12_tellsChanges_462 (fun H locs hP9 hk35 _ hS => ?_)
                                    rw [nI_clamp (by omega)] at hP9
                                    have h_past : PP G (ar1 G a 108 1200 (upd pg ((120 * (q % 10)) + k) (bi (wv (Ns z) dl n0 n1 k q)))) H := hP9
                                    have h_o : PP G (modO a cy (nI 0)) H := kp hk35 h_o (dj_cons (ne_a ha (by omega)) (dj_nil))
                                    have h_bits : PP G (ar1 G a 104 120 u10) H := kp hk35 h_bits (dj_cons (ne_a ha (by omega)) (dj_nil))
                                    have h_times : PP G (ar1 G a 105 120 u14) H := kp hk35 h_times (dj_cons (ne_a ha (by omega)) (dj_nil))
                                    have h_marks : PP G (ar1 G a 106 120 mf) H := kp hk35 h_marks (dj_cons (ne_a ha (by omega)) (dj_nil))
                                    have h_old : PP G (ar1 G a 107 120 of) H := kp hk35 h_old (dj_cons (ne_a ha (by omega)) (dj_nil))
                                    refine lv_iinc (v := nI (k + 1)) (lv' := [(10, .int (nI (k + 1))), (8, .int (nI ((tkZ (Ns z) dl n0 n1 q + rZ (Ns z) dl n0 n1 q k) + 0))), (7, .int (nI (rY (Ns z) dl n0 n1 q (tkY (Ns z) dl n0 n1 q) k))), (6, .int (nI ((tkX (Ns z) dl n0 n1 q + rX (Ns z) dl n0 n1 q k) + 0))), (16, .int (bi (wp (Ns z) dl n0 n1 k q))), (12, .int (bi (wv (Ns z) dl n0 n1 k q))), (15, .int (bi (bt (Ns z) n0 (nS (Ns z) k)))), (14, .int (bi (bt (Ns z) n0 (nF (Ns z) k)))), (13, .int ((nI q) - (nI (dl (nK (Ns z) k))))), (11, .int (nI ((120 * z) + k))), (0, .ref (a 93)), (1, .int (nI z)), (2, .int (nI n0)), (3, .int (nI n1)), (4, .int (nI w)), (5, .int (nI (mxT (Ns z) dl (nG (Ns z))))), (9, .int (nI q))]) hx hb dX12_tellsChanges_463 hl (k := 16) rfl (by first | exact nI_add _ 1 | decide) (by decide) rfl (fun ls hl => ?_)
                                    refine lv_goto (tgt := 174) hx hb dX12_tellsChanges_466 (by decide) ?_
                                    exact ih20 (k + 1) (upd pg ((120 * (q % 10)) + k) (bi (wv (Ns z) dl n0 n1 k q))) _ _ _ ⟨h_o, h_bits, h_times, h_marks, h_old, h_past, hS, (by have h9 := r_n (N := (Ns z)) (dl := dl) (n0 := n0) (n1 := n1) (t := q) (x := tkX (Ns z) dl n0 n1 q) (y := tkY (Ns z) dl n0 n1 q) (z := tkZ (Ns z) dl n0 n1 q) (k := k) (fun q => q.2 (bi_inj c395)); rw [h9.1, h9.2.1, h9.2.2]; exact lv_sub hl [10, 11, 12, 13, 14, 15, 3, 2, 1, 16, 0] rfl), by omega, RG_s hG c182 hg9⟩ (by show nG (Ns z) - (k + 1) < nG (Ns z) - k; omega)
                            · skip
                              have c356 := cv_eq (by omega) (by omega) (show nI q = nI 0 from c356)
                              refine lv_aload_n hx hb dX12_tellsChanges_359 rfl (lv_at hl 5 rfl) ?_
                              refine va_get (D := G.1) (ci := 12) (v := .ref (a 107)) (C := RX12) (T := TX12) (N := 23) hx hb hts inX12_tellsChanges_12 hown hK h_o 0 rfl rfl 13 (by decide) (hts (.fieldLink RX12 49 "GateLedgerModel" "old" "[I") (List.mem_of_getElem? (i := 3) (by decide +kernel))) (fun _ h9 => h9) rfl dX12_tellsChanges_360 ?_
                              refine lv_iload hx hb dX12_tellsChanges_363 (lv_at hl 15 rfl) ?_
                              refine pp_iald hx hb hK h_old 0 rfl (vp_in_nI (by omega) (by omega)) dX12_tellsChanges_365 ?_
                              refine lv_as (congrArg of (nI_clamp (by omega))) ?_
                              refine lv_as (y := bi (wp (Ns z) dl n0 n1 k q)) ((ho4 _ c182).trans (congrArg bi (wp_0 c356).symm)) ?_
                              refine lv_goto (tgt := 387) hx hb dX12_tellsChanges_366 (by decide) ?_
                              refine lv_istore (lv' := [(16, .int (bi (wp (Ns z) dl n0 n1 k q))), (12, .int (bi (wv (Ns z) dl n0 n1 k q))), (15, .int (bi (bt (Ns z) n0 (nS (Ns z) k)))), (14, .int (bi (bt (Ns z) n0 (nF (Ns z) k)))), (13, .int ((nI q) - (nI (dl (nK (Ns z) k))))), (11, .int (nI ((120 * z) + k))), (0, .ref (a 93)), (1, .int (nI z)), (2, .int (nI n0)), (3, .int (nI n1)), (4, .int (nI w)), (5, .int (nI (mxT (Ns z) dl (nG (Ns z))))), (6, .int (nI (tkX (Ns z) dl n0 n1 q + rX (Ns z) dl n0 n1 q k))), (7, .int (nI (rY (Ns z) dl n0 n1 q (tkY (Ns z) dl n0 n1 q) k))), (8, .int (nI (tkZ (Ns z) dl n0 n1 q + rZ (Ns z) dl n0 n1 q k))), (9, .int (nI q)), (10, .int (nI k))]) hx hb dX12_tellsChanges_387 hl (by decide) rfl (fun ls hl => ?_)
                              refine lv_iload hx hb dX12_tellsChanges_389 (lv_at hl 12 rfl) ?_
                              refine lv_iload hx hb dX12_tellsChanges_391 (lv_at hl 1 rfl) ?_
                              refine lv_iload hx hb dX12_tellsChanges_393 (lv_at hl 0 rfl) ?_
                              refine lv_icmp_ne (tgt := 402) hx hb dX12_tellsChanges_395 (by decide) (fun c395 => ?_) (fun c395 => ?_)
                              · skip
                                refine lv_iconst (v := nI 1) hx hb dX12_tellsChanges_402 (by decide) ?_
                                refine lv_iadd hx hb dX12_tellsChanges_403 ?_
                                refine lv_as (nI_add _ _) ?_
                                refine lv_istore (lv' := [(6, .int (nI ((tkX (Ns z) dl n0 n1 q + rX (Ns z) dl n0 n1 q k) + 1))), (16, .int (bi (wp (Ns z) dl n0 n1 k q))), (12, .int (bi (wv (Ns z) dl n0 n1 k q))), (15, .int (bi (bt (Ns z) n0 (nS (Ns z) k)))), (14, .int (bi (bt (Ns z) n0 (nF (Ns z) k)))), (13, .int ((nI q) - (nI (dl (nK (Ns z) k))))), (11, .int (nI ((120 * z) + k))), (0, .ref (a 93)), (1, .int (nI z)), (2, .int (nI n0)), (3, .int (nI n1)), (4, .int (nI w)), (5, .int (nI (mxT (Ns z) dl (nG (Ns z))))), (7, .int (nI (rY (Ns z) dl n0 n1 q (tkY (Ns z) dl n0 n1 q) k))), (8, .int (nI (tkZ (Ns z) dl n0 n1 q + rZ (Ns z) dl n0 n1 q k))), (9, .int (nI q)), (10, .int (nI k))]) hx hb dX12_tellsChanges_404 hl (by decide) rfl (fun ls hl => ?_)
                                refine lv_iload hx hb dX12_tellsChanges_406 (lv_at hl 2 rfl) ?_
                                refine lv_iload hx hb dX12_tellsChanges_408 (lv_at hl 1 rfl) ?_
                                refine lv_icmp_ne (tgt := 418) hx hb dX12_tellsChanges_410 (by decide) (fun c410 => ?_) (fun c410 => ?_)
                                · skip
                                  refine lv_iload hx hb dX12_tellsChanges_418 (lv_at hl 15 rfl) ?_
                                  refine lv_istore (lv' := [(7, .int (nI q)), (6, .int (nI ((tkX (Ns z) dl n0 n1 q + rX (Ns z) dl n0 n1 q k) + 1))), (16, .int (bi (wp (Ns z) dl n0 n1 k q))), (12, .int (bi (wv (Ns z) dl n0 n1 k q))), (15, .int (bi (bt (Ns z) n0 (nS (Ns z) k)))), (14, .int (bi (bt (Ns z) n0 (nF (Ns z) k)))), (13, .int ((nI q) - (nI (dl (nK (Ns z) k))))), (11, .int (nI ((120 * z) + k))), (0, .ref (a 93)), (1, .int (nI z)), (2, .int (nI n0)), (3, .int (nI n1)), (4, .int (nI w)), (5, .int (nI (mxT (Ns z) dl (nG (Ns z))))), (8, .int (nI (tkZ (Ns z) dl n0 n1 q + rZ (Ns z) dl n0 n1 q k))), (9, .int (nI q)), (10, .int (nI k))]) hx hb dX12_tellsChanges_420 hl (by decide) rfl (fun ls hl => ?_)
                                  refine lv_iload hx hb dX12_tellsChanges_422 (lv_at hl 14 rfl) ?_
                                  refine lv_iload hx hb dX12_tellsChanges_424 (lv_at hl 3 rfl) ?_
                                  refine lv_iload hx hb dX12_tellsChanges_426 (lv_at hl 2 rfl) ?_
                                  refine lv_icmp_ne (tgt := 435) hx hb dX12_tellsChanges_428 (by decide) (fun c428 => ?_) (fun c428 => ?_)
                                  · skip
                                    refine lv_aload_n hx hb dX12_tellsChanges_435 rfl (lv_at hl 8 rfl) ?_
                                    refine va_get (D := G.1) (ci := 12) (v := .ref (a 106)) (C := RX12) (T := TX12) (N := 23) hx hb hts inX12_tellsChanges_12 hown hK h_o 0 rfl rfl 12 (by decide) (hts (.fieldLink RX12 46 "GateLedgerModel" "marks" "[I") (List.mem_of_getElem? (i := 5) (by decide +kernel))) (fun _ h9 => h9) rfl dX12_tellsChanges_436 ?_
                                    refine lv_iload hx hb dX12_tellsChanges_439 (lv_at hl 16 rfl) ?_
                                    refine pp_iald hx hb hK h_marks 0 rfl (vp_in_nI (by omega) (by omega)) dX12_tellsChanges_441 ?_
                                    refine lv_as (congrArg mf (nI_clamp (by omega))) ?_
                                    refine lv_as (y := bi (ouT (Ns z) (nO (Ns z)) k)) (hm4 _ c182) ?_
                                    refine lv_iadd hx hb dX12_tellsChanges_442 ?_
                                    refine lv_as (y := nI (tkZ (Ns z) dl n0 n1 q + rZ (Ns z) dl n0 n1 q k + (if (∃ r, r < nO (Ns z) ∧ nU (Ns z) r = k) then 1 else 0))) ((congrArg (fun q9 : Int32 => nI (tkZ (Ns z) dl n0 n1 q + rZ (Ns z) dl n0 n1 q k) + q9) (ou_if _)).trans (nI_add _ _)) ?_
                                    refine lv_istore (lv' := [(8, .int (nI (tkZ (Ns z) dl n0 n1 q + rZ (Ns z) dl n0 n1 q k + (if (∃ r, r < nO (Ns z) ∧ nU (Ns z) r = k) then 1 else 0)))), (7, .int (nI q)), (6, .int (nI ((tkX (Ns z) dl n0 n1 q + rX (Ns z) dl n0 n1 q k) + 1))), (16, .int (bi (wp (Ns z) dl n0 n1 k q))), (12, .int (bi (wv (Ns z) dl n0 n1 k q))), (15, .int (bi (bt (Ns z) n0 (nS (Ns z) k)))), (14, .int (bi (bt (Ns z) n0 (nF (Ns z) k)))), (13, .int ((nI q) - (nI (dl (nK (Ns z) k))))), (11, .int (nI ((120 * z) + k))), (0, .ref (a 93)), (1, .int (nI z)), (2, .int (nI n0)), (3, .int (nI n1)), (4, .int (nI w)), (5, .int (nI (mxT (Ns z) dl (nG (Ns z))))), (9, .int (nI q)), (10, .int (nI k))]) hx hb dX12_tellsChanges_443 hl (by decide) rfl (fun ls hl => ?_)
                                    refine lv_aload_n hx hb dX12_tellsChanges_445 rfl (lv_at hl 9 rfl) ?_
                                    refine va_get (D := G.1) (ci := 12) (v := .ref (a 108)) (C := RX12) (T := TX12) (N := 23) hx hb hts inX12_tellsChanges_12 hown hK h_o 0 rfl rfl 14 (by decide) (hts (.fieldLink RX12 52 "GateLedgerModel" "past" "[I") (List.mem_of_getElem? (i := 11) (by decide +kernel))) (fun _ h9 => h9) rfl dX12_tellsChanges_446 ?_
                                    refine lv_bipush (v := nI 120) hx hb dX12_tellsChanges_449 (by decide) ?_
                                    refine lv_iload hx hb dX12_tellsChanges_451 (lv_at hl 15 rfl) ?_
                                    refine lv_bipush (v := nI 10) hx hb dX12_tellsChanges_453 (by decide) ?_
                                    refine lv_irem hx hb dX12_tellsChanges_455 (nI_ne0 (by omega) (by omega)) ?_
                                    refine lv_as (pk_rem (by omega) (by omega) (by omega)) ?_
                                    refine lv_imul hx hb dX12_tellsChanges_456 ?_
                                    refine lv_as (pk_mul _ _) ?_
                                    refine lv_iload hx hb dX12_tellsChanges_457 (lv_at hl 16 rfl) ?_
                                    refine lv_iadd hx hb dX12_tellsChanges_459 ?_
                                    refine lv_as (nI_add _ _) ?_
                                    refine lv_iload hx hb dX12_tellsChanges_460 (lv_at hl 4 rfl) ?_
                                    refine pp_iast hx hb hK h_past hS (Or.inr (rng_in (by omega))) (vp_in_nI (by omega) (by omega)) dX12_tellsChanges_462 (fun H locs hP9 hk36 _ hS => ?_)
                                    rw [nI_clamp (by omega)] at hP9
                                    have h_past : PP G (ar1 G a 108 1200 (upd pg ((120 * (q % 10)) + k) (bi (wv (Ns z) dl n0 n1 k q)))) H := hP9
                                    have h_o : PP G (modO a cy (nI 0)) H := kp hk36 h_o (dj_cons (ne_a ha (by omega)) (dj_nil))
                                    have h_bits : PP G (ar1 G a 104 120 u10) H := kp hk36 h_bits (dj_cons (ne_a ha (by omega)) (dj_nil))
                                    have h_times : PP G (ar1 G a 105 120 u14) H := kp hk36 h_times (dj_cons (ne_a ha (by omega)) (dj_nil))
                                    have h_marks : PP G (ar1 G a 106 120 mf) H := kp hk36 h_marks (dj_cons (ne_a ha (by omega)) (dj_nil))
                                    have h_old : PP G (ar1 G a 107 120 of) H := kp hk36 h_old (dj_cons (ne_a ha (by omega)) (dj_nil))
                                    refine lv_iinc (v := nI (k + 1)) (lv' := [(10, .int (nI (k + 1))), (8, .int (nI (tkZ (Ns z) dl n0 n1 q + rZ (Ns z) dl n0 n1 q k + (if (∃ r, r < nO (Ns z) ∧ nU (Ns z) r = k) then 1 else 0)))), (7, .int (nI q)), (6, .int (nI ((tkX (Ns z) dl n0 n1 q + rX (Ns z) dl n0 n1 q k) + 1))), (16, .int (bi (wp (Ns z) dl n0 n1 k q))), (12, .int (bi (wv (Ns z) dl n0 n1 k q))), (15, .int (bi (bt (Ns z) n0 (nS (Ns z) k)))), (14, .int (bi (bt (Ns z) n0 (nF (Ns z) k)))), (13, .int ((nI q) - (nI (dl (nK (Ns z) k))))), (11, .int (nI ((120 * z) + k))), (0, .ref (a 93)), (1, .int (nI z)), (2, .int (nI n0)), (3, .int (nI n1)), (4, .int (nI w)), (5, .int (nI (mxT (Ns z) dl (nG (Ns z))))), (9, .int (nI q))]) hx hb dX12_tellsChanges_463 hl (k := 16) rfl (by first | exact nI_add _ 1 | decide) (by decide) rfl (fun ls hl => ?_)
                                    refine lv_goto (tgt := 174) hx hb dX12_tellsChanges_466 (by decide) ?_
                                    exact ih20 (k + 1) (upd pg ((120 * (q % 10)) + k) (bi (wv (Ns z) dl n0 n1 k q))) _ _ _ ⟨h_o, h_bits, h_times, h_marks, h_old, h_past, hS, (by have h9 := r_y (N := (Ns z)) (dl := dl) (n0 := n0) (n1 := n1) (t := q) (x := tkX (Ns z) dl n0 n1 q) (y := tkY (Ns z) dl n0 n1 q) (z := tkZ (Ns z) dl n0 n1 q) (k := k) ⟨c211, fun q => c395 (congrArg bi q)⟩; rw [h9.1, h9.2.1, h9.2.2, Nat.max_eq_right hry]; exact lv_sub hl [10, 11, 12, 13, 14, 15, 3, 2, 1, 16, 0] rfl), by omega, RG_s hG c182 hg9⟩ (by show nG (Ns z) - (k + 1) < nG (Ns z) - k; omega)
                                  · skip
                                    first | exact absurd c428 c395 | exact absurd c395 c428
                                · skip
                                  first | exact absurd c410 c395 | exact absurd c395 c410
                              · skip
                                refine lv_iconst (v := nI 0) hx hb dX12_tellsChanges_398 (by decide) ?_
                                refine lv_goto (tgt := 403) hx hb dX12_tellsChanges_399 (by decide) ?_
                                refine lv_iadd hx hb dX12_tellsChanges_403 ?_
                                refine lv_as (nI_add _ _) ?_
                                refine lv_istore (lv' := [(6, .int (nI ((tkX (Ns z) dl n0 n1 q + rX (Ns z) dl n0 n1 q k) + 0))), (16, .int (bi (wp (Ns z) dl n0 n1 k q))), (12, .int (bi (wv (Ns z) dl n0 n1 k q))), (15, .int (bi (bt (Ns z) n0 (nS (Ns z) k)))), (14, .int (bi (bt (Ns z) n0 (nF (Ns z) k)))), (13, .int ((nI q) - (nI (dl (nK (Ns z) k))))), (11, .int (nI ((120 * z) + k))), (0, .ref (a 93)), (1, .int (nI z)), (2, .int (nI n0)), (3, .int (nI n1)), (4, .int (nI w)), (5, .int (nI (mxT (Ns z) dl (nG (Ns z))))), (7, .int (nI (rY (Ns z) dl n0 n1 q (tkY (Ns z) dl n0 n1 q) k))), (8, .int (nI (tkZ (Ns z) dl n0 n1 q + rZ (Ns z) dl n0 n1 q k))), (9, .int (nI q)), (10, .int (nI k))]) hx hb dX12_tellsChanges_404 hl (by decide) rfl (fun ls hl => ?_)
                                refine lv_iload hx hb dX12_tellsChanges_406 (lv_at hl 2 rfl) ?_
                                refine lv_iload hx hb dX12_tellsChanges_408 (lv_at hl 1 rfl) ?_
                                refine lv_icmp_ne (tgt := 418) hx hb dX12_tellsChanges_410 (by decide) (fun c410 => ?_) (fun c410 => ?_)
                                · skip
                                  first | exact absurd c410 c395 | exact absurd c395 c410
                                · skip
                                  refine lv_iload hx hb dX12_tellsChanges_413 (lv_at hl 13 rfl) ?_
                                  refine lv_goto (tgt := 420) hx hb dX12_tellsChanges_415 (by decide) ?_
                                  refine lv_istore (lv' := [(7, .int (nI (rY (Ns z) dl n0 n1 q (tkY (Ns z) dl n0 n1 q) k))), (6, .int (nI ((tkX (Ns z) dl n0 n1 q + rX (Ns z) dl n0 n1 q k) + 0))), (16, .int (bi (wp (Ns z) dl n0 n1 k q))), (12, .int (bi (wv (Ns z) dl n0 n1 k q))), (15, .int (bi (bt (Ns z) n0 (nS (Ns z) k)))), (14, .int (bi (bt (Ns z) n0 (nF (Ns z) k)))), (13, .int ((nI q) - (nI (dl (nK (Ns z) k))))), (11, .int (nI ((120 * z) + k))), (0, .ref (a 93)), (1, .int (nI z)), (2, .int (nI n0)), (3, .int (nI n1)), (4, .int (nI w)), (5, .int (nI (mxT (Ns z) dl (nG (Ns z))))), (8, .int (nI (tkZ (Ns z) dl n0 n1 q + rZ (Ns z) dl n0 n1 q k))), (9, .int (nI q)), (10, .int (nI k))]) hx hb dX12_tellsChanges_420 hl (by decide) rfl (fun ls hl => ?_)
                                  refine lv_iload hx hb dX12_tellsChanges_422 (lv_at hl 14 rfl) ?_
                                  refine lv_iload hx hb dX12_tellsChanges_424 (lv_at hl 3 rfl) ?_
                                  refine lv_iload hx hb dX12_tellsChanges_426 (lv_at hl 2 rfl) ?_
                                  refine lv_icmp_ne (tgt := 435) hx hb dX12_tellsChanges_428 (by decide) (fun c428 => ?_) (fun c428 => ?_)
                                  · skip
                                    first | exact absurd c428 c395 | exact absurd c395 c428
                                  · skip
                                    refine lv_iconst (v := nI 0) hx hb dX12_tellsChanges_431 (by decide) ?_
                                    refine lv_goto (tgt := 442) hx hb dX12_tellsChanges_432 (by decide) ?_
                                    refine lv_iadd hx hb dX12_tellsChanges_442 ?_
                                    refine lv_as (nI_add _ _) ?_
                                    refine lv_istore (lv' := [(8, .int (nI ((tkZ (Ns z) dl n0 n1 q + rZ (Ns z) dl n0 n1 q k) + 0))), (7, .int (nI (rY (Ns z) dl n0 n1 q (tkY (Ns z) dl n0 n1 q) k))), (6, .int (nI ((tkX (Ns z) dl n0 n1 q + rX (Ns z) dl n0 n1 q k) + 0))), (16, .int (bi (wp (Ns z) dl n0 n1 k q))), (12, .int (bi (wv (Ns z) dl n0 n1 k q))), (15, .int (bi (bt (Ns z) n0 (nS (Ns z) k)))), (14, .int (bi (bt (Ns z) n0 (nF (Ns z) k)))), (13, .int ((nI q) - (nI (dl (nK (Ns z) k))))), (11, .int (nI ((120 * z) + k))), (0, .ref (a 93)), (1, .int (nI z)), (2, .int (nI n0)), (3, .int (nI n1)), (4, .int (nI w)), (5, .int (nI (mxT (Ns z) dl (nG (Ns z))))), (9, .int (nI q)), (10, .int (nI k))]) hx hb dX12_tellsChanges_443 hl (by decide) rfl (fun ls hl => ?_)
                                    refine lv_aload_n hx hb dX12_tellsChanges_445 rfl (lv_at hl 9 rfl) ?_
                                    refine va_get (D := G.1) (ci := 12) (v := .ref (a 108)) (C := RX12) (T := TX12) (N := 23) hx hb hts inX12_tellsChanges_12 hown hK h_o 0 rfl rfl 14 (by decide) (hts (.fieldLink RX12 52 "GateLedgerModel" "past" "[I") (List.mem_of_getElem? (i := 11) (by decide +kernel))) (fun _ h9 => h9) rfl dX12_tellsChanges_446 ?_
                                    refine lv_bipush (v := nI 120) hx hb dX12_tellsChanges_449 (by decide) ?_
                                    refine lv_iload hx hb dX12_tellsChanges_451 (lv_at hl 15 rfl) ?_
                                    refine lv_bipush (v := nI 10) hx hb dX12_tellsChanges_453 (by decide) ?_
                                    refine lv_irem hx hb dX12_tellsChanges_455 (nI_ne0 (by omega) (by omega)) ?_
                                    refine lv_as (pk_rem (by omega) (by omega) (by omega)) ?_
                                    refine lv_imul hx hb dX12_tellsChanges_456 ?_
                                    refine lv_as (pk_mul _ _) ?_
                                    refine lv_iload hx hb dX12_tellsChanges_457 (lv_at hl 16 rfl) ?_
                                    refine lv_iadd hx hb dX12_tellsChanges_459 ?_
                                    refine lv_as (nI_add _ _) ?_
                                    refine lv_iload hx hb dX12_tellsChanges_460 (lv_at hl 4 rfl) ?_
                                    refine pp_iast hx hb hK h_past hS (Or.inr (rng_in (by omega))) (vp_in_nI (by omega) (by omega)) dX12_tellsChanges_462 (fun H locs hP9 hk37 _ hS => ?_)
                                    rw [nI_clamp (by omega)] at hP9
                                    have h_past : PP G (ar1 G a 108 1200 (upd pg ((120 * (q % 10)) + k) (bi (wv (Ns z) dl n0 n1 k q)))) H := hP9
                                    have h_o : PP G (modO a cy (nI 0)) H := kp hk37 h_o (dj_cons (ne_a ha (by omega)) (dj_nil))
                                    have h_bits : PP G (ar1 G a 104 120 u10) H := kp hk37 h_bits (dj_cons (ne_a ha (by omega)) (dj_nil))
                                    have h_times : PP G (ar1 G a 105 120 u14) H := kp hk37 h_times (dj_cons (ne_a ha (by omega)) (dj_nil))
                                    have h_marks : PP G (ar1 G a 106 120 mf) H := kp hk37 h_marks (dj_cons (ne_a ha (by omega)) (dj_nil))
                                    have h_old : PP G (ar1 G a 107 120 of) H := kp hk37 h_old (dj_cons (ne_a ha (by omega)) (dj_nil))
                                    refine lv_iinc (v := nI (k + 1)) (lv' := [(10, .int (nI (k + 1))), (8, .int (nI ((tkZ (Ns z) dl n0 n1 q + rZ (Ns z) dl n0 n1 q k) + 0))), (7, .int (nI (rY (Ns z) dl n0 n1 q (tkY (Ns z) dl n0 n1 q) k))), (6, .int (nI ((tkX (Ns z) dl n0 n1 q + rX (Ns z) dl n0 n1 q k) + 0))), (16, .int (bi (wp (Ns z) dl n0 n1 k q))), (12, .int (bi (wv (Ns z) dl n0 n1 k q))), (15, .int (bi (bt (Ns z) n0 (nS (Ns z) k)))), (14, .int (bi (bt (Ns z) n0 (nF (Ns z) k)))), (13, .int ((nI q) - (nI (dl (nK (Ns z) k))))), (11, .int (nI ((120 * z) + k))), (0, .ref (a 93)), (1, .int (nI z)), (2, .int (nI n0)), (3, .int (nI n1)), (4, .int (nI w)), (5, .int (nI (mxT (Ns z) dl (nG (Ns z))))), (9, .int (nI q))]) hx hb dX12_tellsChanges_463 hl (k := 16) rfl (by first | exact nI_add _ 1 | decide) (by decide) rfl (fun ls hl => ?_)
                                    refine lv_goto (tgt := 174) hx hb dX12_tellsChanges_466 (by decide) ?_
                                    exact ih20 (k + 1) (upd pg ((120 * (q % 10)) + k) (bi (wv (Ns z) dl n0 n1 k q))) _ _ _ ⟨h_o, h_bits, h_times, h_marks, h_old, h_past, hS, (by have h9 := r_n (N := (Ns z)) (dl := dl) (n0 := n0) (n1 := n1) (t := q) (x := tkX (Ns z) dl n0 n1 q) (y := tkY (Ns z) dl n0 n1 q) (z := tkZ (Ns z) dl n0 n1 q) (k := k) (fun q => q.2 (bi_inj c395)); rw [h9.1, h9.2.1, h9.2.2]; exact lv_sub hl [10, 11, 12, 13, 14, 15, 3, 2, 1, 16, 0] rfl), by omega, RG_s hG c182 hg9⟩ (by show nG (Ns z) - (k + 1) < nG (Ns z) - k; omega)
              · skip
                have c112 := cv_nle (by omega) (by omega) c112
                have hu9 := hN.u c112
                refine lv_aload_n hx hb dX12_tellsChanges_115 rfl (lv_at hl 0 rfl) ?_
                refine va_get (D := G.1) (ci := 12) (v := .ref (a 106)) (C := RX12) (T := TX12) (N := 23) hx hb hts inX12_tellsChanges_12 hown hK h_o 0 rfl rfl 12 (by decide) (hts (.fieldLink RX12 46 "GateLedgerModel" "marks" "[I") (List.mem_of_getElem? (i := 5) (by decide +kernel))) (fun _ h9 => h9) rfl dX12_tellsChanges_116 ?_
                refine lv_aload_n hx hb dX12_tellsChanges_119 rfl (lv_at hl 0 rfl) ?_
                refine va_get (D := G.1) (ci := 12) (v := .ref (a 100)) (C := RX12) (T := TX12) (N := 23) hx hb hts inX12_tellsChanges_12 hown hK h_o 0 rfl rfl 6 (by decide) (hts (.fieldLink RX12 28 "GateLedgerModel" "outs" "[I") (List.mem_of_getElem? (i := 7) (by decide +kernel))) (fun _ h9 => h9) rfl dX12_tellsChanges_120 ?_
                refine lv_bipush (v := nI 16) hx hb dX12_tellsChanges_123 (by decide) ?_
                refine lv_iload_n hx hb dX12_tellsChanges_125 rfl (lv_at hl 1 rfl) ?_
                refine lv_imul hx hb dX12_tellsChanges_126 ?_
                refine lv_as (pk_mul _ _) ?_
                refine lv_iload hx hb dX12_tellsChanges_127 (lv_at hl 5 rfl) ?_
                refine lv_iadd hx hb dX12_tellsChanges_129 ?_
                refine lv_as (nI_add _ _) ?_
                refine pp_iald hx hb hK (ro hS h_y (dj_cons (or_no (rng_no ha (by omega)) (rng_no ha (by omega))) (dj_cons (or_no (rng_no ha (by omega)) (rng_no ha (by omega))) (dj_nil)))) 0 rfl (vp_in_nI (by omega) (by omega)) dX12_tellsChanges_130 ?_
                refine lv_as (congrArg (UF Ns) (nI_clamp (by omega))) ?_
                refine lv_as (y := nI (nU (Ns z) q)) (UF_at (by omega)) ?_
                refine lv_iconst (v := nI 1) hx hb dX12_tellsChanges_131 (by decide) ?_
                refine pp_iast hx hb hK h_marks hS (Or.inr (rng_in (by omega))) (vp_in_nI (by omega) (by omega)) dX12_tellsChanges_132 (fun H locs hP9 hk38 _ hS => ?_)
                rw [nI_clamp (by omega)] at hP9
                have h_marks : PP G (ar1 G a 106 120 (upd mf (nU (Ns z) q) (nI 1))) H := hP9
                have h_o : PP G (modO a cy (nI 0)) H := kp hk38 h_o (dj_cons (ne_a ha (by omega)) (dj_nil))
                have h_bits : PP G (ar1 G a 104 120 u4) H := kp hk38 h_bits (dj_cons (ne_a ha (by omega)) (dj_nil))
                have h_times : PP G (ar1 G a 105 120 t0) H := kp hk38 h_times (dj_cons (ne_a ha (by omega)) (dj_nil))
                have h_old : PP G (ar1 G a 107 120 of) H := kp hk38 h_old (dj_cons (ne_a ha (by omega)) (dj_nil))
                have h_past : PP G (ar1 G a 108 1200 q0) H := kp hk38 h_past (dj_cons (ne_a ha (by omega)) (dj_nil))
                refine lv_iinc (v := nI (q + 1)) (lv' := [(5, .int (nI (q + 1))), (0, .ref (a 93)), (1, .int (nI z)), (2, .int (nI n0)), (3, .int (nI n1)), (4, .int (nI w))]) hx hb dX12_tellsChanges_133 hl (k := 5) rfl (by first | exact nI_add _ 1 | decide) (by decide) rfl (fun ls hl => ?_)
                refine lv_goto (tgt := 104) hx hb dX12_tellsChanges_136 (by decide) ?_
                exact ih9 (q + 1) (upd mf (nU (Ns z) q) (nI 1)) _ _ _ ⟨h_o, h_bits, h_times, h_marks, h_old, h_past, hS, lv_sub hl [1, 2, 3, 4, 5, 0] rfl, by omega, set_bi hm3⟩ (by show nO (Ns z) - (q + 1) < nO (Ns z) - q; omega)
            · skip
              have c70 := cv_nle (by omega) (by omega) c70
              refine lv_aload_n hx hb dX12_tellsChanges_73 rfl (lv_at hl 0 rfl) ?_
              refine va_get (D := G.1) (ci := 12) (v := .ref (a 107)) (C := RX12) (T := TX12) (N := 23) hx hb hts inX12_tellsChanges_12 hown hK h_o 0 rfl rfl 13 (by decide) (hts (.fieldLink RX12 49 "GateLedgerModel" "old" "[I") (List.mem_of_getElem? (i := 3) (by decide +kernel))) (fun _ h9 => h9) rfl dX12_tellsChanges_74 ?_
              refine lv_iload hx hb dX12_tellsChanges_77 (lv_at hl 5 rfl) ?_
              refine lv_aload_n hx hb dX12_tellsChanges_79 rfl (lv_at hl 0 rfl) ?_
              refine va_get (D := G.1) (ci := 12) (v := .ref (a 104)) (C := RX12) (T := TX12) (N := 23) hx hb hts inX12_tellsChanges_12 hown hK h_o 0 rfl rfl 10 (by decide) (hts (.fieldLink RX12 40 "GateLedgerModel" "bits" "[I") (List.mem_of_getElem? (i := 4) (by decide +kernel))) (fun _ h9 => h9) rfl dX12_tellsChanges_80 ?_
              refine lv_iload hx hb dX12_tellsChanges_83 (lv_at hl 5 rfl) ?_
              refine pp_iald hx hb hK h_bits 0 rfl (vp_in_nI (by omega) (by omega)) dX12_tellsChanges_85 ?_
              refine lv_as (congrArg u4 (nI_clamp (by omega))) ?_
              refine lv_as (y := bi (bt (Ns z) n0 k)) (hbx _ c70) ?_
              refine pp_iast hx hb hK h_old hS (Or.inr (rng_in (by omega))) (vp_in_nI (by omega) (by omega)) dX12_tellsChanges_86 (fun H locs hP9 hk39 _ hS => ?_)
              rw [nI_clamp (by omega)] at hP9
              have h_old : PP G (ar1 G a 107 120 (upd of k (bi (bt (Ns z) n0 k)))) H := hP9
              have h_o : PP G (modO a cy (nI 0)) H := kp hk39 h_o (dj_cons (ne_a ha (by omega)) (dj_nil))
              have h_bits : PP G (ar1 G a 104 120 u4) H := kp hk39 h_bits (dj_cons (ne_a ha (by omega)) (dj_nil))
              have h_times : PP G (ar1 G a 105 120 t0) H := kp hk39 h_times (dj_cons (ne_a ha (by omega)) (dj_nil))
              have h_marks : PP G (ar1 G a 106 120 mf) H := kp hk39 h_marks (dj_cons (ne_a ha (by omega)) (dj_nil))
              have h_past : PP G (ar1 G a 108 1200 q0) H := kp hk39 h_past (dj_cons (ne_a ha (by omega)) (dj_nil))
              refine lv_aload_n hx hb dX12_tellsChanges_87 rfl (lv_at hl 0 rfl) ?_
              refine va_get (D := G.1) (ci := 12) (v := .ref (a 106)) (C := RX12) (T := TX12) (N := 23) hx hb hts inX12_tellsChanges_12 hown hK h_o 0 rfl rfl 12 (by decide) (hts (.fieldLink RX12 46 "GateLedgerModel" "marks" "[I") (List.mem_of_getElem? (i := 5) (by decide +kernel))) (fun _ h9 => h9) rfl dX12_tellsChanges_88 ?_
              refine lv_iload hx hb dX12_tellsChanges_91 (lv_at hl 5 rfl) ?_
              refine lv_iconst (v := nI 0) hx hb dX12_tellsChanges_93 (by decide) ?_
              refine pp_iast hx hb hK h_marks hS (Or.inr (rng_in (by omega))) (vp_in_nI (by omega) (by omega)) dX12_tellsChanges_94 (fun H locs hP9 hk40 _ hS => ?_)
              rw [nI_clamp (by omega)] at hP9
              have h_marks : PP G (ar1 G a 106 120 (upd mf k (nI 0))) H := hP9
              have h_o : PP G (modO a cy (nI 0)) H := kp hk40 h_o (dj_cons (ne_a ha (by omega)) (dj_nil))
              have h_bits : PP G (ar1 G a 104 120 u4) H := kp hk40 h_bits (dj_cons (ne_a ha (by omega)) (dj_nil))
              have h_times : PP G (ar1 G a 105 120 t0) H := kp hk40 h_times (dj_cons (ne_a ha (by omega)) (dj_nil))
              have h_old : PP G (ar1 G a 107 120 (upd of k (bi (bt (Ns z) n0 k)))) H := kp hk40 h_old (dj_cons (ne_a ha (by omega)) (dj_nil))
              have h_past : PP G (ar1 G a 108 1200 q0) H := kp hk40 h_past (dj_cons (ne_a ha (by omega)) (dj_nil))
              refine lv_iinc (v := nI (k + 1)) (lv' := [(5, .int (nI (k + 1))), (0, .ref (a 93)), (1, .int (nI z)), (2, .int (nI n0)), (3, .int (nI n1)), (4, .int (nI w))]) hx hb dX12_tellsChanges_95 hl (k := 5) rfl (by first | exact nI_add _ 1 | decide) (by decide) rfl (fun ls hl => ?_)
              refine lv_goto (tgt := 62) hx hb dX12_tellsChanges_98 (by decide) ?_
              exact ih8 (k + 1) (upd of k (bi (bt (Ns z) n0 k))) (upd mf k (nI 0)) _ _ _ ⟨h_o, h_bits, h_times, h_marks, h_old, h_past, hS, lv_sub hl [1, 2, 3, 4, 5, 0] rfl, by omega, upd_fill (v := fun r => bi (bt (Ns z) n0 r)) ho1 rfl, upd_fill (v := fun _ => nI 0) hm1 rfl⟩ (by show nG (Ns z) - (k + 1) < nG (Ns z) - k; omega)
          · exact absurd c48 (by decide)
        · skip
          have c33 := bI_0.mp c33
          refine lv_iconst (v := nI 2) hx hb dX12_tellsChanges_36 (by decide) ?_
          refine lv_goto (tgt := 41) hx hb dX12_tellsChanges_37 (by decide) ?_
          refine pp_put (ci := 12) (v := .int (nI 2)) (ty := .int) (C := RX12) (T := TX12) (N := 23) hx hb hts inX12_tellsChanges_12 tyX12 tyX12_ok nmX12 hown hK h_o hS (Or.inl (rng_in (by omega))) rfl 22 (by decide) (hts (.fieldLink RX12 73 "GateLedgerModel" "thrown" "I") (List.mem_of_getElem? (i := 1) (by decide +kernel))) (fun _ h9 => h9) rfl (by decide +kernel) rfl rfl (Nat.le_of_ble_eq_true rfl) dX12_tellsChanges_41 (fun H locs hP9 hk41 _ hS => ?_)
          have h_o : PP G (modO a cy (nI 2)) H := hP9
          have h_bits : PP G (ar1 G a 104 120 b0) H := kp hk41 h_bits (dj_cons (ne_a ha (by omega)) (dj_nil))
          have h_times : PP G (ar1 G a 105 120 t0) H := kp hk41 h_times (dj_cons (ne_a ha (by omega)) (dj_nil))
          have h_marks : PP G (ar1 G a 106 120 m0) H := kp hk41 h_marks (dj_cons (ne_a ha (by omega)) (dj_nil))
          have h_old : PP G (ar1 G a 107 120 o0) H := kp hk41 h_old (dj_cons (ne_a ha (by omega)) (dj_nil))
          have h_past : PP G (ar1 G a 108 1200 q0) H := kp hk41 h_past (dj_cons (ne_a ha (by omega)) (dj_nil))
          refine lv_aload_n hx hb dX12_tellsChanges_44 rfl (lv_at hl 0 rfl) ?_
          refine va_get (D := G.1) (ci := 12) (v := .int (nI 2)) (C := RX12) (T := TX12) (N := 23) hx hb hts inX12_tellsChanges_12 hown hK h_o 0 rfl rfl 22 (by decide) (hts (.fieldLink RX12 73 "GateLedgerModel" "thrown" "I") (List.mem_of_getElem? (i := 1) (by decide +kernel))) (fun _ h9 => h9) rfl dX12_tellsChanges_45 ?_
          refine lv_if_le (tgt := 53) hx hb dX12_tellsChanges_48 (by decide) (fun c48 => ?_) (fun c48 => ?_)
          · exact absurd c48 (by decide)
          · skip
            refine lv_iconst (v := nI 0) hx hb dX12_tellsChanges_51 (by decide) ?_
            have e1 : cCh p9 f9 v9 w9 = 2 := (if_pos c5).trans (if_neg (fun q => c33 q.2.2))
            exact en_wi (b0, t0, m0, o0, q0) hx hb hr hlocks hS ⟨fun q => absurd (e1.symm.trans q) (by decide), trivial⟩ (by rw [e1]; exact ⟨h_o, h_bits, h_times, h_marks, h_old, h_past⟩) dX12_tellsChanges_52
  · skip
    have c5 := bI_0.mp c5
    refine lv_iconst (v := nI 1) hx hb dX12_tellsChanges_8 (by decide) ?_
    refine lv_goto (tgt := 41) hx hb dX12_tellsChanges_9 (by decide) ?_
    refine pp_put (ci := 12) (v := .int (nI 1)) (ty := .int) (C := RX12) (T := TX12) (N := 23) hx hb hts inX12_tellsChanges_12 tyX12 tyX12_ok nmX12 hown hK h_o hS (Or.inl (rng_in (by omega))) rfl 22 (by decide) (hts (.fieldLink RX12 73 "GateLedgerModel" "thrown" "I") (List.mem_of_getElem? (i := 1) (by decide +kernel))) (fun _ h9 => h9) rfl (by decide +kernel) rfl rfl (Nat.le_of_ble_eq_true rfl) dX12_tellsChanges_41 (fun H locs hP9 hk42 _ hS => ?_)
    have h_o : PP G (modO a cy (nI 1)) H := hP9
    have h_bits : PP G (ar1 G a 104 120 b0) H := kp hk42 h_bits (dj_cons (ne_a ha (by omega)) (dj_nil))
    have h_times : PP G (ar1 G a 105 120 t0) H := kp hk42 h_times (dj_cons (ne_a ha (by omega)) (dj_nil))
    have h_marks : PP G (ar1 G a 106 120 m0) H := kp hk42 h_marks (dj_cons (ne_a ha (by omega)) (dj_nil))
    have h_old : PP G (ar1 G a 107 120 o0) H := kp hk42 h_old (dj_cons (ne_a ha (by omega)) (dj_nil))
    have h_past : PP G (ar1 G a 108 1200 q0) H := kp hk42 h_past (dj_cons (ne_a ha (by omega)) (dj_nil))
    refine lv_aload_n hx hb dX12_tellsChanges_44 rfl (lv_at hl 0 rfl) ?_
    refine va_get (D := G.1) (ci := 12) (v := .int (nI 1)) (C := RX12) (T := TX12) (N := 23) hx hb hts inX12_tellsChanges_12 hown hK h_o 0 rfl rfl 22 (by decide) (hts (.fieldLink RX12 73 "GateLedgerModel" "thrown" "I") (List.mem_of_getElem? (i := 1) (by decide +kernel))) (fun _ h9 => h9) rfl dX12_tellsChanges_45 ?_
    refine lv_if_le (tgt := 53) hx hb dX12_tellsChanges_48 (by decide) (fun c48 => ?_) (fun c48 => ?_)
    · exact absurd c48 (by decide)
    · skip
      refine lv_iconst (v := nI 0) hx hb dX12_tellsChanges_51 (by decide) ?_
      have e1 : cCh p9 f9 v9 w9 = 1 := if_neg c5
      exact en_wi (b0, t0, m0, o0, q0) hx hb hr hlocks hS ⟨fun q => absurd (e1.symm.trans q) (by decide), trivial⟩ (by rw [e1]; exact ⟨h_o, h_bits, h_times, h_marks, h_old, h_past⟩) dX12_tellsChanges_52
set_option maxHeartbeats 4000000 in
set_option maxRecDepth 100000 in
/-- X12_changes -/
theorem c_X12_changes (l : Launch) (G : GG) (a : Nat → Nat) (ha : Inj a) (cy th : Int32) (Ns : Nat → NT) (fs sc : FN) (dl : Nat → Nat) (b0 t0 m0 o0 q0 : FN) (p9 f9 v9 w9 : Int32) (hW : ∀ z, z < 4 → WF (Ns z)) (hFS : FS Ns fs sc) (hd : DL dl)  : Met l yX12_changes wsX12_changes ({ frames := 3, cells := 0, slots := 0, locals := 85 } : Room) (PcB G [.ref (a 93), .int p9, .int f9, .int v9, .int w9] (fun H => PP G (modO a cy th) H ∧ PP G (sixW G a Ns fs sc) H ∧ PP G (twoW G a Ns) H ∧ PP G (ar1 G a 102 4 (fun z => nI (dl z))) H ∧ PP G (ar1 G a 104 120 b0) H ∧ PP G (ar1 G a 105 120 t0) H ∧ PP G (ar1 G a 106 120 m0) H ∧ PP G (ar1 G a 107 120 o0) H ∧ PP G (ar1 G a 108 1200 q0) H)) (QI (fun (r : Int32) (u : FN × FN × FN × FN × FN) => (cCh p9 f9 v9 w9 = 0 → r = nI (tkV (Ns (ix p9)) dl (ix f9) (ix v9) (mxT (Ns (ix p9)) dl (nG (Ns (ix p9))) + 1) (ix w9))) ∧ True) (fun u H => PP G (modO a cy (nI (cCh p9 f9 v9 w9))) H ∧ PP G (ar1 G a 104 120 u.1) H ∧ PP G (ar1 G a 105 120 u.2.1) H ∧ PP G (ar1 G a 106 120 u.2.2.1) H ∧ PP G (ar1 G a 107 120 u.2.2.2.1) H ∧ PP G (ar1 G a 108 1200 u.2.2.2.2) H) (orA (rng a 93 1) (rng a 104 5))) 0 0 (orA (rng a 93 1) (rng a 104 5)) := by
  refine Met.ofW (cc := cX12_changes) (maxL := 5) (ret := (some .int)) (by decide) rfl ?_
  intro p e s m args below meth c s₁ B hml hv
  obtain ⟨rfl, hB, hK, hNW⟩ := hv
  have hx := B.exec
  have hb := B.bytes
  have hr := B.returns
  have hts := atoms_spec (ws := wsX12_changes) B.pre
  have hown : s.vm.findClass RX12 = some m.cls := findClass_of_methodNamed B.named
  have hlocks := B.notSynchronized
  have FX : CallFix p m c cX12_changes 5 s ([.ref (a 93), .int p9, .int f9, .int v9, .int w9] : List Value).toArray wsX12_changes RX12 := ⟨hx, hb, hml, hown, hts⟩
  have hl := lv_entry ([.ref (a 93), .int p9, .int f9, .int v9, .int w9]) (n := 5) (Nat.le_of_ble_eq_true rfl)
  rw [lg_entry_eq]
  generalize (lg_sl ([.ref (a 93), .int p9, .int f9, .int v9, .int w9]) ++ List.replicate (5 - (lg_sl ([.ref (a 93), .int p9, .int f9, .int v9, .int w9])).length) Slot.unset).toArray = ls at hl ⊢
  have hl : lv_has ls 5 [(0, .ref (a 93)), (1, .int p9), (2, .int f9), (3, .int v9), (4, .int w9)] := hl
  obtain ⟨h_o, h_x, h_y, h_delay, h_bits, h_times, h_marks, h_old, h_past⟩ := hB
  have hS : va_S (orA (rng a 93 1) (rng a 104 5)) s.heap s.heap [] := va_S.rf
  refine lv_aload_n hx hb dX12_changes_0 rfl (lv_at hl 0 rfl) ?_
  refine lv_iload_n hx hb dX12_changes_1 rfl (lv_at hl 1 rfl) ?_
  refine lv_iload_n hx hb dX12_changes_2 rfl (lv_at hl 2 rfl) ?_
  refine lv_iload_n hx hb dX12_changes_3 rfl (lv_at hl 3 rfl) ?_
  refine lv_iload hx hb dX12_changes_4 (lv_at hl 4 rfl) ?_
  refine wr_i (va_runV (As := [.int p9, .int f9, .int v9, .int w9]) (rest := []) FX (c_X12_tellsChanges l G a ha cy th Ns fs sc dl b0 t0 m0 o0 q0 p9 f9 v9 w9 hW hFS hd) (cwV 4 hts gX12_changes_X12_tellsChanges rfl rfl rfl (by decide +kernel) ⟨Nat.le_of_ble_eq_true rfl, Nat.le_of_ble_eq_true rfl⟩) (preV hK hNW (⟨h_o, (ro hS h_x (dj_cons (or_no (rng_no ha (by omega)) (rng_no ha (by omega))) (dj_cons (or_no (rng_no ha (by omega)) (rng_no ha (by omega))) (dj_cons (or_no (rng_no ha (by omega)) (rng_no ha (by omega))) (dj_cons (or_no (rng_no ha (by omega)) (rng_no ha (by omega))) (dj_cons (or_no (rng_no ha (by omega)) (rng_no ha (by omega))) (dj_cons (or_no (rng_no ha (by omega)) (rng_no ha (by omega))) (dj_nil)))))))), (ro hS h_y (dj_cons (or_no (rng_no ha (by omega)) (rng_no ha (by omega))) (dj_cons (or_no (rng_no ha (by omega)) (rng_no ha (by omega))) (dj_nil)))), (ro hS h_delay (dj_cons (or_no (rng_no ha (by omega)) (rng_no ha (by omega))) (dj_nil))), h_bits, h_times, h_marks, h_old, h_past⟩) (va_recv hK h_o (ci := 12) (q0 := 0) rfl rfl)) rfl rfl hl.1 rfl (lv_room (Nat.le_of_ble_eq_true rfl)) dX12_changes_6 ⟨Nat.le_of_ble_eq_true rfl, Nat.le_of_ble_eq_true rfl⟩) hS (fun q h => h.elim ((fun q h => Or.inl ((rng_sub (by omega)) q h)) q) ((fun q h => Or.inr ((rng_sub (by omega)) q h)) q)) (fun rr u9 H locs h9 hP9 hk1 hS => ?_)
  have h_o : PP G (modO a cy (nI (cCh p9 f9 v9 w9))) H := hP9.1
  have h_bits : PP G (ar1 G a 104 120 u9.1) H := hP9.2.1
  have h_times : PP G (ar1 G a 105 120 u9.2.1) H := hP9.2.2.1
  have h_marks : PP G (ar1 G a 106 120 u9.2.2.1) H := hP9.2.2.2.1
  have h_old : PP G (ar1 G a 107 120 u9.2.2.2.1) H := hP9.2.2.2.2.1
  have h_past : PP G (ar1 G a 108 1200 u9.2.2.2.2) H := hP9.2.2.2.2.2
  exact en_wi u9 hx hb hr hlocks hS (h9) (⟨h_o, h_bits, h_times, h_marks, h_old, h_past⟩) dX12_changes_9
set_option maxHeartbeats 4000000 in
set_option maxRecDepth 100000 in
/-- X12_changesAnew -/
theorem c_X12_changesAnew (l : Launch) (G : GG) (a : Nat → Nat) (ha : Inj a) (cy th : Int32) (Ns : Nat → NT) (fs sc : FN) (dl : Nat → Nat) (b0 t0 m0 o0 q0 : FN) (p9 f9 v9 w9 : Int32) (hW : ∀ z, z < 4 → WF (Ns z)) (hFS : FS Ns fs sc) (hd : DL dl)  : Met l yX12_changesAnew wsX12_changesAnew ({ frames := 3, cells := 0, slots := 0, locals := 85 } : Room) (PcB G [.ref (a 93), .int p9, .int f9, .int v9, .int w9] (fun H => PP G (modO a cy th) H ∧ PP G (sixW G a Ns fs sc) H ∧ PP G (twoW G a Ns) H ∧ PP G (ar1 G a 102 4 (fun z => nI (dl z))) H ∧ PP G (ar1 G a 104 120 b0) H ∧ PP G (ar1 G a 105 120 t0) H ∧ PP G (ar1 G a 106 120 m0) H ∧ PP G (ar1 G a 107 120 o0) H ∧ PP G (ar1 G a 108 1200 q0) H)) (QI (fun (r : Int32) (u : FN × FN × FN × FN × FN) => (cCh p9 f9 v9 w9 = 0 → r = nI (tkV (Ns (ix p9)) dl (ix f9) (ix v9) (mxT (Ns (ix p9)) dl (nG (Ns (ix p9))) + 1) (ix w9))) ∧ True) (fun u H => PP G (modO a cy (nI (cCh p9 f9 v9 w9))) H ∧ PP G (ar1 G a 104 120 u.1) H ∧ PP G (ar1 G a 105 120 u.2.1) H ∧ PP G (ar1 G a 106 120 u.2.2.1) H ∧ PP G (ar1 G a 107 120 u.2.2.2.1) H ∧ PP G (ar1 G a 108 1200 u.2.2.2.2) H) (orA (rng a 93 1) (rng a 104 5))) 0 0 (orA (rng a 93 1) (rng a 104 5)) := by
  refine Met.ofW (cc := cX12_changesAnew) (maxL := 5) (ret := (some .int)) (by decide) rfl ?_
  intro p e s m args below meth c s₁ B hml hv
  obtain ⟨rfl, hB, hK, hNW⟩ := hv
  have hx := B.exec
  have hb := B.bytes
  have hr := B.returns
  have hts := atoms_spec (ws := wsX12_changesAnew) B.pre
  have hown : s.vm.findClass RX12 = some m.cls := findClass_of_methodNamed B.named
  have hlocks := B.notSynchronized
  have FX : CallFix p m c cX12_changesAnew 5 s ([.ref (a 93), .int p9, .int f9, .int v9, .int w9] : List Value).toArray wsX12_changesAnew RX12 := ⟨hx, hb, hml, hown, hts⟩
  have hl := lv_entry ([.ref (a 93), .int p9, .int f9, .int v9, .int w9]) (n := 5) (Nat.le_of_ble_eq_true rfl)
  rw [lg_entry_eq]
  generalize (lg_sl ([.ref (a 93), .int p9, .int f9, .int v9, .int w9]) ++ List.replicate (5 - (lg_sl ([.ref (a 93), .int p9, .int f9, .int v9, .int w9])).length) Slot.unset).toArray = ls at hl ⊢
  have hl : lv_has ls 5 [(0, .ref (a 93)), (1, .int p9), (2, .int f9), (3, .int v9), (4, .int w9)] := hl
  obtain ⟨h_o, h_x, h_y, h_delay, h_bits, h_times, h_marks, h_old, h_past⟩ := hB
  have hS : va_S (orA (rng a 93 1) (rng a 104 5)) s.heap s.heap [] := va_S.rf
  refine lv_aload_n hx hb dX12_changesAnew_0 rfl (lv_at hl 0 rfl) ?_
  refine lv_iload_n hx hb dX12_changesAnew_1 rfl (lv_at hl 1 rfl) ?_
  refine lv_iload_n hx hb dX12_changesAnew_2 rfl (lv_at hl 2 rfl) ?_
  refine lv_iload_n hx hb dX12_changesAnew_3 rfl (lv_at hl 3 rfl) ?_
  refine lv_iload hx hb dX12_changesAnew_4 (lv_at hl 4 rfl) ?_
  refine wr_i (va_runV (As := [.int p9, .int f9, .int v9, .int w9]) (rest := []) FX (c_X12_tellsChanges l G a ha cy th Ns fs sc dl b0 t0 m0 o0 q0 p9 f9 v9 w9 hW hFS hd) (cwV 4 hts gX12_changesAnew_X12_tellsChanges rfl rfl rfl (by decide +kernel) ⟨Nat.le_of_ble_eq_true rfl, Nat.le_of_ble_eq_true rfl⟩) (preV hK hNW (⟨h_o, (ro hS h_x (dj_cons (or_no (rng_no ha (by omega)) (rng_no ha (by omega))) (dj_cons (or_no (rng_no ha (by omega)) (rng_no ha (by omega))) (dj_cons (or_no (rng_no ha (by omega)) (rng_no ha (by omega))) (dj_cons (or_no (rng_no ha (by omega)) (rng_no ha (by omega))) (dj_cons (or_no (rng_no ha (by omega)) (rng_no ha (by omega))) (dj_cons (or_no (rng_no ha (by omega)) (rng_no ha (by omega))) (dj_nil)))))))), (ro hS h_y (dj_cons (or_no (rng_no ha (by omega)) (rng_no ha (by omega))) (dj_cons (or_no (rng_no ha (by omega)) (rng_no ha (by omega))) (dj_nil)))), (ro hS h_delay (dj_cons (or_no (rng_no ha (by omega)) (rng_no ha (by omega))) (dj_nil))), h_bits, h_times, h_marks, h_old, h_past⟩) (va_recv hK h_o (ci := 12) (q0 := 0) rfl rfl)) rfl rfl hl.1 rfl (lv_room (Nat.le_of_ble_eq_true rfl)) dX12_changesAnew_6 ⟨Nat.le_of_ble_eq_true rfl, Nat.le_of_ble_eq_true rfl⟩) hS (fun q h => h.elim ((fun q h => Or.inl ((rng_sub (by omega)) q h)) q) ((fun q h => Or.inr ((rng_sub (by omega)) q h)) q)) (fun rr u9 H locs h9 hP9 hk1 hS => ?_)
  have h_o : PP G (modO a cy (nI (cCh p9 f9 v9 w9))) H := hP9.1
  have h_bits : PP G (ar1 G a 104 120 u9.1) H := hP9.2.1
  have h_times : PP G (ar1 G a 105 120 u9.2.1) H := hP9.2.2.1
  have h_marks : PP G (ar1 G a 106 120 u9.2.2.1) H := hP9.2.2.2.1
  have h_old : PP G (ar1 G a 107 120 u9.2.2.2.1) H := hP9.2.2.2.2.1
  have h_past : PP G (ar1 G a 108 1200 u9.2.2.2.2) H := hP9.2.2.2.2.2
  exact en_wi u9 hx hb hr hlocks hS (h9) (⟨h_o, h_bits, h_times, h_marks, h_old, h_past⟩) dX12_changesAnew_9
