set_option maxRecDepth 20000 in
theorem inX7_measure_7 : ∀ w ∈ u_ws RX7 TX7 2, w ∈ wsX7_measure := by decide +kernel
set_option maxHeartbeats 4000000 in
set_option maxRecDepth 100000 in
/-- Timing.measure: the time of each gate, the latest -/
theorem c_X7_measure (l : Launch) (G : GG) (a : Nat → Nat) (ha : Inj a) (i j h : Nat) (hij : i + 3 ≤ j ∨ j + 11 ≤ i) (hih : i + 3 ≤ h ∨ h + 2 ≤ i) (N : NT) (hN : WF N) (dl : Nat → Nat) (hd : DL dl) (x0 : Int32) (f0 : Nat → Int32)  : Met l yX7_measure wsX7_measure ({ frames := 2, cells := 0, slots := 0, locals := 42 } : Room) (PcB G [.ref (a i), .ref (a j), .ref (a h)] (fun H => PP G (timW G a i x0 f0) H ∧ PP G (netW G a j N) H ∧ PP G (rowW G a h 4 (fun z => nI (dl z))) H)) (QV (fun f : Nat → Int32 => ∀ r, r < nG N → f r = nI (tm N dl r)) (fun f H => PP G (timW G a i (nI (mxT N dl (nG N))) f) H) (rng a i 3)) 0 0 (rng a i 3) := by
  refine Met.ofW (cc := cX7_measure) (maxL := 6) (ret := none) (by decide) rfl ?_
  intro p e s m args below meth c s₁ B hml hv
  obtain ⟨rfl, hB, hK, hNW⟩ := hv
  have hx := B.exec
  have hb := B.bytes
  have hr := B.returns
  have hts := atoms_spec (ws := wsX7_measure) B.pre
  have hown : s.vm.findClass RX7 = some m.cls := findClass_of_methodNamed B.named
  have hlocks := B.notSynchronized
  have FX : CallFix p m c cX7_measure 6 s ([.ref (a i), .ref (a j), .ref (a h)] : List Value).toArray wsX7_measure RX7 := ⟨hx, hb, hml, hown, hts⟩
  have hl := lv_entry ([.ref (a i), .ref (a j), .ref (a h)]) (n := 6) (Nat.le_of_ble_eq_true rfl)
  rw [lg_entry_eq]
  generalize (lg_sl ([.ref (a i), .ref (a j), .ref (a h)]) ++ List.replicate (6 - (lg_sl ([.ref (a i), .ref (a j), .ref (a h)])).length) Slot.unset).toArray = ls at hl ⊢
  have hl : lv_has ls 6 [(0, .ref (a i)), (1, .ref (a j)), (2, .ref (a h))] := hl
  obtain ⟨hB, h_n, h_d⟩ := hB
  have h_o : PP G ([(a i, .inr (7, [.ref (a (i + 1)), .int x0]))]) s.heap := P_app1 hB
  have h_t : PP G (rowW G a (i + 1) 120 f0) s.heap := P_app2 hB
  have hdn : dj (rng a i 3) (netW G a j N) := dj_rng ha netW_in (by omega)
  have hdd : dj (rng a i 3) (rowW G a h 4 (fun z => nI (dl z))) := dj_rng ha rowW_in (by omega)
  have hg8 := hN.g
  have hS : va_S (rng a i 3) s.heap s.heap [] := va_S.rf
  refine lv_aload_n hx hb dX7_measure_0 rfl (lv_at hl 0 rfl) ?_
  refine lv_iconst (v := nI 0) hx hb dX7_measure_1 (by decide) ?_
  refine pp_put (ci := 7) (v := .int (nI 0)) (ty := .int) (C := RX7) (T := TX7) (N := 2) hx hb hts inX7_measure_7 tyX7 tyX7_ok nmX7 hown hK h_o hS (rng_in (by omega)) rfl 1 (by decide) (hts (.fieldLink RX7 20 "GateLedger$Timing" "latest" "I") (List.mem_of_getElem? (i := 1) (by decide +kernel))) (fun _ h9 => h9) rfl (by decide +kernel) rfl rfl (Nat.le_of_ble_eq_true rfl) dX7_measure_2 (fun H locs hP9 hk1 _ hS => ?_)
  have h_o : PP G ([(a i, .inr (7, [.ref (a (i + 1)), .int (nI 0)]))]) H := hP9
  have h_t : PP G (rowW G a (i + 1) 120 f0) H := kp hk1 h_t (dj_cons (ne_a ha (by omega)) (dj_cons (ne_a ha (by omega)) (dj_nil)))
  refine lv_iconst (v := nI 0) hx hb dX7_measure_5 (by decide) ?_
  refine lv_istore_n (lv' := [(3, .int (nI 0)), (0, .ref (a i)), (1, .ref (a j)), (2, .ref (a h))]) hx hb dX7_measure_6 rfl hl (by decide) rfl (fun ls hl => ?_)
  refine lv_loop2 7 (fun (k : Nat) (f : Nat → Int32) => nG N - k) (fun (k : Nat) (f : Nat → Int32) (H : Heap) (locs : List Loc) (ls : Array Slot) => (PP G ([(a i, .inr (7, [.ref (a (i + 1)), .int (nI (mxT N dl k))]))]) H) ∧ (PP G (rowW G a (i + 1) 120 f) H) ∧ (va_S (rng a i 3) s.heap H locs) ∧ (lv_has ls 6 [(0, .ref (a i)), (1, .ref (a j)), (2, .ref (a h)), (3, .int (nI k))]) ∧ (k ≤ nG N) ∧ (∀ r, r < k → f r = nI (tm N dl r))) (fun _ _ => []) (fun k f H locs ls hI ih => ?_) 0 f0 ⟨h_o, h_t, hS, lv_sub hl [1, 2, 3, 0] rfl, by omega, fun r h => absurd h (Nat.not_lt_zero r)⟩ rfl
  obtain ⟨h_o, h_t, hS, hl, hk, hf⟩ := hI
  have ih2 := @ih
  clear ih
  refine lv_iload_n hx hb dX7_measure_7 rfl (lv_at hl 3 rfl) ?_
  refine lv_aload_n hx hb dX7_measure_8 rfl (lv_at hl 1 rfl) ?_
  refine ro_i (va_runV (As := []) (rest := [.int (nI k)]) FX (c_X3_size l G a j N) (cwV 0 hts gX7_measure_X3_size rfl rfl rfl (by decide +kernel) ⟨Nat.le_of_ble_eq_true rfl, Nat.le_of_ble_eq_true rfl⟩) (preV hK hNW (ro hS h_n hdn) (va_recv hK (ro hS h_n hdn) (ci := 3) (q0 := 0) rfl rfl)) rfl rfl hl.1 rfl (lv_room (Nat.le_of_ble_eq_true rfl)) dX7_measure_9 ⟨Nat.le_of_ble_eq_true rfl, Nat.le_of_ble_eq_true rfl⟩) ?_
  refine lv_icmp_ge (tgt := 98) hx hb dX7_measure_12 (by decide) (fun c12 => ?_) (fun c12 => ?_)
  · skip
    have c12 := cv_le (by omega) (by omega) c12
    have ek : k = nG N := by omega
    subst ek
    exact en_wv f hx hb hr hlocks hS (hf) (P_app h_o h_t) dX7_measure_98
  · skip
    have c12 := cv_nle (by omega) (by omega) c12
    have hg9 := hN.g
    have hk4 := hN.k c12
    have ht9 := tm_lt hN hd c12
    have hm9 := mxT_le hN hd k hk
    refine lv_lab0 69 (fun (H : Heap) (locs : List Loc) (ls : Array Slot) => (PP G ([(a i, .inr (7, [.ref (a (i + 1)), .int (nI (mxT N dl k))]))]) H) ∧ (PP G (rowW G a (i + 1) 120 f) H) ∧ (va_S (rng a i 3) s.heap H locs) ∧ (lv_has ls 6 [(0, .ref (a i)), (1, .ref (a j)), (2, .ref (a h)), (3, .int (nI k)), (4, .int (nI (tm N dl k)))])) ([]) (fun H locs ls hI => ?_) (fun lab3 => ?_)
    · skip
      obtain ⟨h_o, h_t, hS, hl⟩ := hI
      refine lv_aload_n hx hb dX7_measure_69 rfl (lv_at hl 0 rfl) ?_
      refine va_get (D := G.1) (ci := 7) (v := .ref (a (i + 1))) (C := RX7) (T := TX7) (N := 2) hx hb hts inX7_measure_7 hown hK h_o 0 rfl rfl 0 (by decide) (hts (.fieldLink RX7 14 "GateLedger$Timing" "times" "LGateLedger$Row;") (List.mem_of_getElem? (i := 2) (by decide +kernel))) (fun _ h9 => h9) rfl dX7_measure_70 ?_
      refine lv_iload_n hx hb dX7_measure_73 rfl (lv_at hl 3 rfl) ?_
      refine lv_iload hx hb dX7_measure_74 (lv_at hl 4 rfl) ?_
      refine wr_v (va_runV (As := [.int (nI k), .int (nI (tm N dl k))]) (rest := []) FX (c_X4_put l G a ha (i + 1) 120 f (nI k) (nI (tm N dl k)) (by decide)) (cwV 2 hts gX7_measure_X4_put rfl rfl rfl (by decide +kernel) ⟨Nat.le_of_ble_eq_true rfl, Nat.le_of_ble_eq_true rfl⟩) (preV hK hNW h_t (va_recv hK h_t (ci := 4) (q0 := 0) rfl rfl)) rfl rfl hl.1 rfl (lv_room (Nat.le_of_ble_eq_true rfl)) dX7_measure_76 ⟨Nat.le_of_ble_eq_true rfl, Nat.le_of_ble_eq_true rfl⟩) hS (rng_sub (by omega)) (fun _ H locs _ hP9 hk4 hS => ?_)
      rw [rowPut_in (by omega) (by decide)] at hP9
      have h_t : PP G (rowW G a (i + 1) 120 (upd f k (nI (tm N dl k)))) H := hP9
      have h_o : PP G ([(a i, .inr (7, [.ref (a (i + 1)), .int (nI (mxT N dl k))]))]) H := kp hk4 h_o (dj_cons (rng_no ha (by omega)) (dj_nil))
      refine lv_aload_n hx hb dX7_measure_79 rfl (lv_at hl 0 rfl) ?_
      refine lv_aload_n hx hb dX7_measure_80 rfl (lv_at hl 0 rfl) ?_
      refine va_get (D := G.1) (ci := 7) (v := .int (nI (mxT N dl k))) (C := RX7) (T := TX7) (N := 2) hx hb hts inX7_measure_7 hown hK h_o 0 rfl rfl 1 (by decide) (hts (.fieldLink RX7 20 "GateLedger$Timing" "latest" "I") (List.mem_of_getElem? (i := 1) (by decide +kernel))) (fun _ h9 => h9) rfl dX7_measure_81 ?_
      refine lv_iload hx hb dX7_measure_84 (lv_at hl 4 rfl) ?_
      refine va_mmax hx hb (hml.trans hl.1.symm) hown (hts (.methodLink RX7 44 Lib.Math.max.name) (List.mem_of_getElem? (i := 3) (by decide +kernel))) (hts (.static Lib.Math.max.name) (List.mem_of_getElem? (i := 4) (by decide +kernel))) (hts (.initialized "java/lang/Math") (List.mem_of_getElem? (i := 5) (by decide +kernel))) (hts (.code Lib.Math.max.name Lib.Math.max.code 2 (some .int)) (List.mem_of_getElem? (i := 6) (by decide +kernel))) (Nat.le_of_ble_eq_true rfl) (Nat.le_of_ble_eq_true rfl) (Nat.le_of_ble_eq_true rfl) (Nat.le_of_ble_eq_true rfl) dX7_measure_86 ?_
      refine lv_as (y := nI (max (mxT N dl k) (tm N dl k))) (mmax_nat (by omega) (by omega)) ?_
      refine pp_put (ci := 7) (v := .int (nI (max (mxT N dl k) (tm N dl k)))) (ty := .int) (C := RX7) (T := TX7) (N := 2) hx hb hts inX7_measure_7 tyX7 tyX7_ok nmX7 hown hK h_o hS (rng_in (by omega)) rfl 1 (by decide) (hts (.fieldLink RX7 20 "GateLedger$Timing" "latest" "I") (List.mem_of_getElem? (i := 1) (by decide +kernel))) (fun _ h9 => h9) rfl (by decide +kernel) rfl rfl (Nat.le_of_ble_eq_true rfl) dX7_measure_89 (fun H locs hP9 hk6 _ hS => ?_)
      have h_o : PP G ([(a i, .inr (7, [.ref (a (i + 1)), .int (nI (max (mxT N dl k) (tm N dl k)))]))]) H := hP9
      have h_t : PP G (rowW G a (i + 1) 120 (upd f k (nI (tm N dl k)))) H := kp hk6 h_t (dj_cons (ne_a ha (by omega)) (dj_cons (ne_a ha (by omega)) (dj_nil)))
      refine lv_iinc (v := nI (k + 1)) (lv' := [(3, .int (nI (k + 1))), (0, .ref (a i)), (1, .ref (a j)), (2, .ref (a h)), (4, .int (nI (tm N dl k)))]) hx hb dX7_measure_92 hl (k := 3) rfl (by first | exact nI_add _ 1 | decide) (by decide) rfl (fun ls hl => ?_)
      refine lv_goto (tgt := 7) hx hb dX7_measure_95 (by decide) ?_
      exact ih2 (k + 1) (upd f k (nI (tm N dl k))) _ _ _ ⟨h_o, h_t, hS, lv_sub hl [1, 2, 3, 0] rfl, by omega, upd_fill hf rfl⟩ (by show nG N - (k + 1) < nG N - k; omega)
    refine lv_iconst (v := nI 0) hx hb dX7_measure_15 (by decide) ?_
    refine lv_istore (lv' := [(4, .int (nI 0)), (0, .ref (a i)), (1, .ref (a j)), (2, .ref (a h)), (3, .int (nI k))]) hx hb dX7_measure_16 hl (by decide) rfl (fun ls hl => ?_)
    refine lv_aload_n hx hb dX7_measure_18 rfl (lv_at hl 2 rfl) ?_
    refine lv_iload_n hx hb dX7_measure_19 rfl (lv_at hl 4 rfl) ?_
    refine ro_i (va_runV (As := [.int (nI k)]) (rest := []) FX (c_X3_isInput l G a j N hN k c12) (cwV 1 hts gX7_measure_X3_isInput rfl rfl rfl (by decide +kernel) ⟨Nat.le_of_ble_eq_true rfl, Nat.le_of_ble_eq_true rfl⟩) (preV hK hNW (ro hS h_n hdn) (va_recv hK (ro hS h_n hdn) (ci := 3) (q0 := 0) rfl rfl)) rfl rfl hl.1 rfl (lv_room (Nat.le_of_ble_eq_true rfl)) dX7_measure_20 ⟨Nat.le_of_ble_eq_true rfl, Nat.le_of_ble_eq_true rfl⟩) ?_
    refine lv_if_ne (tgt := 69) hx hb dX7_measure_23 (by decide) (fun c23 => ?_) (fun c23 => ?_)
    · skip
      have c23 := bI_1 c23
      exact lab3  _ _ _ ⟨h_o, h_t, hS, by rw [tm_in c23]; exact lv_sub hl [1, 2, 3, 4, 0] rfl⟩
    · skip
      have c23 := bI_0.mp c23
      have hfs := hN.fs c12 c23
      have hg9 := hN.g
      have ht1 := tm_lt hN hd (Nat.lt_trans hfs.1 c12)
      have ht2 := tm_lt hN hd (Nat.lt_trans hfs.2 c12)
      refine lv_aload_n hx hb dX7_measure_26 rfl (lv_at hl 1 rfl) ?_
      refine va_get (D := G.1) (ci := 7) (v := .ref (a (i + 1))) (C := RX7) (T := TX7) (N := 2) hx hb hts inX7_measure_7 hown hK h_o 0 rfl rfl 0 (by decide) (hts (.fieldLink RX7 14 "GateLedger$Timing" "times" "LGateLedger$Row;") (List.mem_of_getElem? (i := 2) (by decide +kernel))) (fun _ h9 => h9) rfl dX7_measure_27 ?_
      refine lv_aload_n hx hb dX7_measure_30 rfl (lv_at hl 2 rfl) ?_
      refine lv_iload_n hx hb dX7_measure_31 rfl (lv_at hl 4 rfl) ?_
      refine ro_i (va_runV (As := [.int (nI k)]) (rest := [.ref (a (i + 1))]) FX (c_X3_firstOf l G a j N hN k c12) (cwV 1 hts gX7_measure_X3_firstOf rfl rfl rfl (by decide +kernel) ⟨Nat.le_of_ble_eq_true rfl, Nat.le_of_ble_eq_true rfl⟩) (preV hK hNW (ro hS h_n hdn) (va_recv hK (ro hS h_n hdn) (ci := 3) (q0 := 0) rfl rfl)) rfl rfl hl.1 rfl (lv_room (Nat.le_of_ble_eq_true rfl)) dX7_measure_32 ⟨Nat.le_of_ble_eq_true rfl, Nat.le_of_ble_eq_true rfl⟩) ?_
      refine ro_i (va_runV (As := [.int (nI (nF N k))]) (rest := []) FX (c_X4_at l G a (i + 1) 120 f (nI (nF N k)) (by decide)) (cwV 1 hts gX7_measure_X4_at rfl rfl rfl (by decide +kernel) ⟨Nat.le_of_ble_eq_true rfl, Nat.le_of_ble_eq_true rfl⟩) (preV hK hNW (va_P.sub h_t [0, 1] rfl) (va_recv hK h_t (ci := 4) (q0 := 0) rfl rfl)) rfl rfl hl.1 rfl (lv_room (Nat.le_of_ble_eq_true rfl)) dX7_measure_35 ⟨Nat.le_of_ble_eq_true rfl, Nat.le_of_ble_eq_true rfl⟩) ?_
      refine lv_as (y := nI (tm N dl (nF N k))) ((rowAt_in (by omega) (by decide)).trans (hf _ hfs.1)) ?_
      refine lv_aload_n hx hb dX7_measure_38 rfl (lv_at hl 1 rfl) ?_
      refine va_get (D := G.1) (ci := 7) (v := .ref (a (i + 1))) (C := RX7) (T := TX7) (N := 2) hx hb hts inX7_measure_7 hown hK h_o 0 rfl rfl 0 (by decide) (hts (.fieldLink RX7 14 "GateLedger$Timing" "times" "LGateLedger$Row;") (List.mem_of_getElem? (i := 2) (by decide +kernel))) (fun _ h9 => h9) rfl dX7_measure_39 ?_
      refine lv_aload_n hx hb dX7_measure_42 rfl (lv_at hl 2 rfl) ?_
      refine lv_iload_n hx hb dX7_measure_43 rfl (lv_at hl 4 rfl) ?_
      refine ro_i (va_runV (As := [.int (nI k)]) (rest := [.ref (a (i + 1)), .int (nI (tm N dl (nF N k)))]) FX (c_X3_secondOf l G a j N hN k c12) (cwV 1 hts gX7_measure_X3_secondOf rfl rfl rfl (by decide +kernel) ⟨Nat.le_of_ble_eq_true rfl, Nat.le_of_ble_eq_true rfl⟩) (preV hK hNW (ro hS h_n hdn) (va_recv hK (ro hS h_n hdn) (ci := 3) (q0 := 0) rfl rfl)) rfl rfl hl.1 rfl (lv_room (Nat.le_of_ble_eq_true rfl)) dX7_measure_44 ⟨Nat.le_of_ble_eq_true rfl, Nat.le_of_ble_eq_true rfl⟩) ?_
      refine ro_i (va_runV (As := [.int (nI (nS N k))]) (rest := [.int (nI (tm N dl (nF N k)))]) FX (c_X4_at l G a (i + 1) 120 f (nI (nS N k)) (by decide)) (cwV 1 hts gX7_measure_X4_at rfl rfl rfl (by decide +kernel) ⟨Nat.le_of_ble_eq_true rfl, Nat.le_of_ble_eq_true rfl⟩) (preV hK hNW (va_P.sub h_t [0, 1] rfl) (va_recv hK h_t (ci := 4) (q0 := 0) rfl rfl)) rfl rfl hl.1 rfl (lv_room (Nat.le_of_ble_eq_true rfl)) dX7_measure_47 ⟨Nat.le_of_ble_eq_true rfl, Nat.le_of_ble_eq_true rfl⟩) ?_
      refine lv_as (y := nI (tm N dl (nS N k))) ((rowAt_in (by omega) (by decide)).trans (hf _ hfs.2)) ?_
      refine va_mmax hx hb (hml.trans hl.1.symm) hown (hts (.methodLink RX7 44 Lib.Math.max.name) (List.mem_of_getElem? (i := 3) (by decide +kernel))) (hts (.static Lib.Math.max.name) (List.mem_of_getElem? (i := 4) (by decide +kernel))) (hts (.initialized "java/lang/Math") (List.mem_of_getElem? (i := 5) (by decide +kernel))) (hts (.code Lib.Math.max.name Lib.Math.max.code 2 (some .int)) (List.mem_of_getElem? (i := 6) (by decide +kernel))) (Nat.le_of_ble_eq_true rfl) (Nat.le_of_ble_eq_true rfl) (Nat.le_of_ble_eq_true rfl) (Nat.le_of_ble_eq_true rfl) dX7_measure_50 ?_
      refine lv_as (y := nI (max (tm N dl (nF N k)) (tm N dl (nS N k)))) (mmax_nat (by omega) (by omega)) ?_
      refine lv_istore (lv' := [(5, .int (nI (max (tm N dl (nF N k)) (tm N dl (nS N k))))), (4, .int (nI 0)), (0, .ref (a i)), (1, .ref (a j)), (2, .ref (a h)), (3, .int (nI k))]) hx hb dX7_measure_53 hl (by decide) rfl (fun ls hl => ?_)
      refine lv_aload_n hx hb dX7_measure_55 rfl (lv_at hl 4 rfl) ?_
      refine lv_aload_n hx hb dX7_measure_56 rfl (lv_at hl 3 rfl) ?_
      refine lv_iload_n hx hb dX7_measure_57 rfl (lv_at hl 5 rfl) ?_
      refine ro_i (va_runV (As := [.int (nI k)]) (rest := [.ref (a h)]) FX (c_X3_kindOf l G a j N hN k c12) (cwV 1 hts gX7_measure_X3_kindOf rfl rfl rfl (by decide +kernel) ⟨Nat.le_of_ble_eq_true rfl, Nat.le_of_ble_eq_true rfl⟩) (preV hK hNW (ro hS h_n hdn) (va_recv hK (ro hS h_n hdn) (ci := 3) (q0 := 0) rfl rfl)) rfl rfl hl.1 rfl (lv_room (Nat.le_of_ble_eq_true rfl)) dX7_measure_58 ⟨Nat.le_of_ble_eq_true rfl, Nat.le_of_ble_eq_true rfl⟩) ?_
      refine ro_i (va_runV (As := [.int (nI (nK N k))]) (rest := []) FX (c_X4_at l G a h 4 (fun z => nI (dl z)) (nI (nK N k)) (by decide)) (cwV 1 hts gX7_measure_X4_at rfl rfl rfl (by decide +kernel) ⟨Nat.le_of_ble_eq_true rfl, Nat.le_of_ble_eq_true rfl⟩) (preV hK hNW (va_P.sub (ro hS h_d hdd) [0, 1] rfl) (va_recv hK (ro hS h_d hdd) (ci := 4) (q0 := 0) rfl rfl)) rfl rfl hl.1 rfl (lv_room (Nat.le_of_ble_eq_true rfl)) dX7_measure_61 ⟨Nat.le_of_ble_eq_true rfl, Nat.le_of_ble_eq_true rfl⟩) ?_
      refine lv_as (y := nI (dl (nK N k))) (rowAt_in (by omega) (by decide)) ?_
      refine lv_iload hx hb dX7_measure_64 (lv_at hl 0 rfl) ?_
      refine lv_iadd hx hb dX7_measure_66 ?_
      refine lv_as (nI_add _ _) ?_
      refine lv_istore (lv' := [(4, .int (nI ((dl (nK N k)) + (max (tm N dl (nF N k)) (tm N dl (nS N k)))))), (5, .int (nI (max (tm N dl (nF N k)) (tm N dl (nS N k))))), (0, .ref (a i)), (1, .ref (a j)), (2, .ref (a h)), (3, .int (nI k))]) hx hb dX7_measure_67 hl (by decide) rfl (fun ls hl => ?_)
      exact lab3  _ _ _ ⟨h_o, h_t, hS, by rw [tm_gt hN c12 c23]; exact lv_sub hl [2, 3, 4, 5, 0] rfl⟩
set_option maxRecDepth 20000 in
theorem inX7_timeOf_7 : ∀ w ∈ u_ws RX7 TX7 2, w ∈ wsX7_timeOf := by decide +kernel
set_option maxHeartbeats 4000000 in
set_option maxRecDepth 100000 in
/-- Timing.timeOf -/
theorem c_X7_timeOf (l : Launch) (G : GG) (a : Nat → Nat) (i : Nat) (x0 : Int32) (f0 : Nat → Int32) (k : Nat) (hk : k < 120) : Met l yX7_timeOf wsX7_timeOf ({ frames := 1, cells := 0, slots := 0, locals := 21 } : Room) (PcB G [.ref (a i), .int (nI k)] (fun H => PP G (timW G a i x0 f0) H)) (vp_Si (fun r => r = f0 k)) 0 0 (fun _ => False) := by
  refine Met.ofW (cc := cX7_timeOf) (maxL := 2) (ret := (some .int)) (by decide) rfl ?_
  intro p e s m args below meth c s₁ B hml hv
  obtain ⟨rfl, hB, hK, hNW⟩ := hv
  have hx := B.exec
  have hb := B.bytes
  have hr := B.returns
  have hts := atoms_spec (ws := wsX7_timeOf) B.pre
  have hown : s.vm.findClass RX7 = some m.cls := findClass_of_methodNamed B.named
  have hlocks := B.notSynchronized
  have FX : CallFix p m c cX7_timeOf 2 s ([.ref (a i), .int (nI k)] : List Value).toArray wsX7_timeOf RX7 := ⟨hx, hb, hml, hown, hts⟩
  have hl := lv_entry ([.ref (a i), .int (nI k)]) (n := 2) (Nat.le_of_ble_eq_true rfl)
  rw [lg_entry_eq]
  generalize (lg_sl ([.ref (a i), .int (nI k)]) ++ List.replicate (2 - (lg_sl ([.ref (a i), .int (nI k)])).length) Slot.unset).toArray = ls at hl ⊢
  have hl : lv_has ls 2 [(0, .ref (a i)), (1, .int (nI k))] := hl
  have h_t := hB
  refine lv_aload_n hx hb dX7_timeOf_0 rfl (lv_at hl 0 rfl) ?_
  refine va_get (D := G.1) (ci := 7) (v := .ref (a (i + 1))) (C := RX7) (T := TX7) (N := 2) hx hb hts inX7_timeOf_7 hown hK h_t 0 rfl rfl 0 (by decide) (hts (.fieldLink RX7 14 "GateLedger$Timing" "times" "LGateLedger$Row;") (List.mem_of_getElem? (i := 1) (by decide +kernel))) (fun _ h9 => h9) rfl dX7_timeOf_1 ?_
  refine lv_iload_n hx hb dX7_timeOf_4 rfl (lv_at hl 1 rfl) ?_
  refine ro_i (va_runV (As := [.int (nI k)]) (rest := []) FX (c_X4_at l G a (i + 1) 120 f0 (nI k) (by decide)) (cwV 1 hts gX7_timeOf_X4_at rfl rfl rfl (by decide +kernel) ⟨Nat.le_of_ble_eq_true rfl, Nat.le_of_ble_eq_true rfl⟩) (preV hK hNW (va_P.sub h_t [1, 2] rfl) (va_recv hK h_t (ci := 4) (q0 := 1) rfl rfl)) rfl rfl hl.1 rfl (lv_room (Nat.le_of_ble_eq_true rfl)) dX7_timeOf_5 ⟨Nat.le_of_ble_eq_true rfl, Nat.le_of_ble_eq_true rfl⟩) ?_
  refine lv_as (y := f0 k) (rowAt_in (by omega) (by decide)) ?_
  exact en_i hx hb hr hlocks (rfl) dX7_timeOf_8
set_option maxRecDepth 20000 in
theorem inX7_latest_7 : ∀ w ∈ u_ws RX7 TX7 2, w ∈ wsX7_latest := by decide +kernel
set_option maxHeartbeats 4000000 in
set_option maxRecDepth 100000 in
/-- Timing.latest -/
theorem c_X7_latest (l : Launch) (G : GG) (a : Nat → Nat) (i : Nat) (x0 : Int32) (f0 : Nat → Int32)  : Met l yX7_latest wsX7_latest ({ frames := 0, cells := 0, slots := 0, locals := 0 } : Room) (PcB G [.ref (a i)] (fun H => PP G (timW G a i x0 f0) H)) (vp_Si (fun r => r = x0)) 0 0 (fun _ => False) := by
  refine Met.ofW (cc := cX7_latest) (maxL := 1) (ret := (some .int)) (by decide) rfl ?_
  intro p e s m args below meth c s₁ B hml hv
  obtain ⟨rfl, hB, hK, hNW⟩ := hv
  have hx := B.exec
  have hb := B.bytes
  have hr := B.returns
  have hts := atoms_spec (ws := wsX7_latest) B.pre
  have hown : s.vm.findClass RX7 = some m.cls := findClass_of_methodNamed B.named
  have hlocks := B.notSynchronized
  have FX : CallFix p m c cX7_latest 1 s ([.ref (a i)] : List Value).toArray wsX7_latest RX7 := ⟨hx, hb, hml, hown, hts⟩
  have hl := lv_entry ([.ref (a i)]) (n := 1) (Nat.le_of_ble_eq_true rfl)
  rw [lg_entry_eq]
  generalize (lg_sl ([.ref (a i)]) ++ List.replicate (1 - (lg_sl ([.ref (a i)])).length) Slot.unset).toArray = ls at hl ⊢
  have hl : lv_has ls 1 [(0, .ref (a i))] := hl
  have h_t := hB
  refine lv_aload_n hx hb dX7_latest_0 rfl (lv_at hl 0 rfl) ?_
  refine va_get (D := G.1) (ci := 7) (v := .int x0) (C := RX7) (T := TX7) (N := 2) hx hb hts inX7_latest_7 hown hK h_t 0 rfl rfl 1 (by decide) (hts (.fieldLink RX7 20 "GateLedger$Timing" "latest" "I") (List.mem_of_getElem? (i := 1) (by decide +kernel))) (fun _ h9 => h9) rfl dX7_latest_1 ?_
  exact en_i hx hb hr hlocks (rfl) dX7_latest_4
set_option maxRecDepth 20000 in
theorem inX7_slowestOut_7 : ∀ w ∈ u_ws RX7 TX7 2, w ∈ wsX7_slowestOut := by decide +kernel
set_option maxHeartbeats 4000000 in
set_option maxRecDepth 100000 in
/-- Timing.slowestOut -/
theorem c_X7_slowestOut (l : Launch) (G : GG) (a : Nat → Nat) (i j : Nat) (x0 : Int32) (f0 : Nat → Int32) (N : NT) (hN : WF N) (tf : Nat → Nat) (hf : ∀ r, r < nG N → f0 r = nI (tf r)) (ht : ∀ r, r < nG N → tf r < 2 ^ 31) : Met l yX7_slowestOut wsX7_slowestOut ({ frames := 2, cells := 0, slots := 0, locals := 42 } : Room) (PcB G [.ref (a i), .ref (a j)] (fun H => PP G (timW G a i x0 f0) H ∧ PP G (netW G a j N) H)) (vp_Si (fun r => r = oI (bst N tf (nO N)))) 0 0 (fun _ => False) := by
  refine Met.ofW (cc := cX7_slowestOut) (maxL := 5) (ret := (some .int)) (by decide) rfl ?_
  intro p e s m args below meth c s₁ B hml hv
  obtain ⟨rfl, hB, hK, hNW⟩ := hv
  have hx := B.exec
  have hb := B.bytes
  have hr := B.returns
  have hts := atoms_spec (ws := wsX7_slowestOut) B.pre
  have hown : s.vm.findClass RX7 = some m.cls := findClass_of_methodNamed B.named
  have hlocks := B.notSynchronized
  have FX : CallFix p m c cX7_slowestOut 5 s ([.ref (a i), .ref (a j)] : List Value).toArray wsX7_slowestOut RX7 := ⟨hx, hb, hml, hown, hts⟩
  have hl := lv_entry ([.ref (a i), .ref (a j)]) (n := 5) (Nat.le_of_ble_eq_true rfl)
  rw [lg_entry_eq]
  generalize (lg_sl ([.ref (a i), .ref (a j)]) ++ List.replicate (5 - (lg_sl ([.ref (a i), .ref (a j)])).length) Slot.unset).toArray = ls at hl ⊢
  have hl : lv_has ls 5 [(0, .ref (a i)), (1, .ref (a j))] := hl
  obtain ⟨h_t, h_n⟩ := hB
  have hg9 := hN.g
  have ho9 := hN.o
  refine lv_iconst (v := -1) hx hb dX7_slowestOut_0 (by decide) ?_
  refine lv_istore_n (lv' := [(2, .int (-1)), (0, .ref (a i)), (1, .ref (a j))]) hx hb dX7_slowestOut_1 rfl hl (by decide) rfl (fun ls hl => ?_)
  refine lv_iconst (v := nI 0) hx hb dX7_slowestOut_2 (by decide) ?_
  refine lv_istore_n (lv' := [(3, .int (nI 0)), (2, .int (-1)), (0, .ref (a i)), (1, .ref (a j))]) hx hb dX7_slowestOut_3 rfl hl (by decide) rfl (fun ls hl => ?_)
  refine lv_loop2 4 (fun (q : Nat) (o : Option Nat) => nO N - q) (fun (q : Nat) (o : Option Nat) (H : Heap) (locs : List Loc) (ls : Array Slot) => (H = s.heap) ∧ (locs = []) ∧ (lv_has ls 5 [(0, .ref (a i)), (1, .ref (a j)), (2, .int (oI o)), (3, .int (nI q))]) ∧ (q ≤ nO N) ∧ (o = bst N tf q)) (fun _ _ => []) (fun q o H locs ls hI ih => ?_) 0 none ⟨rfl, rfl, lv_sub hl [2, 3, 1, 0] rfl, by omega, rfl⟩ rfl
  obtain ⟨rfl, rfl, hl, hq, ho⟩ := hI
  have ih1 := @ih
  clear ih
  refine lv_iload_n hx hb dX7_slowestOut_4 rfl (lv_at hl 3 rfl) ?_
  refine lv_aload_n hx hb dX7_slowestOut_5 rfl (lv_at hl 1 rfl) ?_
  refine ro_i (va_runV (As := []) (rest := [.int (nI q)]) FX (c_X3_outCount l G a j N) (cwV 0 hts gX7_slowestOut_X3_outCount rfl rfl rfl (by decide +kernel) ⟨Nat.le_of_ble_eq_true rfl, Nat.le_of_ble_eq_true rfl⟩) (preV hK hNW h_n (va_recv hK h_n (ci := 3) (q0 := 0) rfl rfl)) rfl rfl hl.1 rfl (lv_room (Nat.le_of_ble_eq_true rfl)) dX7_slowestOut_6 ⟨Nat.le_of_ble_eq_true rfl, Nat.le_of_ble_eq_true rfl⟩) ?_
  refine lv_icmp_ge (tgt := 53) hx hb dX7_slowestOut_9 (by decide) (fun c9 => ?_) (fun c9 => ?_)
  · skip
    have c9 := cv_le (by omega) (by omega) c9
    refine lv_iload_n hx hb dX7_slowestOut_53 rfl (lv_at hl 2 rfl) ?_
    exact en_i hx hb hr hlocks (by rw [ho, show q = nO N by omega]) dX7_slowestOut_54
  · skip
    have c9 := cv_nle (by omega) (by omega) c9
    have hu9 := hN.u c9
    have ht1 := ht _ hu9
    refine lv_aload_n hx hb dX7_slowestOut_12 rfl (lv_at hl 1 rfl) ?_
    refine lv_iload_n hx hb dX7_slowestOut_13 rfl (lv_at hl 3 rfl) ?_
    refine ro_i (va_runV (As := [.int (nI q)]) (rest := []) FX (c_X3_outAt l G a j N hN q c9) (cwV 1 hts gX7_slowestOut_X3_outAt rfl rfl rfl (by decide +kernel) ⟨Nat.le_of_ble_eq_true rfl, Nat.le_of_ble_eq_true rfl⟩) (preV hK hNW h_n (va_recv hK h_n (ci := 3) (q0 := 0) rfl rfl)) rfl rfl hl.1 rfl (lv_room (Nat.le_of_ble_eq_true rfl)) dX7_slowestOut_14 ⟨Nat.le_of_ble_eq_true rfl, Nat.le_of_ble_eq_true rfl⟩) ?_
    refine lv_istore (lv' := [(4, .int (nI (nU N q))), (0, .ref (a i)), (1, .ref (a j)), (2, .int (oI o)), (3, .int (nI q))]) hx hb dX7_slowestOut_17 hl (by decide) rfl (fun ls hl => ?_)
    refine lv_iload_n hx hb dX7_slowestOut_19 rfl (lv_at hl 3 rfl) ?_
    refine lv_iconst (v := -1) hx hb dX7_slowestOut_20 (by decide) ?_
    refine lv_icmp_eq (tgt := 44) hx hb dX7_slowestOut_21 (by decide) (fun c21 => ?_) (fun c21 => ?_)
    · skip
      have hn9 := oI_none (fun g hg => Nat.lt_trans (bst_lt hN q hq g (ho.symm.trans hg)) (by omega)) c21
      subst hn9
      refine lv_iload hx hb dX7_slowestOut_44 (lv_at hl 0 rfl) ?_
      refine lv_istore_n (lv' := [(2, .int (nI (nU N q))), (4, .int (nI (nU N q))), (0, .ref (a i)), (1, .ref (a j)), (3, .int (nI q))]) hx hb dX7_slowestOut_46 rfl hl (by decide) rfl (fun ls hl => ?_)
      refine lv_iinc (v := nI (q + 1)) (lv' := [(3, .int (nI (q + 1))), (2, .int (nI (nU N q))), (4, .int (nI (nU N q))), (0, .ref (a i)), (1, .ref (a j))]) hx hb dX7_slowestOut_47 hl (k := 4) rfl (by first | exact nI_add _ 1 | decide) (by decide) rfl (fun ls hl => ?_)
      refine lv_goto (tgt := 4) hx hb dX7_slowestOut_50 (by decide) ?_
      exact ih1 (q + 1) (some (nU N q)) _ _ _ ⟨rfl, rfl, lv_sub hl [3, 4, 1, 0] rfl, by omega, by show _ = bsS N tf q (bst N tf q); rw [← ho]; rfl⟩ (by show nO N - (q + 1) < nO N - q; omega)
    · skip
      obtain ⟨g, hg⟩ := oI_some c21
      subst hg
      have hgl := bst_lt hN q hq g ho.symm
      have hl : lv_has ls 5 [(4, .int (nI (nU N q))), (0, .ref (a i)), (1, .ref (a j)), (2, .int (nI g)), (3, .int (nI q))] := hl
      refine lv_aload_n hx hb dX7_slowestOut_24 rfl (lv_at hl 1 rfl) ?_
      refine va_get (D := G.1) (ci := 7) (v := .ref (a (i + 1))) (C := RX7) (T := TX7) (N := 2) hx hb hts inX7_slowestOut_7 hown hK h_t 0 rfl rfl 0 (by decide) (hts (.fieldLink RX7 14 "GateLedger$Timing" "times" "LGateLedger$Row;") (List.mem_of_getElem? (i := 1) (by decide +kernel))) (fun _ h9 => h9) rfl dX7_slowestOut_25 ?_
      refine lv_iload hx hb dX7_slowestOut_28 (lv_at hl 0 rfl) ?_
      refine ro_i (va_runV (As := [.int (nI (nU N q))]) (rest := []) FX (c_X4_at l G a (i + 1) 120 f0 (nI (nU N q)) (by decide)) (cwV 1 hts gX7_slowestOut_X4_at rfl rfl rfl (by decide +kernel) ⟨Nat.le_of_ble_eq_true rfl, Nat.le_of_ble_eq_true rfl⟩) (preV hK hNW (va_P.sub h_t [1, 2] rfl) (va_recv hK h_t (ci := 4) (q0 := 1) rfl rfl)) rfl rfl hl.1 rfl (lv_room (Nat.le_of_ble_eq_true rfl)) dX7_slowestOut_30 ⟨Nat.le_of_ble_eq_true rfl, Nat.le_of_ble_eq_true rfl⟩) ?_
      refine lv_as (y := nI (tf (nU N q))) ((rowAt_in (by omega) (by decide)).trans (hf _ hu9)) ?_
      refine lv_aload_n hx hb dX7_slowestOut_33 rfl (lv_at hl 1 rfl) ?_
      refine va_get (D := G.1) (ci := 7) (v := .ref (a (i + 1))) (C := RX7) (T := TX7) (N := 2) hx hb hts inX7_slowestOut_7 hown hK h_t 0 rfl rfl 0 (by decide) (hts (.fieldLink RX7 14 "GateLedger$Timing" "times" "LGateLedger$Row;") (List.mem_of_getElem? (i := 1) (by decide +kernel))) (fun _ h9 => h9) rfl dX7_slowestOut_34 ?_
      refine lv_iload_n hx hb dX7_slowestOut_37 rfl (lv_at hl 3 rfl) ?_
      refine ro_i (va_runV (As := [.int (nI g)]) (rest := [.int (nI (tf (nU N q)))]) FX (c_X4_at l G a (i + 1) 120 f0 (nI g) (by decide)) (cwV 1 hts gX7_slowestOut_X4_at rfl rfl rfl (by decide +kernel) ⟨Nat.le_of_ble_eq_true rfl, Nat.le_of_ble_eq_true rfl⟩) (preV hK hNW (va_P.sub h_t [1, 2] rfl) (va_recv hK h_t (ci := 4) (q0 := 1) rfl rfl)) rfl rfl hl.1 rfl (lv_room (Nat.le_of_ble_eq_true rfl)) dX7_slowestOut_38 ⟨Nat.le_of_ble_eq_true rfl, Nat.le_of_ble_eq_true rfl⟩) ?_
      refine lv_as (y := nI (tf g)) ((rowAt_in (by omega) (by decide)).trans (hf _ hgl)) ?_
      have ht2 := ht _ hgl
      refine lv_icmp_le (tgt := 47) hx hb dX7_slowestOut_41 (by decide) (fun c41 => ?_) (fun c41 => ?_)
      · skip
        have c41 := cv_le (by omega) (by omega) c41
        refine lv_iinc (v := nI (q + 1)) (lv' := [(3, .int (nI (q + 1))), (4, .int (nI (nU N q))), (0, .ref (a i)), (1, .ref (a j)), (2, .int (nI g))]) hx hb dX7_slowestOut_47 hl (k := 4) rfl (by first | exact nI_add _ 1 | decide) (by decide) rfl (fun ls hl => ?_)
        refine lv_goto (tgt := 4) hx hb dX7_slowestOut_50 (by decide) ?_
        exact ih1 (q + 1) (some g) _ _ _ ⟨rfl, rfl, lv_sub hl [2, 3, 4, 0] rfl, by omega, by show _ = bsS N tf q (bst N tf q); rw [← ho]; exact (if_neg (by omega)).symm⟩ (by show nO N - (q + 1) < nO N - q; omega)
      · skip
        have c41 := cv_nle (by omega) (by omega) c41
        refine lv_iload hx hb dX7_slowestOut_44 (lv_at hl 0 rfl) ?_
        refine lv_istore_n (lv' := [(2, .int (nI (nU N q))), (4, .int (nI (nU N q))), (0, .ref (a i)), (1, .ref (a j)), (3, .int (nI q))]) hx hb dX7_slowestOut_46 rfl hl (by decide) rfl (fun ls hl => ?_)
        refine lv_iinc (v := nI (q + 1)) (lv' := [(3, .int (nI (q + 1))), (2, .int (nI (nU N q))), (4, .int (nI (nU N q))), (0, .ref (a i)), (1, .ref (a j))]) hx hb dX7_slowestOut_47 hl (k := 4) rfl (by first | exact nI_add _ 1 | decide) (by decide) rfl (fun ls hl => ?_)
        refine lv_goto (tgt := 4) hx hb dX7_slowestOut_50 (by decide) ?_
        exact ih1 (q + 1) (some (nU N q)) _ _ _ ⟨rfl, rfl, lv_sub hl [3, 4, 1, 0] rfl, by omega, by show _ = bsS N tf q (bst N tf q); rw [← ho]; exact (if_pos c41).symm⟩ (by show nO N - (q + 1) < nO N - q; omega)
set_option maxRecDepth 20000 in
theorem inX7_timeOfNet_7 : ∀ w ∈ u_ws RX7 TX7 2, w ∈ wsX7_timeOfNet := by decide +kernel
set_option maxHeartbeats 4000000 in
set_option maxRecDepth 100000 in
/-- Timing.timeOfNet -/
theorem c_X7_timeOfNet (l : Launch) (G : GG) (a : Nat → Nat) (i j : Nat) (x0 : Int32) (f0 : Nat → Int32) (N : NT) (hN : WF N) (tf : Nat → Nat) (hf : ∀ r, r < nG N → f0 r = nI (tf r)) (ht : ∀ r, r < nG N → tf r < 2 ^ 31) : Met l yX7_timeOfNet wsX7_timeOfNet ({ frames := 3, cells := 0, slots := 0, locals := 66 } : Room) (PcB G [.ref (a i), .ref (a j)] (fun H => PP G (timW G a i x0 f0) H ∧ PP G (netW G a j N) H)) (vp_Si (fun r => r = nI (dlN N tf))) 0 0 (fun _ => False) := by
  refine Met.ofW (cc := cX7_timeOfNet) (maxL := 3) (ret := (some .int)) (by decide) rfl ?_
  intro p e s m args below meth c s₁ B hml hv
  obtain ⟨rfl, hB, hK, hNW⟩ := hv
  have hx := B.exec
  have hb := B.bytes
  have hr := B.returns
  have hts := atoms_spec (ws := wsX7_timeOfNet) B.pre
  have hown : s.vm.findClass RX7 = some m.cls := findClass_of_methodNamed B.named
  have hlocks := B.notSynchronized
  have FX : CallFix p m c cX7_timeOfNet 3 s ([.ref (a i), .ref (a j)] : List Value).toArray wsX7_timeOfNet RX7 := ⟨hx, hb, hml, hown, hts⟩
  have hl := lv_entry ([.ref (a i), .ref (a j)]) (n := 3) (Nat.le_of_ble_eq_true rfl)
  rw [lg_entry_eq]
  generalize (lg_sl ([.ref (a i), .ref (a j)]) ++ List.replicate (3 - (lg_sl ([.ref (a i), .ref (a j)])).length) Slot.unset).toArray = ls at hl ⊢
  have hl : lv_has ls 3 [(0, .ref (a i)), (1, .ref (a j))] := hl
  obtain ⟨h_t, h_n⟩ := hB
  have hg9 := hN.g
  have ho9 := hN.o
  refine lv_aload_n hx hb dX7_timeOfNet_0 rfl (lv_at hl 0 rfl) ?_
  refine lv_aload_n hx hb dX7_timeOfNet_1 rfl (lv_at hl 1 rfl) ?_
  refine ro_i (va_runV (As := [.ref (a j)]) (rest := []) FX (c_X7_slowestOut l G a i j x0 f0 N hN tf hf ht) (cwV 1 hts gX7_timeOfNet_X7_slowestOut rfl rfl rfl (by decide +kernel) ⟨Nat.le_of_ble_eq_true rfl, Nat.le_of_ble_eq_true rfl⟩) (preV hK hNW (⟨h_t, h_n⟩) (va_recv hK h_t (ci := 7) (q0 := 0) rfl rfl)) rfl rfl hl.1 rfl (lv_room (Nat.le_of_ble_eq_true rfl)) dX7_timeOfNet_2 ⟨Nat.le_of_ble_eq_true rfl, Nat.le_of_ble_eq_true rfl⟩) ?_
  refine lv_istore_n (lv' := [(2, .int (oI (bst N tf (nO N)))), (0, .ref (a i)), (1, .ref (a j))]) hx hb dX7_timeOfNet_5 rfl hl (by decide) rfl (fun ls hl => ?_)
  refine lv_iload_n hx hb dX7_timeOfNet_6 rfl (lv_at hl 0 rfl) ?_
  refine lv_iconst (v := -1) hx hb dX7_timeOfNet_7 (by decide) ?_
  refine lv_icmp_ne (tgt := 15) hx hb dX7_timeOfNet_8 (by decide) (fun c8 => ?_) (fun c8 => ?_)
  · skip
    obtain ⟨g, hg⟩ := oI_some c8
    have hgl := bst_lt hN _ (Nat.le_refl _) g hg
    rw [hg] at hl
    have hl : lv_has ls 3 [(2, .int (nI g)), (0, .ref (a i)), (1, .ref (a j))] := hl
    refine lv_aload_n hx hb dX7_timeOfNet_15 rfl (lv_at hl 1 rfl) ?_
    refine va_get (D := G.1) (ci := 7) (v := .ref (a (i + 1))) (C := RX7) (T := TX7) (N := 2) hx hb hts inX7_timeOfNet_7 hown hK h_t 0 rfl rfl 0 (by decide) (hts (.fieldLink RX7 14 "GateLedger$Timing" "times" "LGateLedger$Row;") (List.mem_of_getElem? (i := 1) (by decide +kernel))) (fun _ h9 => h9) rfl dX7_timeOfNet_16 ?_
    refine lv_iload_n hx hb dX7_timeOfNet_19 rfl (lv_at hl 0 rfl) ?_
    refine ro_i (va_runV (As := [.int (nI g)]) (rest := []) FX (c_X4_at l G a (i + 1) 120 f0 (nI g) (by decide)) (cwV 1 hts gX7_timeOfNet_X4_at rfl rfl rfl (by decide +kernel) ⟨Nat.le_of_ble_eq_true rfl, Nat.le_of_ble_eq_true rfl⟩) (preV hK hNW (va_P.sub h_t [1, 2] rfl) (va_recv hK h_t (ci := 4) (q0 := 1) rfl rfl)) rfl rfl hl.1 rfl (lv_room (Nat.le_of_ble_eq_true rfl)) dX7_timeOfNet_20 ⟨Nat.le_of_ble_eq_true rfl, Nat.le_of_ble_eq_true rfl⟩) ?_
    refine lv_as (y := nI (tf g)) ((rowAt_in (by omega) (by decide)).trans (hf _ hgl)) ?_
    exact en_i hx hb hr hlocks (by unfold dlN; first | rw [hn9] | rw [hg]) dX7_timeOfNet_23
  · skip
    have hn9 := oI_none (fun g hg => Nat.lt_trans (bst_lt hN _ (Nat.le_refl _) g hg) (by omega)) c8
    refine lv_iconst (v := nI 0) hx hb dX7_timeOfNet_11 (by decide) ?_
    refine lv_goto (tgt := 23) hx hb dX7_timeOfNet_12 (by decide) ?_
    exact en_i hx hb hr hlocks (by unfold dlN; first | rw [hn9] | rw [hg]) dX7_timeOfNet_23
set_option maxRecDepth 20000 in
theorem inX7_slowestSource_7 : ∀ w ∈ u_ws RX7 TX7 2, w ∈ wsX7_slowestSource := by decide +kernel
set_option maxHeartbeats 4000000 in
set_option maxRecDepth 100000 in
/-- Timing.slowestSource -/
theorem c_X7_slowestSource (l : Launch) (G : GG) (a : Nat → Nat) (i j h : Nat) (x0 : Int32) (f0 : Nat → Int32) (N : NT) (hN : WF N) (dl tf : Nat → Nat) (hd : DL dl) (hf : ∀ r, r < nG N → f0 r = nI (tf r)) (ht : ∀ r, r < nG N → tf r < 2 ^ 30) (k : Nat) (hk : k < nG N) : Met l yX7_slowestSource wsX7_slowestSource ({ frames := 2, cells := 0, slots := 0, locals := 42 } : Room) (PcB G [.ref (a i), .ref (a j), .ref (a h), .int (nI k)] (fun H => PP G (timW G a i x0 f0) H ∧ PP G (netW G a j N) H ∧ PP G (rowW G a h 4 (fun z => nI (dl z))) H)) (vp_Si (fun r => r = oI (nxt N dl tf k))) 0 0 (fun _ => False) := by
  refine Met.ofW (cc := cX7_slowestSource) (maxL := 6) (ret := (some .int)) (by decide) rfl ?_
  intro p e s m args below meth c s₁ B hml hv
  obtain ⟨rfl, hB, hK, hNW⟩ := hv
  have hx := B.exec
  have hb := B.bytes
  have hr := B.returns
  have hts := atoms_spec (ws := wsX7_slowestSource) B.pre
  have hown : s.vm.findClass RX7 = some m.cls := findClass_of_methodNamed B.named
  have hlocks := B.notSynchronized
  have FX : CallFix p m c cX7_slowestSource 6 s ([.ref (a i), .ref (a j), .ref (a h), .int (nI k)] : List Value).toArray wsX7_slowestSource RX7 := ⟨hx, hb, hml, hown, hts⟩
  have hl := lv_entry ([.ref (a i), .ref (a j), .ref (a h), .int (nI k)]) (n := 6) (Nat.le_of_ble_eq_true rfl)
  rw [lg_entry_eq]
  generalize (lg_sl ([.ref (a i), .ref (a j), .ref (a h), .int (nI k)]) ++ List.replicate (6 - (lg_sl ([.ref (a i), .ref (a j), .ref (a h), .int (nI k)])).length) Slot.unset).toArray = ls at hl ⊢
  have hl : lv_has ls 6 [(0, .ref (a i)), (1, .ref (a j)), (2, .ref (a h)), (3, .int (nI k))] := hl
  obtain ⟨h_t, h_n, h_d⟩ := hB
  have hg9 := hN.g
  have ho9 := hN.o
  refine lv_aload_n hx hb dX7_slowestSource_0 rfl (lv_at hl 1 rfl) ?_
  refine lv_iload_n hx hb dX7_slowestSource_1 rfl (lv_at hl 3 rfl) ?_
  refine ro_i (va_runV (As := [.int (nI k)]) (rest := []) FX (c_X3_isInput l G a j N hN k hk) (cwV 1 hts gX7_slowestSource_X3_isInput rfl rfl rfl (by decide +kernel) ⟨Nat.le_of_ble_eq_true rfl, Nat.le_of_ble_eq_true rfl⟩) (preV hK hNW h_n (va_recv hK h_n (ci := 3) (q0 := 0) rfl rfl)) rfl rfl hl.1 rfl (lv_room (Nat.le_of_ble_eq_true rfl)) dX7_slowestSource_2 ⟨Nat.le_of_ble_eq_true rfl, Nat.le_of_ble_eq_true rfl⟩) ?_
  refine lv_if_eq (tgt := 10) hx hb dX7_slowestSource_5 (by decide) (fun c5 => ?_) (fun c5 => ?_)
  · skip
    have c5 := bI_0.mp c5
    have hfs := hN.fs hk c5
    have hk4 := hN.k hk
    have hd1 := hd (nK N k) (by omega)
    refine lv_aload_n hx hb dX7_slowestSource_10 rfl (lv_at hl 1 rfl) ?_
    refine lv_iload_n hx hb dX7_slowestSource_11 rfl (lv_at hl 3 rfl) ?_
    refine ro_i (va_runV (As := [.int (nI k)]) (rest := []) FX (c_X3_firstOf l G a j N hN k hk) (cwV 1 hts gX7_slowestSource_X3_firstOf rfl rfl rfl (by decide +kernel) ⟨Nat.le_of_ble_eq_true rfl, Nat.le_of_ble_eq_true rfl⟩) (preV hK hNW h_n (va_recv hK h_n (ci := 3) (q0 := 0) rfl rfl)) rfl rfl hl.1 rfl (lv_room (Nat.le_of_ble_eq_true rfl)) dX7_slowestSource_12 ⟨Nat.le_of_ble_eq_true rfl, Nat.le_of_ble_eq_true rfl⟩) ?_
    refine lv_istore (lv' := [(4, .int (nI (nF N k))), (0, .ref (a i)), (1, .ref (a j)), (2, .ref (a h)), (3, .int (nI k))]) hx hb dX7_slowestSource_15 hl (by decide) rfl (fun ls hl => ?_)
    refine lv_aload_n hx hb dX7_slowestSource_17 rfl (lv_at hl 1 rfl) ?_
    refine va_get (D := G.1) (ci := 7) (v := .ref (a (i + 1))) (C := RX7) (T := TX7) (N := 2) hx hb hts inX7_slowestSource_7 hown hK h_t 0 rfl rfl 0 (by decide) (hts (.fieldLink RX7 14 "GateLedger$Timing" "times" "LGateLedger$Row;") (List.mem_of_getElem? (i := 1) (by decide +kernel))) (fun _ h9 => h9) rfl dX7_slowestSource_18 ?_
    refine lv_iload hx hb dX7_slowestSource_21 (lv_at hl 0 rfl) ?_
    refine ro_i (va_runV (As := [.int (nI (nF N k))]) (rest := []) FX (c_X4_at l G a (i + 1) 120 f0 (nI (nF N k)) (by decide)) (cwV 1 hts gX7_slowestSource_X4_at rfl rfl rfl (by decide +kernel) ⟨Nat.le_of_ble_eq_true rfl, Nat.le_of_ble_eq_true rfl⟩) (preV hK hNW (va_P.sub h_t [1, 2] rfl) (va_recv hK h_t (ci := 4) (q0 := 1) rfl rfl)) rfl rfl hl.1 rfl (lv_room (Nat.le_of_ble_eq_true rfl)) dX7_slowestSource_23 ⟨Nat.le_of_ble_eq_true rfl, Nat.le_of_ble_eq_true rfl⟩) ?_
    refine lv_as (y := nI (tf (nF N k))) ((rowAt_in (by omega) (by decide)).trans (hf _ (by omega))) ?_
    refine lv_aload_n hx hb dX7_slowestSource_26 rfl (lv_at hl 3 rfl) ?_
    refine lv_aload_n hx hb dX7_slowestSource_27 rfl (lv_at hl 2 rfl) ?_
    refine lv_iload_n hx hb dX7_slowestSource_28 rfl (lv_at hl 4 rfl) ?_
    refine ro_i (va_runV (As := [.int (nI k)]) (rest := [.ref (a h), .int (nI (tf (nF N k)))]) FX (c_X3_kindOf l G a j N hN k hk) (cwV 1 hts gX7_slowestSource_X3_kindOf rfl rfl rfl (by decide +kernel) ⟨Nat.le_of_ble_eq_true rfl, Nat.le_of_ble_eq_true rfl⟩) (preV hK hNW h_n (va_recv hK h_n (ci := 3) (q0 := 0) rfl rfl)) rfl rfl hl.1 rfl (lv_room (Nat.le_of_ble_eq_true rfl)) dX7_slowestSource_29 ⟨Nat.le_of_ble_eq_true rfl, Nat.le_of_ble_eq_true rfl⟩) ?_
    refine ro_i (va_runV (As := [.int (nI (nK N k))]) (rest := [.int (nI (tf (nF N k)))]) FX (c_X4_at l G a h 4 (fun z => nI (dl z)) (nI (nK N k)) (by decide)) (cwV 1 hts gX7_slowestSource_X4_at rfl rfl rfl (by decide +kernel) ⟨Nat.le_of_ble_eq_true rfl, Nat.le_of_ble_eq_true rfl⟩) (preV hK hNW (va_P.sub h_d [0, 1] rfl) (va_recv hK h_d (ci := 4) (q0 := 0) rfl rfl)) rfl rfl hl.1 rfl (lv_room (Nat.le_of_ble_eq_true rfl)) dX7_slowestSource_32 ⟨Nat.le_of_ble_eq_true rfl, Nat.le_of_ble_eq_true rfl⟩) ?_
    refine lv_as (y := nI (dl (nK N k))) (rowAt_in (by omega) (by decide)) ?_
    refine lv_iadd hx hb dX7_slowestSource_35 ?_
    refine lv_as (nI_add _ _) ?_
    refine lv_istore (lv' := [(5, .int (nI ((tf (nF N k)) + (dl (nK N k))))), (4, .int (nI (nF N k))), (0, .ref (a i)), (1, .ref (a j)), (2, .ref (a h)), (3, .int (nI k))]) hx hb dX7_slowestSource_36 hl (by decide) rfl (fun ls hl => ?_)
    refine lv_iload hx hb dX7_slowestSource_38 (lv_at hl 0 rfl) ?_
    refine lv_aload_n hx hb dX7_slowestSource_40 rfl (lv_at hl 2 rfl) ?_
    refine va_get (D := G.1) (ci := 7) (v := .ref (a (i + 1))) (C := RX7) (T := TX7) (N := 2) hx hb hts inX7_slowestSource_7 hown hK h_t 0 rfl rfl 0 (by decide) (hts (.fieldLink RX7 14 "GateLedger$Timing" "times" "LGateLedger$Row;") (List.mem_of_getElem? (i := 1) (by decide +kernel))) (fun _ h9 => h9) rfl dX7_slowestSource_41 ?_
    refine lv_iload_n hx hb dX7_slowestSource_44 rfl (lv_at hl 5 rfl) ?_
    refine ro_i (va_runV (As := [.int (nI k)]) (rest := [.int (nI ((tf (nF N k)) + (dl (nK N k))))]) FX (c_X4_at l G a (i + 1) 120 f0 (nI k) (by decide)) (cwV 1 hts gX7_slowestSource_X4_at rfl rfl rfl (by decide +kernel) ⟨Nat.le_of_ble_eq_true rfl, Nat.le_of_ble_eq_true rfl⟩) (preV hK hNW (va_P.sub h_t [1, 2] rfl) (va_recv hK h_t (ci := 4) (q0 := 1) rfl rfl)) rfl rfl hl.1 rfl (lv_room (Nat.le_of_ble_eq_true rfl)) dX7_slowestSource_45 ⟨Nat.le_of_ble_eq_true rfl, Nat.le_of_ble_eq_true rfl⟩) ?_
    refine lv_as (y := nI (tf k)) ((rowAt_in (by omega) (by decide)).trans (hf _ hk)) ?_
    have ht1 := ht _ (Nat.lt_trans hfs.1 hk)
    have ht2 := ht _ hk
    refine lv_icmp_ne (tgt := 56) hx hb dX7_slowestSource_48 (by decide) (fun c48 => ?_) (fun c48 => ?_)
    · skip
      have c48 := cv_ne (by omega) (by omega) c48
      refine lv_aload_n hx hb dX7_slowestSource_56 rfl (lv_at hl 3 rfl) ?_
      refine lv_iload_n hx hb dX7_slowestSource_57 rfl (lv_at hl 5 rfl) ?_
      refine ro_i (va_runV (As := [.int (nI k)]) (rest := []) FX (c_X3_secondOf l G a j N hN k hk) (cwV 1 hts gX7_slowestSource_X3_secondOf rfl rfl rfl (by decide +kernel) ⟨Nat.le_of_ble_eq_true rfl, Nat.le_of_ble_eq_true rfl⟩) (preV hK hNW h_n (va_recv hK h_n (ci := 3) (q0 := 0) rfl rfl)) rfl rfl hl.1 rfl (lv_room (Nat.le_of_ble_eq_true rfl)) dX7_slowestSource_58 ⟨Nat.le_of_ble_eq_true rfl, Nat.le_of_ble_eq_true rfl⟩) ?_
      exact en_i hx hb hr hlocks (by unfold nxt; first | (rw [if_pos c5]; rfl) | (rw [if_neg c5, if_pos c48]; rfl) | (rw [if_neg c5, if_neg c48]; rfl)) dX7_slowestSource_61
    · skip
      have c48 := cv_eq (by omega) (by omega) c48
      refine lv_iload hx hb dX7_slowestSource_51 (lv_at hl 1 rfl) ?_
      refine lv_goto (tgt := 61) hx hb dX7_slowestSource_53 (by decide) ?_
      exact en_i hx hb hr hlocks (by unfold nxt; first | (rw [if_pos c5]; rfl) | (rw [if_neg c5, if_pos c48]; rfl) | (rw [if_neg c5, if_neg c48]; rfl)) dX7_slowestSource_61
  · skip
    have c5 := bI_1 c5
    refine lv_iconst (v := -1) hx hb dX7_slowestSource_8 (by decide) ?_
    exact en_i hx hb hr hlocks (by unfold nxt; first | (rw [if_pos c5]; rfl) | (rw [if_neg c5, if_pos c48]; rfl) | (rw [if_neg c5, if_neg c48]; rfl)) dX7_slowestSource_9
