set_option maxRecDepth 20000 in
theorem inX10_greatestLoad_10 : ∀ w ∈ u_ws RX10 TX10 3, w ∈ wsX10_greatestLoad := by decide +kernel
set_option maxHeartbeats 4000000 in
set_option maxRecDepth 100000 in
/-- Wiring.greatestLoad -/
theorem c_X10_greatestLoad (l : Launch) (G : GG) (a : Nat → Nat) (ha : Inj a) (i j : Nat) (hij : i + 7 ≤ j ∨ j + 11 ≤ i) (mk bs ld : Nat → Int32) (N : NT) (hN : WF N)  : Met l yX10_greatestLoad wsX10_greatestLoad ({ frames := 2, cells := 0, slots := 0, locals := 44 } : Room) (PcB G [.ref (a i), .ref (a j)] (fun H => PP G (wirW G a i mk bs ld) H ∧ PP G (netW G a j N) H)) (QI (fun (r : Int32) (_ : Nat → Int32) => r = mxA (loT N (nO N)) (nG N)) (fun f H => PP G (wirW G a i mk bs f) H) (rng a i 7)) 0 0 (rng a i 7) := by
  refine Met.ofW (cc := cX10_greatestLoad) (maxL := 4) (ret := (some .int)) (by decide) rfl ?_
  intro p e s m args below meth c s₁ B hml hv
  obtain ⟨rfl, hB, hK, hNW⟩ := hv
  have hx := B.exec
  have hb := B.bytes
  have hr := B.returns
  have hts := atoms_spec (ws := wsX10_greatestLoad) B.pre
  have hown : s.vm.findClass RX10 = some m.cls := findClass_of_methodNamed B.named
  have hlocks := B.notSynchronized
  have FX : CallFix p m c cX10_greatestLoad 4 s ([.ref (a i), .ref (a j)] : List Value).toArray wsX10_greatestLoad RX10 := ⟨hx, hb, hml, hown, hts⟩
  have hl := lv_entry ([.ref (a i), .ref (a j)]) (n := 4) (Nat.le_of_ble_eq_true rfl)
  rw [lg_entry_eq]
  generalize (lg_sl ([.ref (a i), .ref (a j)]) ++ List.replicate (4 - (lg_sl ([.ref (a i), .ref (a j)])).length) Slot.unset).toArray = ls at hl ⊢
  have hl : lv_has ls 4 [(0, .ref (a i)), (1, .ref (a j))] := hl
  obtain ⟨hB, h_n⟩ := hB
  have h_o : PP G ([(a i, .inr (10, [.ref (a (i + 1)), .ref (a (i + 3)), .ref (a (i + 5))]))]) s.heap := P_app1 hB
  have h_m : PP G (rowW G a (i + 1) 120 mk) s.heap := P_app1 (P_app2 hB)
  have h_b : PP G (rowW G a (i + 3) 120 bs) s.heap := P_app1 (P_app2 (P_app2 hB))
  have h_d : PP G (rowW G a (i + 5) 120 ld) s.heap := P_app2 (P_app2 (P_app2 hB))
  have hdn : dj (rng a i 7) (netW G a j N) := dj_rng ha netW_in (by omega)
  have hg9 := hN.g
  have ho9 := hN.o
  have hS : va_S (rng a i 7) s.heap s.heap [] := va_S.rf
  refine lv_aload_n hx hb dX10_greatestLoad_0 rfl (lv_at hl 0 rfl) ?_
  refine va_get (D := G.1) (ci := 10) (v := .ref (a (i + 5))) (C := RX10) (T := TX10) (N := 3) hx hb hts inX10_greatestLoad_10 hown hK h_o 0 rfl rfl 2 (by decide) (hts (.fieldLink RX10 23 "GateLedger$Wiring" "loads" "LGateLedger$Row;") (List.mem_of_getElem? (i := 1) (by decide +kernel))) (fun _ h9 => h9) rfl dX10_greatestLoad_1 ?_
  refine wr_v (va_runV (As := []) (rest := []) FX (c_X4_wipe l G a ha (i + 5) 120 ld (by decide)) (cwV 0 hts gX10_greatestLoad_X4_wipe rfl rfl rfl (by decide +kernel) ⟨Nat.le_of_ble_eq_true rfl, Nat.le_of_ble_eq_true rfl⟩) (preV hK hNW h_d (va_recv hK h_d (ci := 4) (q0 := 0) rfl rfl)) rfl rfl hl.1 rfl (lv_room (Nat.le_of_ble_eq_true rfl)) dX10_greatestLoad_4 ⟨Nat.le_of_ble_eq_true rfl, Nat.le_of_ble_eq_true rfl⟩) hS (rng_sub (by omega)) (fun w9 H locs hw9 hP9 hk1 hS => ?_)
  have h_d : PP G (rowW G a (i + 5) 120 w9) H := hP9
  have h_o : PP G ([(a i, .inr (10, [.ref (a (i + 1)), .ref (a (i + 3)), .ref (a (i + 5))]))]) H := kp hk1 h_o (dj_cons (rng_no ha (by omega)) (dj_nil))
  have h_m : PP G (rowW G a (i + 1) 120 mk) H := kp hk1 h_m (dj_cons (rng_no ha (by omega)) (dj_cons (rng_no ha (by omega)) (dj_nil)))
  have h_b : PP G (rowW G a (i + 3) 120 bs) H := kp hk1 h_b (dj_cons (rng_no ha (by omega)) (dj_cons (rng_no ha (by omega)) (dj_nil)))
  refine lv_iconst (v := nI 0) hx hb dX10_greatestLoad_7 (by decide) ?_
  refine lv_istore_n (lv' := [(2, .int (nI 0)), (0, .ref (a i)), (1, .ref (a j))]) hx hb dX10_greatestLoad_8 rfl hl (by decide) rfl (fun ls hl => ?_)
  refine lv_loop2 9 (fun (k : Nat) (f : Nat → Int32) => nG N - k) (fun (k : Nat) (f : Nat → Int32) (H : Heap) (locs : List Loc) (ls : Array Slot) => (PP G ([(a i, .inr (10, [.ref (a (i + 1)), .ref (a (i + 3)), .ref (a (i + 5))]))]) H) ∧ (PP G (rowW G a (i + 1) 120 mk) H) ∧ (PP G (rowW G a (i + 3) 120 bs) H) ∧ (PP G (rowW G a (i + 5) 120 f) H) ∧ (va_S (rng a i 7) s.heap H locs) ∧ (lv_has ls 4 [(0, .ref (a i)), (1, .ref (a j)), (2, .int (nI k))]) ∧ (k ≤ nG N) ∧ (∀ r, r < 120 → f r = ldT N k r)) (fun _ _ => []) (fun k f H locs ls hI ih => ?_) 0 w9 ⟨h_o, h_m, h_b, h_d, hS, lv_sub hl [1, 2, 0] rfl, by omega, fun r h => hw9 r h⟩ rfl
  obtain ⟨h_o, h_m, h_b, h_d, hS, hl, hk, hf⟩ := hI
  have ih3 := @ih
  clear ih
  refine lv_iload_n hx hb dX10_greatestLoad_9 rfl (lv_at hl 2 rfl) ?_
  refine lv_aload_n hx hb dX10_greatestLoad_10 rfl (lv_at hl 1 rfl) ?_
  refine ro_i (va_runV (As := []) (rest := [.int (nI k)]) FX (c_X3_size l G a j N) (cwV 0 hts gX10_greatestLoad_X3_size rfl rfl rfl (by decide +kernel) ⟨Nat.le_of_ble_eq_true rfl, Nat.le_of_ble_eq_true rfl⟩) (preV hK hNW (ro hS h_n hdn) (va_recv hK (ro hS h_n hdn) (ci := 3) (q0 := 0) rfl rfl)) rfl rfl hl.1 rfl (lv_room (Nat.le_of_ble_eq_true rfl)) dX10_greatestLoad_11 ⟨Nat.le_of_ble_eq_true rfl, Nat.le_of_ble_eq_true rfl⟩) ?_
  refine lv_icmp_ge (tgt := 70) hx hb dX10_greatestLoad_14 (by decide) (fun c14 => ?_) (fun c14 => ?_)
  · skip
    have c14 := cv_le (by omega) (by omega) c14
    refine lv_iconst (v := nI 0) hx hb dX10_greatestLoad_70 (by decide) ?_
    refine lv_istore_n (lv' := [(2, .int (nI 0)), (0, .ref (a i)), (1, .ref (a j))]) hx hb dX10_greatestLoad_71 rfl hl (by decide) rfl (fun ls hl => ?_)
    refine lv_loop2 72 (fun (q : Nat) (f : Nat → Int32) => nO N - q) (fun (q : Nat) (f : Nat → Int32) (H : Heap) (locs : List Loc) (ls : Array Slot) => (PP G ([(a i, .inr (10, [.ref (a (i + 1)), .ref (a (i + 3)), .ref (a (i + 5))]))]) H) ∧ (PP G (rowW G a (i + 1) 120 mk) H) ∧ (PP G (rowW G a (i + 3) 120 bs) H) ∧ (PP G (rowW G a (i + 5) 120 f) H) ∧ (va_S (rng a i 7) s.heap H locs) ∧ (lv_has ls 4 [(0, .ref (a i)), (1, .ref (a j)), (2, .int (nI q))]) ∧ (q ≤ nO N) ∧ (∀ r, r < 120 → f r = loT N q r)) (fun _ _ => []) (fun q f H locs ls hI ih => ?_) 0 f ⟨h_o, h_m, h_b, h_d, hS, lv_sub hl [1, 2, 0] rfl, by omega, fun r h => by rw [hf r h, show k = nG N by omega]; rfl⟩ rfl
    obtain ⟨h_o, h_m, h_b, h_d, hS, hl, hq, hf⟩ := hI
    have ih4 := @ih
    clear ih
    refine lv_iload_n hx hb dX10_greatestLoad_72 rfl (lv_at hl 2 rfl) ?_
    refine lv_aload_n hx hb dX10_greatestLoad_73 rfl (lv_at hl 1 rfl) ?_
    refine ro_i (va_runV (As := []) (rest := [.int (nI q)]) FX (c_X3_outCount l G a j N) (cwV 0 hts gX10_greatestLoad_X3_outCount rfl rfl rfl (by decide +kernel) ⟨Nat.le_of_ble_eq_true rfl, Nat.le_of_ble_eq_true rfl⟩) (preV hK hNW (ro hS h_n hdn) (va_recv hK (ro hS h_n hdn) (ci := 3) (q0 := 0) rfl rfl)) rfl rfl hl.1 rfl (lv_room (Nat.le_of_ble_eq_true rfl)) dX10_greatestLoad_74 ⟨Nat.le_of_ble_eq_true rfl, Nat.le_of_ble_eq_true rfl⟩) ?_
    refine lv_icmp_ge (tgt := 99) hx hb dX10_greatestLoad_77 (by decide) (fun c77 => ?_) (fun c77 => ?_)
    · skip
      have c77 := cv_le (by omega) (by omega) c77
      refine lv_iconst (v := nI 0) hx hb dX10_greatestLoad_99 (by decide) ?_
      refine lv_istore_n (lv' := [(2, .int (nI 0)), (0, .ref (a i)), (1, .ref (a j))]) hx hb dX10_greatestLoad_100 rfl hl (by decide) rfl (fun ls hl => ?_)
      refine lv_iconst (v := nI 0) hx hb dX10_greatestLoad_101 (by decide) ?_
      refine lv_istore_n (lv' := [(3, .int (nI 0)), (2, .int (nI 0)), (0, .ref (a i)), (1, .ref (a j))]) hx hb dX10_greatestLoad_102 rfl hl (by decide) rfl (fun ls hl => ?_)
      have hf3 : ∀ r, r < 120 → f r = loT N (nO N) r := fun r h => by rw [hf r h, show q = nO N by omega]
      refine lv_loop1 103 (fun (z : Nat) => nG N - z) (fun (z : Nat) (H : Heap) (locs : List Loc) (ls : Array Slot) => (PP G ([(a i, .inr (10, [.ref (a (i + 1)), .ref (a (i + 3)), .ref (a (i + 5))]))]) H) ∧ (PP G (rowW G a (i + 1) 120 mk) H) ∧ (PP G (rowW G a (i + 3) 120 bs) H) ∧ (PP G (rowW G a (i + 5) 120 f) H) ∧ (va_S (rng a i 7) s.heap H locs) ∧ (lv_has ls 4 [(0, .ref (a i)), (1, .ref (a j)), (2, .int (mxA (loT N (nO N)) z)), (3, .int (nI z))]) ∧ (z ≤ nG N)) (fun _ => []) (fun z H locs ls hI ih => ?_) 0 ⟨h_o, h_m, h_b, h_d, hS, lv_sub hl [2, 3, 1, 0] rfl, by omega⟩ rfl
      obtain ⟨h_o, h_m, h_b, h_d, hS, hl, hz⟩ := hI
      have ih5 := @ih
      clear ih
      refine lv_iload_n hx hb dX10_greatestLoad_103 rfl (lv_at hl 3 rfl) ?_
      refine lv_aload_n hx hb dX10_greatestLoad_104 rfl (lv_at hl 1 rfl) ?_
      refine ro_i (va_runV (As := []) (rest := [.int (nI z)]) FX (c_X3_size l G a j N) (cwV 0 hts gX10_greatestLoad_X3_size rfl rfl rfl (by decide +kernel) ⟨Nat.le_of_ble_eq_true rfl, Nat.le_of_ble_eq_true rfl⟩) (preV hK hNW (ro hS h_n hdn) (va_recv hK (ro hS h_n hdn) (ci := 3) (q0 := 0) rfl rfl)) rfl rfl hl.1 rfl (lv_room (Nat.le_of_ble_eq_true rfl)) dX10_greatestLoad_105 ⟨Nat.le_of_ble_eq_true rfl, Nat.le_of_ble_eq_true rfl⟩) ?_
      refine lv_icmp_ge (tgt := 130) hx hb dX10_greatestLoad_108 (by decide) (fun c108 => ?_) (fun c108 => ?_)
      · skip
        have c108 := cv_le (by omega) (by omega) c108
        refine lv_iload_n hx hb dX10_greatestLoad_130 rfl (lv_at hl 2 rfl) ?_
        exact en_wi f hx hb hr hlocks hS (by rw [show z = nG N by omega]) (P_app h_o (P_app h_m (P_app h_b h_d))) dX10_greatestLoad_131
      · skip
        have c108 := cv_nle (by omega) (by omega) c108
        refine lv_iload_n hx hb dX10_greatestLoad_111 rfl (lv_at hl 2 rfl) ?_
        refine lv_aload_n hx hb dX10_greatestLoad_112 rfl (lv_at hl 0 rfl) ?_
        refine va_get (D := G.1) (ci := 10) (v := .ref (a (i + 5))) (C := RX10) (T := TX10) (N := 3) hx hb hts inX10_greatestLoad_10 hown hK h_o 0 rfl rfl 2 (by decide) (hts (.fieldLink RX10 23 "GateLedger$Wiring" "loads" "LGateLedger$Row;") (List.mem_of_getElem? (i := 1) (by decide +kernel))) (fun _ h9 => h9) rfl dX10_greatestLoad_113 ?_
        refine lv_iload_n hx hb dX10_greatestLoad_116 rfl (lv_at hl 3 rfl) ?_
        refine ro_i (va_runV (As := [.int (nI z)]) (rest := [.int (mxA (loT N (nO N)) z)]) FX (c_X4_at l G a (i + 5) 120 f (nI z) (by decide)) (cwV 1 hts gX10_greatestLoad_X4_at rfl rfl rfl (by decide +kernel) ⟨Nat.le_of_ble_eq_true rfl, Nat.le_of_ble_eq_true rfl⟩) (preV hK hNW (va_P.sub h_d [0, 1] rfl) (va_recv hK h_d (ci := 4) (q0 := 0) rfl rfl)) rfl rfl hl.1 rfl (lv_room (Nat.le_of_ble_eq_true rfl)) dX10_greatestLoad_117 ⟨Nat.le_of_ble_eq_true rfl, Nat.le_of_ble_eq_true rfl⟩) ?_
        refine lv_as (y := loT N (nO N) z) ((rowAt_in (by omega) (by decide)).trans (hf3 _ (by omega))) ?_
        refine va_mmax hx hb (hml.trans hl.1.symm) hown (hts (.methodLink RX10 62 Lib.Math.max.name) (List.mem_of_getElem? (i := 2) (by decide +kernel))) (hts (.static Lib.Math.max.name) (List.mem_of_getElem? (i := 3) (by decide +kernel))) (hts (.initialized "java/lang/Math") (List.mem_of_getElem? (i := 4) (by decide +kernel))) (hts (.code Lib.Math.max.name Lib.Math.max.code 2 (some .int)) (List.mem_of_getElem? (i := 5) (by decide +kernel))) (Nat.le_of_ble_eq_true rfl) (Nat.le_of_ble_eq_true rfl) (Nat.le_of_ble_eq_true rfl) (Nat.le_of_ble_eq_true rfl) dX10_greatestLoad_120 ?_
        refine lv_istore_n (lv' := [(2, .int (if mxA (loT N (nO N)) z < loT N (nO N) z then loT N (nO N) z else mxA (loT N (nO N)) z)), (0, .ref (a i)), (1, .ref (a j)), (3, .int (nI z))]) hx hb dX10_greatestLoad_123 rfl hl (by decide) rfl (fun ls hl => ?_)
        refine lv_iinc (v := nI (z + 1)) (lv' := [(3, .int (nI (z + 1))), (2, .int (if mxA (loT N (nO N)) z < loT N (nO N) z then loT N (nO N) z else mxA (loT N (nO N)) z)), (0, .ref (a i)), (1, .ref (a j))]) hx hb dX10_greatestLoad_124 hl (k := 3) rfl (by first | exact nI_add _ 1 | decide) (by decide) rfl (fun ls hl => ?_)
        refine lv_goto (tgt := 103) hx hb dX10_greatestLoad_127 (by decide) ?_
        exact ih5 (z + 1) _ _ _ ⟨h_o, h_m, h_b, h_d, hS, lv_sub hl [2, 3, 1, 0] rfl, by omega⟩ (by show nG N - (z + 1) < nG N - z; omega)
    · skip
      have c77 := cv_nle (by omega) (by omega) c77
      have hu9 := hN.u c77
      refine lv_aload_n hx hb dX10_greatestLoad_80 rfl (lv_at hl 0 rfl) ?_
      refine va_get (D := G.1) (ci := 10) (v := .ref (a (i + 5))) (C := RX10) (T := TX10) (N := 3) hx hb hts inX10_greatestLoad_10 hown hK h_o 0 rfl rfl 2 (by decide) (hts (.fieldLink RX10 23 "GateLedger$Wiring" "loads" "LGateLedger$Row;") (List.mem_of_getElem? (i := 1) (by decide +kernel))) (fun _ h9 => h9) rfl dX10_greatestLoad_81 ?_
      refine lv_aload_n hx hb dX10_greatestLoad_84 rfl (lv_at hl 1 rfl) ?_
      refine lv_iload_n hx hb dX10_greatestLoad_85 rfl (lv_at hl 2 rfl) ?_
      refine ro_i (va_runV (As := [.int (nI q)]) (rest := [.ref (a (i + 5))]) FX (c_X3_outAt l G a j N hN q c77) (cwV 1 hts gX10_greatestLoad_X3_outAt rfl rfl rfl (by decide +kernel) ⟨Nat.le_of_ble_eq_true rfl, Nat.le_of_ble_eq_true rfl⟩) (preV hK hNW (ro hS h_n hdn) (va_recv hK (ro hS h_n hdn) (ci := 3) (q0 := 0) rfl rfl)) rfl rfl hl.1 rfl (lv_room (Nat.le_of_ble_eq_true rfl)) dX10_greatestLoad_86 ⟨Nat.le_of_ble_eq_true rfl, Nat.le_of_ble_eq_true rfl⟩) ?_
      refine lv_iconst (v := nI 1) hx hb dX10_greatestLoad_89 (by decide) ?_
      refine wr_v (va_runV (As := [.int (nI (nU N q)), .int (nI 1)]) (rest := []) FX (c_X4_add l G a ha (i + 5) 120 f (nU N q) (nI 1) (by omega) (by decide)) (cwV 2 hts gX10_greatestLoad_X4_add rfl rfl rfl (by decide +kernel) ⟨Nat.le_of_ble_eq_true rfl, Nat.le_of_ble_eq_true rfl⟩) (preV hK hNW h_d (va_recv hK h_d (ci := 4) (q0 := 0) rfl rfl)) rfl rfl hl.1 rfl (lv_room (Nat.le_of_ble_eq_true rfl)) dX10_greatestLoad_90 ⟨Nat.le_of_ble_eq_true rfl, Nat.le_of_ble_eq_true rfl⟩) hS (rng_sub (by omega)) (fun _ H locs _ hP9 hk6 hS => ?_)
      have h_d : PP G (rowW G a (i + 5) 120 (upd f (nU N q) (f (nU N q) + (nI 1)))) H := hP9
      have h_o : PP G ([(a i, .inr (10, [.ref (a (i + 1)), .ref (a (i + 3)), .ref (a (i + 5))]))]) H := kp hk6 h_o (dj_cons (rng_no ha (by omega)) (dj_nil))
      have h_m : PP G (rowW G a (i + 1) 120 mk) H := kp hk6 h_m (dj_cons (rng_no ha (by omega)) (dj_cons (rng_no ha (by omega)) (dj_nil)))
      have h_b : PP G (rowW G a (i + 3) 120 bs) H := kp hk6 h_b (dj_cons (rng_no ha (by omega)) (dj_cons (rng_no ha (by omega)) (dj_nil)))
      refine lv_iinc (v := nI (q + 1)) (lv' := [(2, .int (nI (q + 1))), (0, .ref (a i)), (1, .ref (a j))]) hx hb dX10_greatestLoad_93 hl (k := 2) rfl (by first | exact nI_add _ 1 | decide) (by decide) rfl (fun ls hl => ?_)
      refine lv_goto (tgt := 72) hx hb dX10_greatestLoad_96 (by decide) ?_
      exact ih4 (q + 1) (upd f (nU N q) (f (nU N q) + nI 1)) _ _ _ ⟨h_o, h_m, h_b, h_d, hS, lv_sub hl [1, 2, 0] rfl, by omega, upd_cong hf (by rw [hf _ (by omega)])⟩ (by show nO N - (q + 1) < nO N - q; omega)
  · skip
    have c14 := cv_nle (by omega) (by omega) c14
    refine lv_aload_n hx hb dX10_greatestLoad_17 rfl (lv_at hl 1 rfl) ?_
    refine lv_iload_n hx hb dX10_greatestLoad_18 rfl (lv_at hl 2 rfl) ?_
    refine ro_i (va_runV (As := [.int (nI k)]) (rest := []) FX (c_X3_isInput l G a j N hN k c14) (cwV 1 hts gX10_greatestLoad_X3_isInput rfl rfl rfl (by decide +kernel) ⟨Nat.le_of_ble_eq_true rfl, Nat.le_of_ble_eq_true rfl⟩) (preV hK hNW (ro hS h_n hdn) (va_recv hK (ro hS h_n hdn) (ci := 3) (q0 := 0) rfl rfl)) rfl rfl hl.1 rfl (lv_room (Nat.le_of_ble_eq_true rfl)) dX10_greatestLoad_19 ⟨Nat.le_of_ble_eq_true rfl, Nat.le_of_ble_eq_true rfl⟩) ?_
    refine lv_if_ne (tgt := 64) hx hb dX10_greatestLoad_22 (by decide) (fun c22 => ?_) (fun c22 => ?_)
    · skip
      have c22 := bI_1 c22
      refine lv_iinc (v := nI (k + 1)) (lv' := [(2, .int (nI (k + 1))), (0, .ref (a i)), (1, .ref (a j))]) hx hb dX10_greatestLoad_64 hl (k := 2) rfl (by first | exact nI_add _ 1 | decide) (by decide) rfl (fun ls hl => ?_)
      refine lv_goto (tgt := 9) hx hb dX10_greatestLoad_67 (by decide) ?_
      exact ih3 (k + 1) f _ _ _ ⟨h_o, h_m, h_b, h_d, hS, lv_sub hl [1, 2, 0] rfl, by omega, fun r h => (hf r h).trans (congrFun (show ldS N (ldT N k) k = ldT N k from if_pos c22).symm r)⟩ (by show nG N - (k + 1) < nG N - k; omega)
    · skip
      have c22 := bI_0.mp c22
      have hfs := hN.fs c14 c22
      have hk4 := hN.k c14
      refine lv_aload_n hx hb dX10_greatestLoad_25 rfl (lv_at hl 0 rfl) ?_
      refine va_get (D := G.1) (ci := 10) (v := .ref (a (i + 5))) (C := RX10) (T := TX10) (N := 3) hx hb hts inX10_greatestLoad_10 hown hK h_o 0 rfl rfl 2 (by decide) (hts (.fieldLink RX10 23 "GateLedger$Wiring" "loads" "LGateLedger$Row;") (List.mem_of_getElem? (i := 1) (by decide +kernel))) (fun _ h9 => h9) rfl dX10_greatestLoad_26 ?_
      refine lv_aload_n hx hb dX10_greatestLoad_29 rfl (lv_at hl 1 rfl) ?_
      refine lv_iload_n hx hb dX10_greatestLoad_30 rfl (lv_at hl 2 rfl) ?_
      refine ro_i (va_runV (As := [.int (nI k)]) (rest := [.ref (a (i + 5))]) FX (c_X3_firstOf l G a j N hN k c14) (cwV 1 hts gX10_greatestLoad_X3_firstOf rfl rfl rfl (by decide +kernel) ⟨Nat.le_of_ble_eq_true rfl, Nat.le_of_ble_eq_true rfl⟩) (preV hK hNW (ro hS h_n hdn) (va_recv hK (ro hS h_n hdn) (ci := 3) (q0 := 0) rfl rfl)) rfl rfl hl.1 rfl (lv_room (Nat.le_of_ble_eq_true rfl)) dX10_greatestLoad_31 ⟨Nat.le_of_ble_eq_true rfl, Nat.le_of_ble_eq_true rfl⟩) ?_
      refine lv_iconst (v := nI 1) hx hb dX10_greatestLoad_34 (by decide) ?_
      refine wr_v (va_runV (As := [.int (nI (nF N k)), .int (nI 1)]) (rest := []) FX (c_X4_add l G a ha (i + 5) 120 f (nF N k) (nI 1) (by omega) (by decide)) (cwV 2 hts gX10_greatestLoad_X4_add rfl rfl rfl (by decide +kernel) ⟨Nat.le_of_ble_eq_true rfl, Nat.le_of_ble_eq_true rfl⟩) (preV hK hNW h_d (va_recv hK h_d (ci := 4) (q0 := 0) rfl rfl)) rfl rfl hl.1 rfl (lv_room (Nat.le_of_ble_eq_true rfl)) dX10_greatestLoad_35 ⟨Nat.le_of_ble_eq_true rfl, Nat.le_of_ble_eq_true rfl⟩) hS (rng_sub (by omega)) (fun _ H locs _ hP9 hk8 hS => ?_)
      have h_d : PP G (rowW G a (i + 5) 120 (upd f (nF N k) (f (nF N k) + (nI 1)))) H := hP9
      have h_o : PP G ([(a i, .inr (10, [.ref (a (i + 1)), .ref (a (i + 3)), .ref (a (i + 5))]))]) H := kp hk8 h_o (dj_cons (rng_no ha (by omega)) (dj_nil))
      have h_m : PP G (rowW G a (i + 1) 120 mk) H := kp hk8 h_m (dj_cons (rng_no ha (by omega)) (dj_cons (rng_no ha (by omega)) (dj_nil)))
      have h_b : PP G (rowW G a (i + 3) 120 bs) H := kp hk8 h_b (dj_cons (rng_no ha (by omega)) (dj_cons (rng_no ha (by omega)) (dj_nil)))
      refine lv_aload_n hx hb dX10_greatestLoad_38 rfl (lv_at hl 0 rfl) ?_
      refine va_get (D := G.1) (ci := 10) (v := .ref (a (i + 5))) (C := RX10) (T := TX10) (N := 3) hx hb hts inX10_greatestLoad_10 hown hK h_o 0 rfl rfl 2 (by decide) (hts (.fieldLink RX10 23 "GateLedger$Wiring" "loads" "LGateLedger$Row;") (List.mem_of_getElem? (i := 1) (by decide +kernel))) (fun _ h9 => h9) rfl dX10_greatestLoad_39 ?_
      refine lv_aload_n hx hb dX10_greatestLoad_42 rfl (lv_at hl 1 rfl) ?_
      refine lv_iload_n hx hb dX10_greatestLoad_43 rfl (lv_at hl 2 rfl) ?_
      refine ro_i (va_runV (As := [.int (nI k)]) (rest := [.ref (a (i + 5))]) FX (c_X3_secondOf l G a j N hN k c14) (cwV 1 hts gX10_greatestLoad_X3_secondOf rfl rfl rfl (by decide +kernel) ⟨Nat.le_of_ble_eq_true rfl, Nat.le_of_ble_eq_true rfl⟩) (preV hK hNW (ro hS h_n hdn) (va_recv hK (ro hS h_n hdn) (ci := 3) (q0 := 0) rfl rfl)) rfl rfl hl.1 rfl (lv_room (Nat.le_of_ble_eq_true rfl)) dX10_greatestLoad_44 ⟨Nat.le_of_ble_eq_true rfl, Nat.le_of_ble_eq_true rfl⟩) ?_
      refine lv_aload_n hx hb dX10_greatestLoad_47 rfl (lv_at hl 1 rfl) ?_
      refine lv_iload_n hx hb dX10_greatestLoad_48 rfl (lv_at hl 2 rfl) ?_
      refine ro_i (va_runV (As := [.int (nI k)]) (rest := [.int (nI (nS N k)), .ref (a (i + 5))]) FX (c_X3_kindOf l G a j N hN k c14) (cwV 1 hts gX10_greatestLoad_X3_kindOf rfl rfl rfl (by decide +kernel) ⟨Nat.le_of_ble_eq_true rfl, Nat.le_of_ble_eq_true rfl⟩) (preV hK hNW (ro hS h_n hdn) (va_recv hK (ro hS h_n hdn) (ci := 3) (q0 := 0) rfl rfl)) rfl rfl hl.1 rfl (lv_room (Nat.le_of_ble_eq_true rfl)) dX10_greatestLoad_49 ⟨Nat.le_of_ble_eq_true rfl, Nat.le_of_ble_eq_true rfl⟩) ?_
      refine lv_iconst (v := nI 3) hx hb dX10_greatestLoad_52 (by decide) ?_
      refine lv_icmp_ne (tgt := 60) hx hb dX10_greatestLoad_53 (by decide) (fun c53 => ?_) (fun c53 => ?_)
      · skip
        have c53 := cv_ne (by omega) (by omega) c53
        refine lv_iconst (v := nI 1) hx hb dX10_greatestLoad_60 (by decide) ?_
        refine wr_v (va_runV (As := [.int (nI (nS N k)), .int (nI 1)]) (rest := []) FX (c_X4_add l G a ha (i + 5) 120 (upd f (nF N k) (f (nF N k) + (nI 1))) (nS N k) (nI 1) (by omega) (by decide)) (cwV 2 hts gX10_greatestLoad_X4_add rfl rfl rfl (by decide +kernel) ⟨Nat.le_of_ble_eq_true rfl, Nat.le_of_ble_eq_true rfl⟩) (preV hK hNW h_d (va_recv hK h_d (ci := 4) (q0 := 0) rfl rfl)) rfl rfl hl.1 rfl (lv_room (Nat.le_of_ble_eq_true rfl)) dX10_greatestLoad_61 ⟨Nat.le_of_ble_eq_true rfl, Nat.le_of_ble_eq_true rfl⟩) hS (rng_sub (by omega)) (fun _ H locs _ hP9 hk10 hS => ?_)
        rw [show upd (upd f (nF N k) (f (nF N k) + (nI 1))) (nS N k) ((upd f (nF N k) (f (nF N k) + (nI 1))) (nS N k) + (nI 1)) = ldS N f k from ((if_neg c22).trans (by first | rw [if_pos c53] | rw [if_neg c53])).symm] at hP9
        have h_d : PP G (rowW G a (i + 5) 120 (ldS N f k)) H := hP9
        have h_o : PP G ([(a i, .inr (10, [.ref (a (i + 1)), .ref (a (i + 3)), .ref (a (i + 5))]))]) H := kp hk10 h_o (dj_cons (rng_no ha (by omega)) (dj_nil))
        have h_m : PP G (rowW G a (i + 1) 120 mk) H := kp hk10 h_m (dj_cons (rng_no ha (by omega)) (dj_cons (rng_no ha (by omega)) (dj_nil)))
        have h_b : PP G (rowW G a (i + 3) 120 bs) H := kp hk10 h_b (dj_cons (rng_no ha (by omega)) (dj_cons (rng_no ha (by omega)) (dj_nil)))
        refine lv_iinc (v := nI (k + 1)) (lv' := [(2, .int (nI (k + 1))), (0, .ref (a i)), (1, .ref (a j))]) hx hb dX10_greatestLoad_64 hl (k := 2) rfl (by first | exact nI_add _ 1 | decide) (by decide) rfl (fun ls hl => ?_)
        refine lv_goto (tgt := 9) hx hb dX10_greatestLoad_67 (by decide) ?_
        exact ih3 (k + 1) (ldS N f k) _ _ _ ⟨h_o, h_m, h_b, h_d, hS, lv_sub hl [1, 2, 0] rfl, by omega, ldS_cong (n := 120) (fun _ => ⟨by omega, by omega⟩) hf⟩ (by show nG N - (k + 1) < nG N - k; omega)
      · skip
        have c53 := cv_eq (by omega) (by omega) c53
        refine lv_iconst (v := nI 0) hx hb dX10_greatestLoad_56 (by decide) ?_
        refine lv_goto (tgt := 61) hx hb dX10_greatestLoad_57 (by decide) ?_
        refine wr_v (va_runV (As := [.int (nI (nS N k)), .int (nI 0)]) (rest := []) FX (c_X4_add l G a ha (i + 5) 120 (upd f (nF N k) (f (nF N k) + (nI 1))) (nS N k) (nI 0) (by omega) (by decide)) (cwV 2 hts gX10_greatestLoad_X4_add rfl rfl rfl (by decide +kernel) ⟨Nat.le_of_ble_eq_true rfl, Nat.le_of_ble_eq_true rfl⟩) (preV hK hNW h_d (va_recv hK h_d (ci := 4) (q0 := 0) rfl rfl)) rfl rfl hl.1 rfl (lv_room (Nat.le_of_ble_eq_true rfl)) dX10_greatestLoad_61 ⟨Nat.le_of_ble_eq_true rfl, Nat.le_of_ble_eq_true rfl⟩) hS (rng_sub (by omega)) (fun _ H locs _ hP9 hk12 hS => ?_)
        rw [show upd (upd f (nF N k) (f (nF N k) + (nI 1))) (nS N k) ((upd f (nF N k) (f (nF N k) + (nI 1))) (nS N k) + (nI 0)) = ldS N f k from ((if_neg c22).trans (by first | rw [if_pos c53] | rw [if_neg c53])).symm] at hP9
        have h_d : PP G (rowW G a (i + 5) 120 (ldS N f k)) H := hP9
        have h_o : PP G ([(a i, .inr (10, [.ref (a (i + 1)), .ref (a (i + 3)), .ref (a (i + 5))]))]) H := kp hk12 h_o (dj_cons (rng_no ha (by omega)) (dj_nil))
        have h_m : PP G (rowW G a (i + 1) 120 mk) H := kp hk12 h_m (dj_cons (rng_no ha (by omega)) (dj_cons (rng_no ha (by omega)) (dj_nil)))
        have h_b : PP G (rowW G a (i + 3) 120 bs) H := kp hk12 h_b (dj_cons (rng_no ha (by omega)) (dj_cons (rng_no ha (by omega)) (dj_nil)))
        refine lv_iinc (v := nI (k + 1)) (lv' := [(2, .int (nI (k + 1))), (0, .ref (a i)), (1, .ref (a j))]) hx hb dX10_greatestLoad_64 hl (k := 2) rfl (by first | exact nI_add _ 1 | decide) (by decide) rfl (fun ls hl => ?_)
        refine lv_goto (tgt := 9) hx hb dX10_greatestLoad_67 (by decide) ?_
        exact ih3 (k + 1) (ldS N f k) _ _ _ ⟨h_o, h_m, h_b, h_d, hS, lv_sub hl [1, 2, 0] rfl, by omega, ldS_cong (n := 120) (fun _ => ⟨by omega, by omega⟩) hf⟩ (by show nG N - (k + 1) < nG N - k; omega)
set_option maxRecDepth 20000 in
theorem inX10_markBack_10 : ∀ w ∈ u_ws RX10 TX10 3, w ∈ wsX10_markBack := by decide +kernel
set_option maxHeartbeats 4000000 in
set_option maxRecDepth 100000 in
/-- Wiring.markBack: all ways back -/
theorem c_X10_markBack (l : Launch) (G : GG) (a : Nat → Nat) (ha : Inj a) (i j : Nat) (hij : i + 7 ≤ j ∨ j + 11 ≤ i) (mk bs ld : Nat → Int32) (N : NT) (hN : WF N) (E0 : Nat → Bool) (hm0 : ∀ r, r < 120 → mk r = bi (E0 r))  : Met l yX10_markBack wsX10_markBack ({ frames := 2, cells := 0, slots := 0, locals := 42 } : Room) (PcB G [.ref (a i), .ref (a j)] (fun H => PP G (wirW G a i mk bs ld) H ∧ PP G (netW G a j N) H)) (QV (fun f : Nat → Int32 => ∀ r, r < 120 → f r = bi (mbD N E0 (nG N) r)) (fun f H => PP G (wirW G a i f bs ld) H) (rng a i 7)) 0 0 (rng a i 7) := by
  refine Met.ofW (cc := cX10_markBack) (maxL := 3) (ret := none) (by decide) rfl ?_
  intro p e s m args below meth c s₁ B hml hv
  obtain ⟨rfl, hB, hK, hNW⟩ := hv
  have hx := B.exec
  have hb := B.bytes
  have hr := B.returns
  have hts := atoms_spec (ws := wsX10_markBack) B.pre
  have hown : s.vm.findClass RX10 = some m.cls := findClass_of_methodNamed B.named
  have hlocks := B.notSynchronized
  have FX : CallFix p m c cX10_markBack 3 s ([.ref (a i), .ref (a j)] : List Value).toArray wsX10_markBack RX10 := ⟨hx, hb, hml, hown, hts⟩
  have hl := lv_entry ([.ref (a i), .ref (a j)]) (n := 3) (Nat.le_of_ble_eq_true rfl)
  rw [lg_entry_eq]
  generalize (lg_sl ([.ref (a i), .ref (a j)]) ++ List.replicate (3 - (lg_sl ([.ref (a i), .ref (a j)])).length) Slot.unset).toArray = ls at hl ⊢
  have hl : lv_has ls 3 [(0, .ref (a i)), (1, .ref (a j))] := hl
  obtain ⟨hB, h_n⟩ := hB
  have h_o : PP G ([(a i, .inr (10, [.ref (a (i + 1)), .ref (a (i + 3)), .ref (a (i + 5))]))]) s.heap := P_app1 hB
  have h_m : PP G (rowW G a (i + 1) 120 mk) s.heap := P_app1 (P_app2 hB)
  have h_b : PP G (rowW G a (i + 3) 120 bs) s.heap := P_app1 (P_app2 (P_app2 hB))
  have h_d : PP G (rowW G a (i + 5) 120 ld) s.heap := P_app2 (P_app2 (P_app2 hB))
  have hdn : dj (rng a i 7) (netW G a j N) := dj_rng ha netW_in (by omega)
  have hg9 := hN.g
  have ho9 := hN.o
  have hS : va_S (rng a i 7) s.heap s.heap [] := va_S.rf
  refine lv_aload_n hx hb dX10_markBack_0 rfl (lv_at hl 1 rfl) ?_
  refine ro_i (va_runV (As := []) (rest := []) FX (c_X3_size l G a j N) (cwV 0 hts gX10_markBack_X3_size rfl rfl rfl (by decide +kernel) ⟨Nat.le_of_ble_eq_true rfl, Nat.le_of_ble_eq_true rfl⟩) (preV hK hNW (ro hS h_n hdn) (va_recv hK (ro hS h_n hdn) (ci := 3) (q0 := 0) rfl rfl)) rfl rfl hl.1 rfl (lv_room (Nat.le_of_ble_eq_true rfl)) dX10_markBack_1 ⟨Nat.le_of_ble_eq_true rfl, Nat.le_of_ble_eq_true rfl⟩) ?_
  refine lv_iconst (v := nI 1) hx hb dX10_markBack_4 (by decide) ?_
  refine lv_isub hx hb dX10_markBack_5 ?_
  refine lv_istore_n (lv' := [(2, .int ((nI (nG N)) - (nI 1))), (0, .ref (a i)), (1, .ref (a j))]) hx hb dX10_markBack_6 rfl hl (by decide) rfl (fun ls hl => ?_)
  refine lv_loop3 7 (fun (n : Nat) (f : Nat → Int32) (F : Nat → Bool) => n) (fun (n : Nat) (f : Nat → Int32) (F : Nat → Bool) (H : Heap) (locs : List Loc) (ls : Array Slot) => (PP G ([(a i, .inr (10, [.ref (a (i + 1)), .ref (a (i + 3)), .ref (a (i + 5))]))]) H) ∧ (PP G (rowW G a (i + 1) 120 f) H) ∧ (PP G (rowW G a (i + 3) 120 bs) H) ∧ (PP G (rowW G a (i + 5) 120 ld) H) ∧ (va_S (rng a i 7) s.heap H locs) ∧ (lv_has ls 3 [(0, .ref (a i)), (1, .ref (a j)), (2, .int (nI n - nI 1))]) ∧ (n ≤ nG N) ∧ (∀ r, r < 120 → f r = bi (F r)) ∧ (mbD N F n = mbD N E0 (nG N))) (fun _ _ _ => []) (fun n f F H locs ls hI ih => ?_) (nG N) mk E0 ⟨h_o, h_m, h_b, h_d, hS, lv_sub hl [1, 2, 0] rfl, by omega, hm0, rfl⟩ rfl
  obtain ⟨h_o, h_m, h_b, h_d, hS, hl, hn, hf, hF⟩ := hI
  have ih1 := @ih
  clear ih
  refine lv_iload_n hx hb dX10_markBack_7 rfl (lv_at hl 2 rfl) ?_
  refine lv_if_lt (tgt := 62) hx hb dX10_markBack_8 (by decide) (fun c8 => ?_) (fun c8 => ?_)
  · skip
    have e0 := dn_lt (by omega) c8
    exact en_wv f hx hb hr hlocks hS (fun r h => by rw [← hF, e0]; exact hf r h) (P_app h_o (P_app h_m (P_app h_b h_d))) dX10_markBack_62
  · skip
    obtain ⟨z, hz⟩ := dn_ge c8
    subst hz
    rw [dn_pred] at hl
    have hl : lv_has ls 3 [(0, .ref (a i)), (1, .ref (a j)), (2, .int (nI z))] := hl
    refine lv_aload_n hx hb dX10_markBack_11 rfl (lv_at hl 0 rfl) ?_
    refine va_get (D := G.1) (ci := 10) (v := .ref (a (i + 1))) (C := RX10) (T := TX10) (N := 3) hx hb hts inX10_markBack_10 hown hK h_o 0 rfl rfl 0 (by decide) (hts (.fieldLink RX10 14 "GateLedger$Wiring" "marks" "LGateLedger$Row;") (List.mem_of_getElem? (i := 1) (by decide +kernel))) (fun _ h9 => h9) rfl dX10_markBack_12 ?_
    refine lv_iload_n hx hb dX10_markBack_15 rfl (lv_at hl 2 rfl) ?_
    refine ro_i (va_runV (As := [.int (nI z)]) (rest := []) FX (c_X4_at l G a (i + 1) 120 f (nI z) (by decide)) (cwV 1 hts gX10_markBack_X4_at rfl rfl rfl (by decide +kernel) ⟨Nat.le_of_ble_eq_true rfl, Nat.le_of_ble_eq_true rfl⟩) (preV hK hNW (va_P.sub h_m [0, 1] rfl) (va_recv hK h_m (ci := 4) (q0 := 0) rfl rfl)) rfl rfl hl.1 rfl (lv_room (Nat.le_of_ble_eq_true rfl)) dX10_markBack_16 ⟨Nat.le_of_ble_eq_true rfl, Nat.le_of_ble_eq_true rfl⟩) ?_
    refine lv_as (y := bi (F z)) ((rowAt_in (by omega) (by decide)).trans (hf _ (by omega))) ?_
    refine lv_if_eq (tgt := 56) hx hb dX10_markBack_19 (by decide) (fun c19 => ?_) (fun c19 => ?_)
    · skip
      have c19 := bi_f c19
      refine lv_iinc (v := nI z - nI 1) (lv' := [(2, .int (nI z - nI 1)), (0, .ref (a i)), (1, .ref (a j))]) hx hb dX10_markBack_56 hl (k := 2) rfl (dn_iinc z) (by decide) rfl (fun ls hl => ?_)
      refine lv_goto (tgt := 7) hx hb dX10_markBack_59 (by decide) ?_
      exact ih1 z f (mbS N z F) _ _ _ ⟨h_o, h_m, h_b, h_d, hS, lv_sub hl [1, 2, 0] rfl, by omega, fun r h => by rw [show mbS N z F = F from if_neg (fun q => by first | exact absurd q.1 (by rw [c19]; decide) | exact q.2 c27)]; exact hf r h, hF⟩ (by show z < z + 1; omega)
    · skip
      have c19 := bi_t c19
      refine lv_aload_n hx hb dX10_markBack_22 rfl (lv_at hl 1 rfl) ?_
      refine lv_iload_n hx hb dX10_markBack_23 rfl (lv_at hl 2 rfl) ?_
      refine ro_i (va_runV (As := [.int (nI z)]) (rest := []) FX (c_X3_isInput l G a j N hN z (by omega)) (cwV 1 hts gX10_markBack_X3_isInput rfl rfl rfl (by decide +kernel) ⟨Nat.le_of_ble_eq_true rfl, Nat.le_of_ble_eq_true rfl⟩) (preV hK hNW (ro hS h_n hdn) (va_recv hK (ro hS h_n hdn) (ci := 3) (q0 := 0) rfl rfl)) rfl rfl hl.1 rfl (lv_room (Nat.le_of_ble_eq_true rfl)) dX10_markBack_24 ⟨Nat.le_of_ble_eq_true rfl, Nat.le_of_ble_eq_true rfl⟩) ?_
      refine lv_if_ne (tgt := 56) hx hb dX10_markBack_27 (by decide) (fun c27 => ?_) (fun c27 => ?_)
      · skip
        have c27 := bI_1 c27
        refine lv_iinc (v := nI z - nI 1) (lv' := [(2, .int (nI z - nI 1)), (0, .ref (a i)), (1, .ref (a j))]) hx hb dX10_markBack_56 hl (k := 2) rfl (dn_iinc z) (by decide) rfl (fun ls hl => ?_)
        refine lv_goto (tgt := 7) hx hb dX10_markBack_59 (by decide) ?_
        exact ih1 z f (mbS N z F) _ _ _ ⟨h_o, h_m, h_b, h_d, hS, lv_sub hl [1, 2, 0] rfl, by omega, fun r h => by rw [show mbS N z F = F from if_neg (fun q => by first | exact absurd q.1 (by rw [c19]; decide) | exact q.2 c27)]; exact hf r h, hF⟩ (by show z < z + 1; omega)
      · skip
        have c27 := bI_0.mp c27
        have hfs := hN.fs (by omega) c27
        refine lv_aload_n hx hb dX10_markBack_30 rfl (lv_at hl 0 rfl) ?_
        refine va_get (D := G.1) (ci := 10) (v := .ref (a (i + 1))) (C := RX10) (T := TX10) (N := 3) hx hb hts inX10_markBack_10 hown hK h_o 0 rfl rfl 0 (by decide) (hts (.fieldLink RX10 14 "GateLedger$Wiring" "marks" "LGateLedger$Row;") (List.mem_of_getElem? (i := 1) (by decide +kernel))) (fun _ h9 => h9) rfl dX10_markBack_31 ?_
        refine lv_aload_n hx hb dX10_markBack_34 rfl (lv_at hl 1 rfl) ?_
        refine lv_iload_n hx hb dX10_markBack_35 rfl (lv_at hl 2 rfl) ?_
        refine ro_i (va_runV (As := [.int (nI z)]) (rest := [.ref (a (i + 1))]) FX (c_X3_firstOf l G a j N hN z (by omega)) (cwV 1 hts gX10_markBack_X3_firstOf rfl rfl rfl (by decide +kernel) ⟨Nat.le_of_ble_eq_true rfl, Nat.le_of_ble_eq_true rfl⟩) (preV hK hNW (ro hS h_n hdn) (va_recv hK (ro hS h_n hdn) (ci := 3) (q0 := 0) rfl rfl)) rfl rfl hl.1 rfl (lv_room (Nat.le_of_ble_eq_true rfl)) dX10_markBack_36 ⟨Nat.le_of_ble_eq_true rfl, Nat.le_of_ble_eq_true rfl⟩) ?_
        refine lv_iconst (v := nI 1) hx hb dX10_markBack_39 (by decide) ?_
        refine wr_v (va_runV (As := [.int (nI (nF N z)), .int (nI 1)]) (rest := []) FX (c_X4_put l G a ha (i + 1) 120 f (nI (nF N z)) (nI 1) (by decide)) (cwV 2 hts gX10_markBack_X4_put rfl rfl rfl (by decide +kernel) ⟨Nat.le_of_ble_eq_true rfl, Nat.le_of_ble_eq_true rfl⟩) (preV hK hNW h_m (va_recv hK h_m (ci := 4) (q0 := 0) rfl rfl)) rfl rfl hl.1 rfl (lv_room (Nat.le_of_ble_eq_true rfl)) dX10_markBack_40 ⟨Nat.le_of_ble_eq_true rfl, Nat.le_of_ble_eq_true rfl⟩) hS (rng_sub (by omega)) (fun _ H locs _ hP9 hk2 hS => ?_)
        rw [rowPut_in (by omega) (by decide)] at hP9
        have h_m : PP G (rowW G a (i + 1) 120 (upd f (nF N z) (nI 1))) H := hP9
        have h_o : PP G ([(a i, .inr (10, [.ref (a (i + 1)), .ref (a (i + 3)), .ref (a (i + 5))]))]) H := kp hk2 h_o (dj_cons (rng_no ha (by omega)) (dj_nil))
        have h_b : PP G (rowW G a (i + 3) 120 bs) H := kp hk2 h_b (dj_cons (rng_no ha (by omega)) (dj_cons (rng_no ha (by omega)) (dj_nil)))
        have h_d : PP G (rowW G a (i + 5) 120 ld) H := kp hk2 h_d (dj_cons (rng_no ha (by omega)) (dj_cons (rng_no ha (by omega)) (dj_nil)))
        refine lv_aload_n hx hb dX10_markBack_43 rfl (lv_at hl 0 rfl) ?_
        refine va_get (D := G.1) (ci := 10) (v := .ref (a (i + 1))) (C := RX10) (T := TX10) (N := 3) hx hb hts inX10_markBack_10 hown hK h_o 0 rfl rfl 0 (by decide) (hts (.fieldLink RX10 14 "GateLedger$Wiring" "marks" "LGateLedger$Row;") (List.mem_of_getElem? (i := 1) (by decide +kernel))) (fun _ h9 => h9) rfl dX10_markBack_44 ?_
        refine lv_aload_n hx hb dX10_markBack_47 rfl (lv_at hl 1 rfl) ?_
        refine lv_iload_n hx hb dX10_markBack_48 rfl (lv_at hl 2 rfl) ?_
        refine ro_i (va_runV (As := [.int (nI z)]) (rest := [.ref (a (i + 1))]) FX (c_X3_secondOf l G a j N hN z (by omega)) (cwV 1 hts gX10_markBack_X3_secondOf rfl rfl rfl (by decide +kernel) ⟨Nat.le_of_ble_eq_true rfl, Nat.le_of_ble_eq_true rfl⟩) (preV hK hNW (ro hS h_n hdn) (va_recv hK (ro hS h_n hdn) (ci := 3) (q0 := 0) rfl rfl)) rfl rfl hl.1 rfl (lv_room (Nat.le_of_ble_eq_true rfl)) dX10_markBack_49 ⟨Nat.le_of_ble_eq_true rfl, Nat.le_of_ble_eq_true rfl⟩) ?_
        refine lv_iconst (v := nI 1) hx hb dX10_markBack_52 (by decide) ?_
        refine wr_v (va_runV (As := [.int (nI (nS N z)), .int (nI 1)]) (rest := []) FX (c_X4_put l G a ha (i + 1) 120 (upd f (nF N z) (nI 1)) (nI (nS N z)) (nI 1) (by decide)) (cwV 2 hts gX10_markBack_X4_put rfl rfl rfl (by decide +kernel) ⟨Nat.le_of_ble_eq_true rfl, Nat.le_of_ble_eq_true rfl⟩) (preV hK hNW h_m (va_recv hK h_m (ci := 4) (q0 := 0) rfl rfl)) rfl rfl hl.1 rfl (lv_room (Nat.le_of_ble_eq_true rfl)) dX10_markBack_53 ⟨Nat.le_of_ble_eq_true rfl, Nat.le_of_ble_eq_true rfl⟩) hS (rng_sub (by omega)) (fun _ H locs _ hP9 hk4 hS => ?_)
        rw [rowPut_in (by omega) (by decide)] at hP9
        have h_m : PP G (rowW G a (i + 1) 120 (upd (upd f (nF N z) (nI 1)) (nS N z) (nI 1))) H := hP9
        have h_o : PP G ([(a i, .inr (10, [.ref (a (i + 1)), .ref (a (i + 3)), .ref (a (i + 5))]))]) H := kp hk4 h_o (dj_cons (rng_no ha (by omega)) (dj_nil))
        have h_b : PP G (rowW G a (i + 3) 120 bs) H := kp hk4 h_b (dj_cons (rng_no ha (by omega)) (dj_cons (rng_no ha (by omega)) (dj_nil)))
        have h_d : PP G (rowW G a (i + 5) 120 ld) H := kp hk4 h_d (dj_cons (rng_no ha (by omega)) (dj_cons (rng_no ha (by omega)) (dj_nil)))
        refine lv_iinc (v := nI z - nI 1) (lv' := [(2, .int (nI z - nI 1)), (0, .ref (a i)), (1, .ref (a j))]) hx hb dX10_markBack_56 hl (k := 2) rfl (dn_iinc z) (by decide) rfl (fun ls hl => ?_)
        refine lv_goto (tgt := 7) hx hb dX10_markBack_59 (by decide) ?_
        exact ih1 z (upd (upd f (nF N z) (nI 1)) (nS N z) (nI 1)) (mbS N z F) _ _ _ ⟨h_o, h_m, h_b, h_d, hS, lv_sub hl [1, 2, 0] rfl, by omega, fun r h => by rw [show mbS N z F = setT (setT F (nF N z)) (nS N z) from if_pos ⟨c19, c27⟩]; exact set_bi (set_bi hf) r h, hF⟩ (by show z < z + 1; omega)
set_option maxRecDepth 20000 in
theorem inX10_idleCount_10 : ∀ w ∈ u_ws RX10 TX10 3, w ∈ wsX10_idleCount := by decide +kernel
set_option maxHeartbeats 4000000 in
set_option maxRecDepth 100000 in
/-- Wiring.idleCount -/
theorem c_X10_idleCount (l : Launch) (G : GG) (a : Nat → Nat) (ha : Inj a) (i j : Nat) (hij : i + 7 ≤ j ∨ j + 11 ≤ i) (mk bs ld : Nat → Int32) (N : NT) (hN : WF N)  : Met l yX10_idleCount wsX10_idleCount ({ frames := 3, cells := 0, slots := 0, locals := 64 } : Room) (PcB G [.ref (a i), .ref (a j)] (fun H => PP G (wirW G a i mk bs ld) H ∧ PP G (netW G a j N) H)) (QI (fun (r : Int32) (_ : Nat → Int32) => r = nI (idT N (mbD N (ouT N (nO N)) (nG N)) (nG N))) (fun f H => PP G (wirW G a i f bs ld) H) (rng a i 7)) 0 0 (rng a i 7) := by
  refine Met.ofW (cc := cX10_idleCount) (maxL := 4) (ret := (some .int)) (by decide) rfl ?_
  intro p e s m args below meth c s₁ B hml hv
  obtain ⟨rfl, hB, hK, hNW⟩ := hv
  have hx := B.exec
  have hb := B.bytes
  have hr := B.returns
  have hts := atoms_spec (ws := wsX10_idleCount) B.pre
  have hown : s.vm.findClass RX10 = some m.cls := findClass_of_methodNamed B.named
  have hlocks := B.notSynchronized
  have FX : CallFix p m c cX10_idleCount 4 s ([.ref (a i), .ref (a j)] : List Value).toArray wsX10_idleCount RX10 := ⟨hx, hb, hml, hown, hts⟩
  have hl := lv_entry ([.ref (a i), .ref (a j)]) (n := 4) (Nat.le_of_ble_eq_true rfl)
  rw [lg_entry_eq]
  generalize (lg_sl ([.ref (a i), .ref (a j)]) ++ List.replicate (4 - (lg_sl ([.ref (a i), .ref (a j)])).length) Slot.unset).toArray = ls at hl ⊢
  have hl : lv_has ls 4 [(0, .ref (a i)), (1, .ref (a j))] := hl
  obtain ⟨hB, h_n⟩ := hB
  have h_o : PP G ([(a i, .inr (10, [.ref (a (i + 1)), .ref (a (i + 3)), .ref (a (i + 5))]))]) s.heap := P_app1 hB
  have h_m : PP G (rowW G a (i + 1) 120 mk) s.heap := P_app1 (P_app2 hB)
  have h_b : PP G (rowW G a (i + 3) 120 bs) s.heap := P_app1 (P_app2 (P_app2 hB))
  have h_d : PP G (rowW G a (i + 5) 120 ld) s.heap := P_app2 (P_app2 (P_app2 hB))
  have hdn : dj (rng a i 7) (netW G a j N) := dj_rng ha netW_in (by omega)
  have hg9 := hN.g
  have ho9 := hN.o
  have hS : va_S (rng a i 7) s.heap s.heap [] := va_S.rf
  refine lv_aload_n hx hb dX10_idleCount_0 rfl (lv_at hl 0 rfl) ?_
  refine va_get (D := G.1) (ci := 10) (v := .ref (a (i + 1))) (C := RX10) (T := TX10) (N := 3) hx hb hts inX10_idleCount_10 hown hK h_o 0 rfl rfl 0 (by decide) (hts (.fieldLink RX10 14 "GateLedger$Wiring" "marks" "LGateLedger$Row;") (List.mem_of_getElem? (i := 1) (by decide +kernel))) (fun _ h9 => h9) rfl dX10_idleCount_1 ?_
  refine wr_v (va_runV (As := []) (rest := []) FX (c_X4_wipe l G a ha (i + 1) 120 mk (by decide)) (cwV 0 hts gX10_idleCount_X4_wipe rfl rfl rfl (by decide +kernel) ⟨Nat.le_of_ble_eq_true rfl, Nat.le_of_ble_eq_true rfl⟩) (preV hK hNW h_m (va_recv hK h_m (ci := 4) (q0 := 0) rfl rfl)) rfl rfl hl.1 rfl (lv_room (Nat.le_of_ble_eq_true rfl)) dX10_idleCount_4 ⟨Nat.le_of_ble_eq_true rfl, Nat.le_of_ble_eq_true rfl⟩) hS (rng_sub (by omega)) (fun w9 H locs hw9 hP9 hk1 hS => ?_)
  have h_m : PP G (rowW G a (i + 1) 120 w9) H := hP9
  have h_o : PP G ([(a i, .inr (10, [.ref (a (i + 1)), .ref (a (i + 3)), .ref (a (i + 5))]))]) H := kp hk1 h_o (dj_cons (rng_no ha (by omega)) (dj_nil))
  have h_b : PP G (rowW G a (i + 3) 120 bs) H := kp hk1 h_b (dj_cons (rng_no ha (by omega)) (dj_cons (rng_no ha (by omega)) (dj_nil)))
  have h_d : PP G (rowW G a (i + 5) 120 ld) H := kp hk1 h_d (dj_cons (rng_no ha (by omega)) (dj_cons (rng_no ha (by omega)) (dj_nil)))
  refine lv_iconst (v := nI 0) hx hb dX10_idleCount_7 (by decide) ?_
  refine lv_istore_n (lv' := [(2, .int (nI 0)), (0, .ref (a i)), (1, .ref (a j))]) hx hb dX10_idleCount_8 rfl hl (by decide) rfl (fun ls hl => ?_)
  refine lv_loop2 9 (fun (q : Nat) (f : Nat → Int32) => nO N - q) (fun (q : Nat) (f : Nat → Int32) (H : Heap) (locs : List Loc) (ls : Array Slot) => (PP G ([(a i, .inr (10, [.ref (a (i + 1)), .ref (a (i + 3)), .ref (a (i + 5))]))]) H) ∧ (PP G (rowW G a (i + 1) 120 f) H) ∧ (PP G (rowW G a (i + 3) 120 bs) H) ∧ (PP G (rowW G a (i + 5) 120 ld) H) ∧ (va_S (rng a i 7) s.heap H locs) ∧ (lv_has ls 4 [(0, .ref (a i)), (1, .ref (a j)), (2, .int (nI q))]) ∧ (q ≤ nO N) ∧ (∀ r, r < 120 → f r = bi (ouT N q r))) (fun _ _ => []) (fun q f H locs ls hI ih => ?_) 0 w9 ⟨h_o, h_m, h_b, h_d, hS, lv_sub hl [1, 2, 0] rfl, by omega, fun r h => hw9 r h⟩ rfl
  obtain ⟨h_o, h_m, h_b, h_d, hS, hl, hq, hf⟩ := hI
  have ih3 := @ih
  clear ih
  refine lv_iload_n hx hb dX10_idleCount_9 rfl (lv_at hl 2 rfl) ?_
  refine lv_aload_n hx hb dX10_idleCount_10 rfl (lv_at hl 1 rfl) ?_
  refine ro_i (va_runV (As := []) (rest := [.int (nI q)]) FX (c_X3_outCount l G a j N) (cwV 0 hts gX10_idleCount_X3_outCount rfl rfl rfl (by decide +kernel) ⟨Nat.le_of_ble_eq_true rfl, Nat.le_of_ble_eq_true rfl⟩) (preV hK hNW (ro hS h_n hdn) (va_recv hK (ro hS h_n hdn) (ci := 3) (q0 := 0) rfl rfl)) rfl rfl hl.1 rfl (lv_room (Nat.le_of_ble_eq_true rfl)) dX10_idleCount_11 ⟨Nat.le_of_ble_eq_true rfl, Nat.le_of_ble_eq_true rfl⟩) ?_
  refine lv_icmp_ge (tgt := 36) hx hb dX10_idleCount_14 (by decide) (fun c14 => ?_) (fun c14 => ?_)
  · skip
    have c14 := cv_le (by omega) (by omega) c14
    have hf3 : ∀ r, r < 120 → f r = bi (ouT N (nO N) r) := fun r h => by rw [hf r h, show q = nO N by omega]
    refine lv_aload_n hx hb dX10_idleCount_36 rfl (lv_at hl 0 rfl) ?_
    refine lv_aload_n hx hb dX10_idleCount_37 rfl (lv_at hl 1 rfl) ?_
    refine wr_v (va_runV (As := [.ref (a j)]) (rest := []) FX (c_X10_markBack l G a ha i j hij f bs ld N hN (ouT N (nO N)) hf3) (cwV 1 hts gX10_idleCount_X10_markBack rfl rfl rfl (by decide +kernel) ⟨Nat.le_of_ble_eq_true rfl, Nat.le_of_ble_eq_true rfl⟩) (preV hK hNW (⟨P_app h_o (P_app h_m (P_app h_b h_d)), (ro hS h_n hdn)⟩) (va_recv hK h_o (ci := 10) (q0 := 0) rfl rfl)) rfl rfl hl.1 rfl (lv_room (Nat.le_of_ble_eq_true rfl)) dX10_idleCount_38 ⟨Nat.le_of_ble_eq_true rfl, Nat.le_of_ble_eq_true rfl⟩) hS (rng_sub (by omega)) (fun v9 H locs hv9 hP9 hk4 hS => ?_)
    have h_o : PP G ([(a i, .inr (10, [.ref (a (i + 1)), .ref (a (i + 3)), .ref (a (i + 5))]))]) H := P_app1 hP9
    have h_m : PP G (rowW G a (i + 1) 120 v9) H := P_app1 (P_app2 hP9)
    have h_b : PP G (rowW G a (i + 3) 120 bs) H := P_app1 (P_app2 (P_app2 hP9))
    have h_d : PP G (rowW G a (i + 5) 120 ld) H := P_app2 (P_app2 (P_app2 hP9))
    refine lv_iconst (v := nI 0) hx hb dX10_idleCount_41 (by decide) ?_
    refine lv_istore_n (lv' := [(2, .int (nI 0)), (0, .ref (a i)), (1, .ref (a j))]) hx hb dX10_idleCount_42 rfl hl (by decide) rfl (fun ls hl => ?_)
    refine lv_iconst (v := nI 0) hx hb dX10_idleCount_43 (by decide) ?_
    refine lv_istore_n (lv' := [(3, .int (nI 0)), (2, .int (nI 0)), (0, .ref (a i)), (1, .ref (a j))]) hx hb dX10_idleCount_44 rfl hl (by decide) rfl (fun ls hl => ?_)
    refine lv_loop1 45 (fun (z : Nat) => nG N - z) (fun (z : Nat) (H : Heap) (locs : List Loc) (ls : Array Slot) => (PP G ([(a i, .inr (10, [.ref (a (i + 1)), .ref (a (i + 3)), .ref (a (i + 5))]))]) H) ∧ (PP G (rowW G a (i + 1) 120 v9) H) ∧ (PP G (rowW G a (i + 3) 120 bs) H) ∧ (PP G (rowW G a (i + 5) 120 ld) H) ∧ (va_S (rng a i 7) s.heap H locs) ∧ (lv_has ls 4 [(0, .ref (a i)), (1, .ref (a j)), (2, .int (nI (idT N (mbD N (ouT N (nO N)) (nG N)) z))), (3, .int (nI z))]) ∧ (z ≤ nG N)) (fun _ => []) (fun z H locs ls hI ih => ?_) 0 ⟨h_o, h_m, h_b, h_d, hS, lv_sub hl [2, 3, 1, 0] rfl, by omega⟩ rfl
    obtain ⟨h_o, h_m, h_b, h_d, hS, hl, hz⟩ := hI
    have ih6 := @ih
    clear ih
    refine lv_iload_n hx hb dX10_idleCount_45 rfl (lv_at hl 3 rfl) ?_
    refine lv_aload_n hx hb dX10_idleCount_46 rfl (lv_at hl 1 rfl) ?_
    refine ro_i (va_runV (As := []) (rest := [.int (nI z)]) FX (c_X3_size l G a j N) (cwV 0 hts gX10_idleCount_X3_size rfl rfl rfl (by decide +kernel) ⟨Nat.le_of_ble_eq_true rfl, Nat.le_of_ble_eq_true rfl⟩) (preV hK hNW (ro hS h_n hdn) (va_recv hK (ro hS h_n hdn) (ci := 3) (q0 := 0) rfl rfl)) rfl rfl hl.1 rfl (lv_room (Nat.le_of_ble_eq_true rfl)) dX10_idleCount_47 ⟨Nat.le_of_ble_eq_true rfl, Nat.le_of_ble_eq_true rfl⟩) ?_
    refine lv_icmp_ge (tgt := 81) hx hb dX10_idleCount_50 (by decide) (fun c50 => ?_) (fun c50 => ?_)
    · skip
      have c50 := cv_le (by omega) (by omega) c50
      refine lv_iload_n hx hb dX10_idleCount_81 rfl (lv_at hl 2 rfl) ?_
      exact en_wi v9 hx hb hr hlocks hS (by rw [show z = nG N by omega]) (P_app h_o (P_app h_m (P_app h_b h_d))) dX10_idleCount_82
    · skip
      have c50 := cv_nle (by omega) (by omega) c50
      have hid := idT_le N (mbD N (ouT N (nO N)) (nG N)) z
      refine lv_aload_n hx hb dX10_idleCount_53 rfl (lv_at hl 1 rfl) ?_
      refine lv_iload_n hx hb dX10_idleCount_54 rfl (lv_at hl 3 rfl) ?_
      refine ro_i (va_runV (As := [.int (nI z)]) (rest := []) FX (c_X3_isInput l G a j N hN z c50) (cwV 1 hts gX10_idleCount_X3_isInput rfl rfl rfl (by decide +kernel) ⟨Nat.le_of_ble_eq_true rfl, Nat.le_of_ble_eq_true rfl⟩) (preV hK hNW (ro hS h_n hdn) (va_recv hK (ro hS h_n hdn) (ci := 3) (q0 := 0) rfl rfl)) rfl rfl hl.1 rfl (lv_room (Nat.le_of_ble_eq_true rfl)) dX10_idleCount_55 ⟨Nat.le_of_ble_eq_true rfl, Nat.le_of_ble_eq_true rfl⟩) ?_
      refine lv_if_ne (tgt := 75) hx hb dX10_idleCount_58 (by decide) (fun c58 => ?_) (fun c58 => ?_)
      · skip
        have c58 := bI_1 c58
        refine lv_iinc (v := nI (z + 1)) (lv' := [(3, .int (nI (z + 1))), (0, .ref (a i)), (1, .ref (a j)), (2, .int (nI (idT N (mbD N (ouT N (nO N)) (nG N)) z)))]) hx hb dX10_idleCount_75 hl (k := 3) rfl (by first | exact nI_add _ 1 | decide) (by decide) rfl (fun ls hl => ?_)
        refine lv_goto (tgt := 45) hx hb dX10_idleCount_78 (by decide) ?_
        exact ih6 (z + 1) _ _ _ ⟨h_o, h_m, h_b, h_d, hS, by first | (rw [idT_y c58 c69]; exact lv_sub hl [1, 2, 3, 0] rfl) | (rw [idT_n (fun q => by first | exact q.1 c58 | exact absurd q.2 (by rw [c69]; decide))]; exact lv_sub hl [1, 2, 3, 0] rfl), by omega⟩ (by show nG N - (z + 1) < nG N - z; omega)
      · skip
        have c58 := bI_0.mp c58
        refine lv_aload_n hx hb dX10_idleCount_61 rfl (lv_at hl 0 rfl) ?_
        refine va_get (D := G.1) (ci := 10) (v := .ref (a (i + 1))) (C := RX10) (T := TX10) (N := 3) hx hb hts inX10_idleCount_10 hown hK h_o 0 rfl rfl 0 (by decide) (hts (.fieldLink RX10 14 "GateLedger$Wiring" "marks" "LGateLedger$Row;") (List.mem_of_getElem? (i := 1) (by decide +kernel))) (fun _ h9 => h9) rfl dX10_idleCount_62 ?_
        refine lv_iload_n hx hb dX10_idleCount_65 rfl (lv_at hl 3 rfl) ?_
        refine ro_i (va_runV (As := [.int (nI z)]) (rest := []) FX (c_X4_at l G a (i + 1) 120 v9 (nI z) (by decide)) (cwV 1 hts gX10_idleCount_X4_at rfl rfl rfl (by decide +kernel) ⟨Nat.le_of_ble_eq_true rfl, Nat.le_of_ble_eq_true rfl⟩) (preV hK hNW (va_P.sub h_m [0, 1] rfl) (va_recv hK h_m (ci := 4) (q0 := 0) rfl rfl)) rfl rfl hl.1 rfl (lv_room (Nat.le_of_ble_eq_true rfl)) dX10_idleCount_66 ⟨Nat.le_of_ble_eq_true rfl, Nat.le_of_ble_eq_true rfl⟩) ?_
        refine lv_as (y := bi (mbD N (ouT N (nO N)) (nG N) z)) ((rowAt_in (by omega) (by decide)).trans (hv9 _ (by omega))) ?_
        refine lv_if_ne (tgt := 75) hx hb dX10_idleCount_69 (by decide) (fun c69 => ?_) (fun c69 => ?_)
        · skip
          have c69 := bi_t c69
          refine lv_iinc (v := nI (z + 1)) (lv' := [(3, .int (nI (z + 1))), (0, .ref (a i)), (1, .ref (a j)), (2, .int (nI (idT N (mbD N (ouT N (nO N)) (nG N)) z)))]) hx hb dX10_idleCount_75 hl (k := 3) rfl (by first | exact nI_add _ 1 | decide) (by decide) rfl (fun ls hl => ?_)
          refine lv_goto (tgt := 45) hx hb dX10_idleCount_78 (by decide) ?_
          exact ih6 (z + 1) _ _ _ ⟨h_o, h_m, h_b, h_d, hS, by first | (rw [idT_y c58 c69]; exact lv_sub hl [1, 2, 3, 0] rfl) | (rw [idT_n (fun q => by first | exact q.1 c58 | exact absurd q.2 (by rw [c69]; decide))]; exact lv_sub hl [1, 2, 3, 0] rfl), by omega⟩ (by show nG N - (z + 1) < nG N - z; omega)
        · skip
          have c69 := bi_f c69
          refine lv_iinc (v := nI (idT N (mbD N (ouT N (nO N)) (nG N)) z + 1)) (lv' := [(2, .int (nI (idT N (mbD N (ouT N (nO N)) (nG N)) z + 1))), (0, .ref (a i)), (1, .ref (a j)), (3, .int (nI z))]) hx hb dX10_idleCount_72 hl (k := 2) rfl (by first | exact nI_add _ 1 | decide) (by decide) rfl (fun ls hl => ?_)
          refine lv_iinc (v := nI (z + 1)) (lv' := [(3, .int (nI (z + 1))), (2, .int (nI (idT N (mbD N (ouT N (nO N)) (nG N)) z + 1))), (0, .ref (a i)), (1, .ref (a j))]) hx hb dX10_idleCount_75 hl (k := 3) rfl (by first | exact nI_add _ 1 | decide) (by decide) rfl (fun ls hl => ?_)
          refine lv_goto (tgt := 45) hx hb dX10_idleCount_78 (by decide) ?_
          exact ih6 (z + 1) _ _ _ ⟨h_o, h_m, h_b, h_d, hS, by first | (rw [idT_y c58 c69]; exact lv_sub hl [2, 3, 1, 0] rfl) | (rw [idT_n (fun q => by first | exact q.1 c58 | exact absurd q.2 (by rw [c69]; decide))]; exact lv_sub hl [2, 3, 1, 0] rfl), by omega⟩ (by show nG N - (z + 1) < nG N - z; omega)
  · skip
    have c14 := cv_nle (by omega) (by omega) c14
    have hu9 := hN.u c14
    refine lv_aload_n hx hb dX10_idleCount_17 rfl (lv_at hl 0 rfl) ?_
    refine va_get (D := G.1) (ci := 10) (v := .ref (a (i + 1))) (C := RX10) (T := TX10) (N := 3) hx hb hts inX10_idleCount_10 hown hK h_o 0 rfl rfl 0 (by decide) (hts (.fieldLink RX10 14 "GateLedger$Wiring" "marks" "LGateLedger$Row;") (List.mem_of_getElem? (i := 1) (by decide +kernel))) (fun _ h9 => h9) rfl dX10_idleCount_18 ?_
    refine lv_aload_n hx hb dX10_idleCount_21 rfl (lv_at hl 1 rfl) ?_
    refine lv_iload_n hx hb dX10_idleCount_22 rfl (lv_at hl 2 rfl) ?_
    refine ro_i (va_runV (As := [.int (nI q)]) (rest := [.ref (a (i + 1))]) FX (c_X3_outAt l G a j N hN q c14) (cwV 1 hts gX10_idleCount_X3_outAt rfl rfl rfl (by decide +kernel) ⟨Nat.le_of_ble_eq_true rfl, Nat.le_of_ble_eq_true rfl⟩) (preV hK hNW (ro hS h_n hdn) (va_recv hK (ro hS h_n hdn) (ci := 3) (q0 := 0) rfl rfl)) rfl rfl hl.1 rfl (lv_room (Nat.le_of_ble_eq_true rfl)) dX10_idleCount_23 ⟨Nat.le_of_ble_eq_true rfl, Nat.le_of_ble_eq_true rfl⟩) ?_
    refine lv_iconst (v := nI 1) hx hb dX10_idleCount_26 (by decide) ?_
    refine wr_v (va_runV (As := [.int (nI (nU N q)), .int (nI 1)]) (rest := []) FX (c_X4_put l G a ha (i + 1) 120 f (nI (nU N q)) (nI 1) (by decide)) (cwV 2 hts gX10_idleCount_X4_put rfl rfl rfl (by decide +kernel) ⟨Nat.le_of_ble_eq_true rfl, Nat.le_of_ble_eq_true rfl⟩) (preV hK hNW h_m (va_recv hK h_m (ci := 4) (q0 := 0) rfl rfl)) rfl rfl hl.1 rfl (lv_room (Nat.le_of_ble_eq_true rfl)) dX10_idleCount_27 ⟨Nat.le_of_ble_eq_true rfl, Nat.le_of_ble_eq_true rfl⟩) hS (rng_sub (by omega)) (fun _ H locs _ hP9 hk7 hS => ?_)
    rw [rowPut_in (by omega) (by decide)] at hP9
    have h_m : PP G (rowW G a (i + 1) 120 (upd f (nU N q) (nI 1))) H := hP9
    have h_o : PP G ([(a i, .inr (10, [.ref (a (i + 1)), .ref (a (i + 3)), .ref (a (i + 5))]))]) H := kp hk7 h_o (dj_cons (rng_no ha (by omega)) (dj_nil))
    have h_b : PP G (rowW G a (i + 3) 120 bs) H := kp hk7 h_b (dj_cons (rng_no ha (by omega)) (dj_cons (rng_no ha (by omega)) (dj_nil)))
    have h_d : PP G (rowW G a (i + 5) 120 ld) H := kp hk7 h_d (dj_cons (rng_no ha (by omega)) (dj_cons (rng_no ha (by omega)) (dj_nil)))
    refine lv_iinc (v := nI (q + 1)) (lv' := [(2, .int (nI (q + 1))), (0, .ref (a i)), (1, .ref (a j))]) hx hb dX10_idleCount_30 hl (k := 2) rfl (by first | exact nI_add _ 1 | decide) (by decide) rfl (fun ls hl => ?_)
    refine lv_goto (tgt := 9) hx hb dX10_idleCount_33 (by decide) ?_
    exact ih3 (q + 1) (upd f (nU N q) (nI 1)) _ _ _ ⟨h_o, h_m, h_b, h_d, hS, lv_sub hl [1, 2, 0] rfl, by omega, set_bi hf⟩ (by show nO N - (q + 1) < nO N - q; omega)
set_option maxRecDepth 20000 in
theorem inX10_markedBit_10 : ∀ w ∈ u_ws RX10 TX10 3, w ∈ wsX10_markedBit := by decide +kernel
set_option maxHeartbeats 4000000 in
set_option maxRecDepth 100000 in
/-- Wiring.markedBit -/
theorem c_X10_markedBit (l : Launch) (G : GG) (a : Nat → Nat) (i j : Nat) (mk bs ld : Nat → Int32) (N : NT) (hN : WF N) (num k : Nat) (x : Int32) (hk : k < nG N) (hx0 : nK N k = 4 → x = bi (num.testBit (inC N k))) (hb0 : nT N k = -1 → ¬ nK N k = 4 → bs (nF N k) = bi (bt N num (nF N k)) ∧ bs (nS N k) = bi (bt N num (nS N k)))  : Met l yX10_markedBit wsX10_markedBit ({ frames := 2, cells := 0, slots := 0, locals := 42 } : Room) (PcB G [.ref (a i), .ref (a j), .int (nI k), .int x] (fun H => PP G (wirW G a i mk bs ld) H ∧ PP G (netW G a j N) H)) (vp_Si (fun r => r = bi (bt N num k))) 0 0 (fun _ => False) := by
  refine Met.ofW (cc := cX10_markedBit) (maxL := 8) (ret := (some .int)) (by decide) rfl ?_
  intro p e s m args below meth c s₁ B hml hv
  obtain ⟨rfl, hB, hK, hNW⟩ := hv
  have hx := B.exec
  have hb := B.bytes
  have hr := B.returns
  have hts := atoms_spec (ws := wsX10_markedBit) B.pre
  have hown : s.vm.findClass RX10 = some m.cls := findClass_of_methodNamed B.named
  have hlocks := B.notSynchronized
  have FX : CallFix p m c cX10_markedBit 8 s ([.ref (a i), .ref (a j), .int (nI k), .int x] : List Value).toArray wsX10_markedBit RX10 := ⟨hx, hb, hml, hown, hts⟩
  have hl := lv_entry ([.ref (a i), .ref (a j), .int (nI k), .int x]) (n := 8) (Nat.le_of_ble_eq_true rfl)
  rw [lg_entry_eq]
  generalize (lg_sl ([.ref (a i), .ref (a j), .int (nI k), .int x]) ++ List.replicate (8 - (lg_sl ([.ref (a i), .ref (a j), .int (nI k), .int x])).length) Slot.unset).toArray = ls at hl ⊢
  have hl : lv_has ls 8 [(0, .ref (a i)), (1, .ref (a j)), (2, .int (nI k)), (3, .int x)] := hl
  obtain ⟨h_w, h_n⟩ := hB
  have hg9 := hN.g
  refine lv_aload_n hx hb dX10_markedBit_0 rfl (lv_at hl 1 rfl) ?_
  refine lv_iload_n hx hb dX10_markedBit_1 rfl (lv_at hl 2 rfl) ?_
  refine ro_i (va_runV (As := [.int (nI k)]) (rest := []) FX (c_X3_stuckBitOf l G a j N hN k hk) (cwV 1 hts gX10_markedBit_X3_stuckBitOf rfl rfl rfl (by decide +kernel) ⟨Nat.le_of_ble_eq_true rfl, Nat.le_of_ble_eq_true rfl⟩) (preV hK hNW h_n (va_recv hK h_n (ci := 3) (q0 := 0) rfl rfl)) rfl rfl hl.1 rfl (lv_room (Nat.le_of_ble_eq_true rfl)) dX10_markedBit_2 ⟨Nat.le_of_ble_eq_true rfl, Nat.le_of_ble_eq_true rfl⟩) ?_
  refine lv_iconst (v := -1) hx hb dX10_markedBit_5 (by decide) ?_
  refine lv_icmp_eq (tgt := 15) hx hb dX10_markedBit_6 (by decide) (fun c6 => ?_) (fun c6 => ?_)
  · skip
    refine lv_aload_n hx hb dX10_markedBit_15 rfl (lv_at hl 1 rfl) ?_
    refine lv_iload_n hx hb dX10_markedBit_16 rfl (lv_at hl 2 rfl) ?_
    refine ro_i (va_runV (As := [.int (nI k)]) (rest := []) FX (c_X3_isInput l G a j N hN k hk) (cwV 1 hts gX10_markedBit_X3_isInput rfl rfl rfl (by decide +kernel) ⟨Nat.le_of_ble_eq_true rfl, Nat.le_of_ble_eq_true rfl⟩) (preV hK hNW h_n (va_recv hK h_n (ci := 3) (q0 := 0) rfl rfl)) rfl rfl hl.1 rfl (lv_room (Nat.le_of_ble_eq_true rfl)) dX10_markedBit_17 ⟨Nat.le_of_ble_eq_true rfl, Nat.le_of_ble_eq_true rfl⟩) ?_
    refine lv_if_eq (tgt := 25) hx hb dX10_markedBit_20 (by decide) (fun c20 => ?_) (fun c20 => ?_)
    · skip
      have c20 := bI_0.mp c20
      have hfs := hN.fs hk c20
      have hk4 := hN.k hk
      have hb9 := hb0 c6 c20
      refine lv_aload_n hx hb dX10_markedBit_25 rfl (lv_at hl 0 rfl) ?_
      refine va_get (D := G.1) (ci := 10) (v := .ref (a (i + 3))) (C := RX10) (T := TX10) (N := 3) hx hb hts inX10_markedBit_10 hown hK h_w 0 rfl rfl 1 (by decide) (hts (.fieldLink RX10 20 "GateLedger$Wiring" "bits" "LGateLedger$Row;") (List.mem_of_getElem? (i := 1) (by decide +kernel))) (fun _ h9 => h9) rfl dX10_markedBit_26 ?_
      refine lv_aload_n hx hb dX10_markedBit_29 rfl (lv_at hl 1 rfl) ?_
      refine lv_iload_n hx hb dX10_markedBit_30 rfl (lv_at hl 2 rfl) ?_
      refine ro_i (va_runV (As := [.int (nI k)]) (rest := [.ref (a (i + 3))]) FX (c_X3_firstOf l G a j N hN k hk) (cwV 1 hts gX10_markedBit_X3_firstOf rfl rfl rfl (by decide +kernel) ⟨Nat.le_of_ble_eq_true rfl, Nat.le_of_ble_eq_true rfl⟩) (preV hK hNW h_n (va_recv hK h_n (ci := 3) (q0 := 0) rfl rfl)) rfl rfl hl.1 rfl (lv_room (Nat.le_of_ble_eq_true rfl)) dX10_markedBit_31 ⟨Nat.le_of_ble_eq_true rfl, Nat.le_of_ble_eq_true rfl⟩) ?_
      refine ro_i (va_runV (As := [.int (nI (nF N k))]) (rest := []) FX (c_X4_at l G a (i + 3) 120 bs (nI (nF N k)) (by decide)) (cwV 1 hts gX10_markedBit_X4_at rfl rfl rfl (by decide +kernel) ⟨Nat.le_of_ble_eq_true rfl, Nat.le_of_ble_eq_true rfl⟩) (preV hK hNW (va_P.sub h_w [3, 4] rfl) (va_recv hK h_w (ci := 4) (q0 := 3) rfl rfl)) rfl rfl hl.1 rfl (lv_room (Nat.le_of_ble_eq_true rfl)) dX10_markedBit_34 ⟨Nat.le_of_ble_eq_true rfl, Nat.le_of_ble_eq_true rfl⟩) ?_
      refine lv_as (y := bi (bt N num (nF N k))) ((rowAt_in (by omega) (by decide)).trans hb9.1) ?_
      refine lv_i2l (v := (bi (bt N num (nF N k))).toInt64) hx hb dX10_markedBit_37 rfl ?_
      refine lv_lstore (lv' := [(4, .long ((bi (bt N num (nF N k))).toInt64)), (0, .ref (a i)), (1, .ref (a j)), (2, .int (nI k)), (3, .int x)]) hx hb dX10_markedBit_38 hl (by decide) rfl (fun ls hl => ?_)
      refine lv_aload_n hx hb dX10_markedBit_40 rfl (lv_at hl 1 rfl) ?_
      refine va_get (D := G.1) (ci := 10) (v := .ref (a (i + 3))) (C := RX10) (T := TX10) (N := 3) hx hb hts inX10_markedBit_10 hown hK h_w 0 rfl rfl 1 (by decide) (hts (.fieldLink RX10 20 "GateLedger$Wiring" "bits" "LGateLedger$Row;") (List.mem_of_getElem? (i := 1) (by decide +kernel))) (fun _ h9 => h9) rfl dX10_markedBit_41 ?_
      refine lv_aload_n hx hb dX10_markedBit_44 rfl (lv_at hl 2 rfl) ?_
      refine lv_iload_n hx hb dX10_markedBit_45 rfl (lv_at hl 3 rfl) ?_
      refine ro_i (va_runV (As := [.int (nI k)]) (rest := [.ref (a (i + 3))]) FX (c_X3_secondOf l G a j N hN k hk) (cwV 1 hts gX10_markedBit_X3_secondOf rfl rfl rfl (by decide +kernel) ⟨Nat.le_of_ble_eq_true rfl, Nat.le_of_ble_eq_true rfl⟩) (preV hK hNW h_n (va_recv hK h_n (ci := 3) (q0 := 0) rfl rfl)) rfl rfl hl.1 rfl (lv_room (Nat.le_of_ble_eq_true rfl)) dX10_markedBit_46 ⟨Nat.le_of_ble_eq_true rfl, Nat.le_of_ble_eq_true rfl⟩) ?_
      refine ro_i (va_runV (As := [.int (nI (nS N k))]) (rest := []) FX (c_X4_at l G a (i + 3) 120 bs (nI (nS N k)) (by decide)) (cwV 1 hts gX10_markedBit_X4_at rfl rfl rfl (by decide +kernel) ⟨Nat.le_of_ble_eq_true rfl, Nat.le_of_ble_eq_true rfl⟩) (preV hK hNW (va_P.sub h_w [3, 4] rfl) (va_recv hK h_w (ci := 4) (q0 := 3) rfl rfl)) rfl rfl hl.1 rfl (lv_room (Nat.le_of_ble_eq_true rfl)) dX10_markedBit_49 ⟨Nat.le_of_ble_eq_true rfl, Nat.le_of_ble_eq_true rfl⟩) ?_
      refine lv_as (y := bi (bt N num (nS N k))) ((rowAt_in (by omega) (by decide)).trans hb9.2) ?_
      refine lv_i2l (v := (bi (bt N num (nS N k))).toInt64) hx hb dX10_markedBit_52 rfl ?_
      refine lv_lstore (lv' := [(6, .long ((bi (bt N num (nS N k))).toInt64)), (4, .long ((bi (bt N num (nF N k))).toInt64)), (0, .ref (a i)), (1, .ref (a j)), (2, .int (nI k)), (3, .int x)]) hx hb dX10_markedBit_53 hl (by decide) rfl (fun ls hl => ?_)
      refine lv_aload_n hx hb dX10_markedBit_55 rfl (lv_at hl 3 rfl) ?_
      refine lv_iload_n hx hb dX10_markedBit_56 rfl (lv_at hl 4 rfl) ?_
      refine ro_i (va_runV (As := [.int (nI k)]) (rest := []) FX (c_X3_kindOf l G a j N hN k hk) (cwV 1 hts gX10_markedBit_X3_kindOf rfl rfl rfl (by decide +kernel) ⟨Nat.le_of_ble_eq_true rfl, Nat.le_of_ble_eq_true rfl⟩) (preV hK hNW h_n (va_recv hK h_n (ci := 3) (q0 := 0) rfl rfl)) rfl rfl hl.1 rfl (lv_room (Nat.le_of_ble_eq_true rfl)) dX10_markedBit_57 ⟨Nat.le_of_ble_eq_true rfl, Nat.le_of_ble_eq_true rfl⟩) ?_
      refine lv_lload hx hb dX10_markedBit_60 (lv_at hl 1 rfl) ?_
      refine lv_lload hx hb dX10_markedBit_62 (lv_at hl 0 rfl) ?_
      refine ro_l (va_runSN (As := [.int (nI (nK N k)), .long ((bi (bt N num (nF N k))).toInt64), .long ((bi (bt N num (nS N k))).toInt64)]) (rest := []) FX (c_X11_join l G (nK N k) ((bi (bt N num (nF N k))).toInt64) ((bi (bt N num (nS N k))).toInt64) (by omega)) ⟨va_cnB 3 hts gX10_markedBit_X11_join_n82 rfl rfl rfl hNW.2.2.2 (hts (.initialized RX11) (List.mem_of_getElem? (i := 35) (by decide +kernel))) (by decide +kernel) ⟨Nat.le_of_ble_eq_true rfl, Nat.le_of_ble_eq_true rfl⟩, (hts (.static yX11_join) (List.mem_of_getElem? (i := 34) (by decide +kernel))), trivial⟩ (preS hK hNW trivial) rfl rfl hl.1 rfl (lv_room (Nat.le_of_ble_eq_true rfl)) dX10_markedBit_64 ⟨Nat.le_of_ble_eq_true rfl, Nat.le_of_ble_eq_true rfl⟩) ?_
      refine lv_lconst (v := 1) hx hb dX10_markedBit_67 (by decide) ?_
      refine lv_land hx hb dX10_markedBit_68 ?_
      refine lv_l2i (v := ((jnW (nK N k) ((bi (bt N num (nF N k))).toInt64) ((bi (bt N num (nS N k))).toInt64)) &&& 1).toInt32) hx hb dX10_markedBit_69 rfl ?_
      exact en_i hx hb hr hlocks (jn_bi.trans (by rw [bt_gt hN hk c6 c20])) dX10_markedBit_70
    · skip
      have c20 := bI_1 c20
      refine lv_iload_n hx hb dX10_markedBit_23 rfl (lv_at hl 3 rfl) ?_
      exact en_i hx hb hr hlocks ((hx0 c20).trans (by rw [bt_in c6 c20])) dX10_markedBit_24
  · skip
    refine lv_aload_n hx hb dX10_markedBit_9 rfl (lv_at hl 1 rfl) ?_
    refine lv_iload_n hx hb dX10_markedBit_10 rfl (lv_at hl 2 rfl) ?_
    refine ro_i (va_runV (As := [.int (nI k)]) (rest := []) FX (c_X3_stuckBitOf l G a j N hN k hk) (cwV 1 hts gX10_markedBit_X3_stuckBitOf rfl rfl rfl (by decide +kernel) ⟨Nat.le_of_ble_eq_true rfl, Nat.le_of_ble_eq_true rfl⟩) (preV hK hNW h_n (va_recv hK h_n (ci := 3) (q0 := 0) rfl rfl)) rfl rfl hl.1 rfl (lv_room (Nat.le_of_ble_eq_true rfl)) dX10_markedBit_11 ⟨Nat.le_of_ble_eq_true rfl, Nat.le_of_ble_eq_true rfl⟩) ?_
    exact en_i hx hb hr hlocks (bi_bt hN hk c6) dX10_markedBit_14
set_option maxRecDepth 20000 in
theorem inX10_bitGoingBack_10 : ∀ w ∈ u_ws RX10 TX10 3, w ∈ wsX10_bitGoingBack := by decide +kernel
set_option maxHeartbeats 4000000 in
set_option maxRecDepth 100000 in
/-- Wiring.bitGoingBack -/
theorem c_X10_bitGoingBack (l : Launch) (G : GG) (a : Nat → Nat) (ha : Inj a) (i j : Nat) (hij : i + 7 ≤ j ∨ j + 11 ≤ i) (mk bs ld : Nat → Int32) (N : NT) (hN : WF N) (k num : Nat) (hk : k < nG N) (hnum : num < 2 ^ 31)  : Met l yX10_bitGoingBack wsX10_bitGoingBack ({ frames := 3, cells := 0, slots := 0, locals := 69 } : Room) (PcB G [.ref (a i), .ref (a j), .int (nI k), .int (nI num)] (fun H => PP G (wirW G a i mk bs ld) H ∧ PP G (netW G a j N) H)) (QI (fun (r : Int32) (_ : (Nat → Int32) × (Nat → Int32)) => r = bi (bt N num k)) (fun u H => PP G (wirW G a i u.1 u.2 ld) H) (rng a i 7)) 0 0 (rng a i 7) := by
  refine Met.ofW (cc := cX10_bitGoingBack) (maxL := 6) (ret := (some .int)) (by decide) rfl ?_
  intro p e s m args below meth c s₁ B hml hv
  obtain ⟨rfl, hB, hK, hNW⟩ := hv
  have hx := B.exec
  have hb := B.bytes
  have hr := B.returns
  have hts := atoms_spec (ws := wsX10_bitGoingBack) B.pre
  have hown : s.vm.findClass RX10 = some m.cls := findClass_of_methodNamed B.named
  have hlocks := B.notSynchronized
  have FX : CallFix p m c cX10_bitGoingBack 6 s ([.ref (a i), .ref (a j), .int (nI k), .int (nI num)] : List Value).toArray wsX10_bitGoingBack RX10 := ⟨hx, hb, hml, hown, hts⟩
  have hl := lv_entry ([.ref (a i), .ref (a j), .int (nI k), .int (nI num)]) (n := 6) (Nat.le_of_ble_eq_true rfl)
  rw [lg_entry_eq]
  generalize (lg_sl ([.ref (a i), .ref (a j), .int (nI k), .int (nI num)]) ++ List.replicate (6 - (lg_sl ([.ref (a i), .ref (a j), .int (nI k), .int (nI num)])).length) Slot.unset).toArray = ls at hl ⊢
  have hl : lv_has ls 6 [(0, .ref (a i)), (1, .ref (a j)), (2, .int (nI k)), (3, .int (nI num))] := hl
  obtain ⟨hB, h_n⟩ := hB
  have h_o : PP G ([(a i, .inr (10, [.ref (a (i + 1)), .ref (a (i + 3)), .ref (a (i + 5))]))]) s.heap := P_app1 hB
  have h_m : PP G (rowW G a (i + 1) 120 mk) s.heap := P_app1 (P_app2 hB)
  have h_b : PP G (rowW G a (i + 3) 120 bs) s.heap := P_app1 (P_app2 (P_app2 hB))
  have h_d : PP G (rowW G a (i + 5) 120 ld) s.heap := P_app2 (P_app2 (P_app2 hB))
  have hdn : dj (rng a i 7) (netW G a j N) := dj_rng ha netW_in (by omega)
  have hg9 := hN.g
  have ho9 := hN.o
  have hS : va_S (rng a i 7) s.heap s.heap [] := va_S.rf
  refine lv_aload_n hx hb dX10_bitGoingBack_0 rfl (lv_at hl 0 rfl) ?_
  refine va_get (D := G.1) (ci := 10) (v := .ref (a (i + 1))) (C := RX10) (T := TX10) (N := 3) hx hb hts inX10_bitGoingBack_10 hown hK h_o 0 rfl rfl 0 (by decide) (hts (.fieldLink RX10 14 "GateLedger$Wiring" "marks" "LGateLedger$Row;") (List.mem_of_getElem? (i := 1) (by decide +kernel))) (fun _ h9 => h9) rfl dX10_bitGoingBack_1 ?_
  refine wr_v (va_runV (As := []) (rest := []) FX (c_X4_wipe l G a ha (i + 1) 120 mk (by decide)) (cwV 0 hts gX10_bitGoingBack_X4_wipe rfl rfl rfl (by decide +kernel) ⟨Nat.le_of_ble_eq_true rfl, Nat.le_of_ble_eq_true rfl⟩) (preV hK hNW h_m (va_recv hK h_m (ci := 4) (q0 := 0) rfl rfl)) rfl rfl hl.1 rfl (lv_room (Nat.le_of_ble_eq_true rfl)) dX10_bitGoingBack_4 ⟨Nat.le_of_ble_eq_true rfl, Nat.le_of_ble_eq_true rfl⟩) hS (rng_sub (by omega)) (fun w9 H locs hw9 hP9 hk1 hS => ?_)
  have h_m : PP G (rowW G a (i + 1) 120 w9) H := hP9
  have h_o : PP G ([(a i, .inr (10, [.ref (a (i + 1)), .ref (a (i + 3)), .ref (a (i + 5))]))]) H := kp hk1 h_o (dj_cons (rng_no ha (by omega)) (dj_nil))
  have h_b : PP G (rowW G a (i + 3) 120 bs) H := kp hk1 h_b (dj_cons (rng_no ha (by omega)) (dj_cons (rng_no ha (by omega)) (dj_nil)))
  have h_d : PP G (rowW G a (i + 5) 120 ld) H := kp hk1 h_d (dj_cons (rng_no ha (by omega)) (dj_cons (rng_no ha (by omega)) (dj_nil)))
  refine lv_aload_n hx hb dX10_bitGoingBack_7 rfl (lv_at hl 0 rfl) ?_
  refine va_get (D := G.1) (ci := 10) (v := .ref (a (i + 1))) (C := RX10) (T := TX10) (N := 3) hx hb hts inX10_bitGoingBack_10 hown hK h_o 0 rfl rfl 0 (by decide) (hts (.fieldLink RX10 14 "GateLedger$Wiring" "marks" "LGateLedger$Row;") (List.mem_of_getElem? (i := 1) (by decide +kernel))) (fun _ h9 => h9) rfl dX10_bitGoingBack_8 ?_
  refine lv_iload_n hx hb dX10_bitGoingBack_11 rfl (lv_at hl 2 rfl) ?_
  refine lv_iconst (v := nI 1) hx hb dX10_bitGoingBack_12 (by decide) ?_
  refine wr_v (va_runV (As := [.int (nI k), .int (nI 1)]) (rest := []) FX (c_X4_put l G a ha (i + 1) 120 w9 (nI k) (nI 1) (by decide)) (cwV 2 hts gX10_bitGoingBack_X4_put rfl rfl rfl (by decide +kernel) ⟨Nat.le_of_ble_eq_true rfl, Nat.le_of_ble_eq_true rfl⟩) (preV hK hNW h_m (va_recv hK h_m (ci := 4) (q0 := 0) rfl rfl)) rfl rfl hl.1 rfl (lv_room (Nat.le_of_ble_eq_true rfl)) dX10_bitGoingBack_13 ⟨Nat.le_of_ble_eq_true rfl, Nat.le_of_ble_eq_true rfl⟩) hS (rng_sub (by omega)) (fun _ H locs _ hP9 hk3 hS => ?_)
  rw [rowPut_in (by omega) (by decide)] at hP9
  have h_m : PP G (rowW G a (i + 1) 120 (upd w9 k (nI 1))) H := hP9
  have h_o : PP G ([(a i, .inr (10, [.ref (a (i + 1)), .ref (a (i + 3)), .ref (a (i + 5))]))]) H := kp hk3 h_o (dj_cons (rng_no ha (by omega)) (dj_nil))
  have h_b : PP G (rowW G a (i + 3) 120 bs) H := kp hk3 h_b (dj_cons (rng_no ha (by omega)) (dj_cons (rng_no ha (by omega)) (dj_nil)))
  have h_d : PP G (rowW G a (i + 5) 120 ld) H := kp hk3 h_d (dj_cons (rng_no ha (by omega)) (dj_cons (rng_no ha (by omega)) (dj_nil)))
  refine lv_aload_n hx hb dX10_bitGoingBack_16 rfl (lv_at hl 0 rfl) ?_
  refine lv_aload_n hx hb dX10_bitGoingBack_17 rfl (lv_at hl 1 rfl) ?_
  have hm9 : ∀ r, r < 120 → (upd w9 k (nI 1)) r = bi (setT (fun _ => false) k r) := set_bi hw9
  refine wr_v (va_runV (As := [.ref (a j)]) (rest := []) FX (c_X10_markBack l G a ha i j hij (upd w9 k (nI 1)) bs ld N hN (setT (fun _ => false) k) hm9) (cwV 1 hts gX10_bitGoingBack_X10_markBack rfl rfl rfl (by decide +kernel) ⟨Nat.le_of_ble_eq_true rfl, Nat.le_of_ble_eq_true rfl⟩) (preV hK hNW (⟨P_app h_o (P_app h_m (P_app h_b h_d)), (ro hS h_n hdn)⟩) (va_recv hK h_o (ci := 10) (q0 := 0) rfl rfl)) rfl rfl hl.1 rfl (lv_room (Nat.le_of_ble_eq_true rfl)) dX10_bitGoingBack_18 ⟨Nat.le_of_ble_eq_true rfl, Nat.le_of_ble_eq_true rfl⟩) hS (rng_sub (by omega)) (fun v9 H locs hv9 hP9 hk5 hS => ?_)
  have h_o : PP G ([(a i, .inr (10, [.ref (a (i + 1)), .ref (a (i + 3)), .ref (a (i + 5))]))]) H := P_app1 hP9
  have h_m : PP G (rowW G a (i + 1) 120 v9) H := P_app1 (P_app2 hP9)
  have h_b : PP G (rowW G a (i + 3) 120 bs) H := P_app1 (P_app2 (P_app2 hP9))
  have h_d : PP G (rowW G a (i + 5) 120 ld) H := P_app2 (P_app2 (P_app2 hP9))
  refine lv_iconst (v := nI 0) hx hb dX10_bitGoingBack_21 (by decide) ?_
  refine lv_istore (lv' := [(4, .int (nI 0)), (0, .ref (a i)), (1, .ref (a j)), (2, .int (nI k)), (3, .int (nI num))]) hx hb dX10_bitGoingBack_22 hl (by decide) rfl (fun ls hl => ?_)
  refine lv_iconst (v := nI 0) hx hb dX10_bitGoingBack_24 (by decide) ?_
  refine lv_istore (lv' := [(5, .int (nI 0)), (4, .int (nI 0)), (0, .ref (a i)), (1, .ref (a j)), (2, .int (nI k)), (3, .int (nI num))]) hx hb dX10_bitGoingBack_25 hl (by decide) rfl (fun ls hl => ?_)
  refine lv_loop2 27 (fun (z : Nat) (b : Nat → Int32) => k + 1 - z) (fun (z : Nat) (b : Nat → Int32) (H : Heap) (locs : List Loc) (ls : Array Slot) => (PP G ([(a i, .inr (10, [.ref (a (i + 1)), .ref (a (i + 3)), .ref (a (i + 5))]))]) H) ∧ (PP G (rowW G a (i + 1) 120 v9) H) ∧ (PP G (rowW G a (i + 3) 120 b) H) ∧ (PP G (rowW G a (i + 5) 120 ld) H) ∧ (va_S (rng a i 7) s.heap H locs) ∧ (lv_has ls 6 [(0, .ref (a i)), (1, .ref (a j)), (2, .int (nI k)), (3, .int (nI num)), (4, .int (nI (inC N z))), (5, .int (nI z))]) ∧ (z ≤ k + 1) ∧ (∀ r, r < z → mbD N (setT (fun _ => false) k) (nG N) r = true → b r = bi (bt N num r))) (fun _ _ => []) (fun z b H locs ls hI ih => ?_) 0 bs ⟨h_o, h_m, h_b, h_d, hS, lv_sub hl [2, 3, 4, 5, 1, 0] rfl, by omega, fun r h => absurd h (Nat.not_lt_zero r)⟩ rfl
  obtain ⟨h_o, h_m, h_b, h_d, hS, hl, hz, hb9⟩ := hI
  have ih7 := @ih
  clear ih
  refine lv_iload hx hb dX10_bitGoingBack_27 (lv_at hl 5 rfl) ?_
  refine lv_iload_n hx hb dX10_bitGoingBack_29 rfl (lv_at hl 2 rfl) ?_
  refine lv_icmp_gt (tgt := 85) hx hb dX10_bitGoingBack_30 (by decide) (fun c30 => ?_) (fun c30 => ?_)
  · skip
    have c30 := cv_lt (by omega) (by omega) c30
    refine lv_aload_n hx hb dX10_bitGoingBack_85 rfl (lv_at hl 0 rfl) ?_
    refine va_get (D := G.1) (ci := 10) (v := .ref (a (i + 3))) (C := RX10) (T := TX10) (N := 3) hx hb hts inX10_bitGoingBack_10 hown hK h_o 0 rfl rfl 1 (by decide) (hts (.fieldLink RX10 20 "GateLedger$Wiring" "bits" "LGateLedger$Row;") (List.mem_of_getElem? (i := 2) (by decide +kernel))) (fun _ h9 => h9) rfl dX10_bitGoingBack_86 ?_
    refine lv_iload_n hx hb dX10_bitGoingBack_89 rfl (lv_at hl 2 rfl) ?_
    refine ro_i (va_runV (As := [.int (nI k)]) (rest := []) FX (c_X4_at l G a (i + 3) 120 b (nI k) (by decide)) (cwV 1 hts gX10_bitGoingBack_X4_at rfl rfl rfl (by decide +kernel) ⟨Nat.le_of_ble_eq_true rfl, Nat.le_of_ble_eq_true rfl⟩) (preV hK hNW (va_P.sub h_b [0, 1] rfl) (va_recv hK h_b (ci := 4) (q0 := 0) rfl rfl)) rfl rfl hl.1 rfl (lv_room (Nat.le_of_ble_eq_true rfl)) dX10_bitGoingBack_90 ⟨Nat.le_of_ble_eq_true rfl, Nat.le_of_ble_eq_true rfl⟩) ?_
    refine lv_as (y := bi (bt N num k)) ((rowAt_in (by omega) (by decide)).trans (hb9 k (by omega) (mbD_k _ setT_t))) ?_
    exact en_wi (v9, b) hx hb hr hlocks hS (rfl) (P_app h_o (P_app h_m (P_app h_b h_d))) dX10_bitGoingBack_93
  · skip
    have c30 := cv_nlt (by omega) (by omega) c30
    have hi9 := inC_lt hN (k := z) (by omega)
    refine lv_aload_n hx hb dX10_bitGoingBack_33 rfl (lv_at hl 0 rfl) ?_
    refine va_get (D := G.1) (ci := 10) (v := .ref (a (i + 1))) (C := RX10) (T := TX10) (N := 3) hx hb hts inX10_bitGoingBack_10 hown hK h_o 0 rfl rfl 0 (by decide) (hts (.fieldLink RX10 14 "GateLedger$Wiring" "marks" "LGateLedger$Row;") (List.mem_of_getElem? (i := 1) (by decide +kernel))) (fun _ h9 => h9) rfl dX10_bitGoingBack_34 ?_
    refine lv_iload hx hb dX10_bitGoingBack_37 (lv_at hl 5 rfl) ?_
    refine ro_i (va_runV (As := [.int (nI z)]) (rest := []) FX (c_X4_at l G a (i + 1) 120 v9 (nI z) (by decide)) (cwV 1 hts gX10_bitGoingBack_X4_at rfl rfl rfl (by decide +kernel) ⟨Nat.le_of_ble_eq_true rfl, Nat.le_of_ble_eq_true rfl⟩) (preV hK hNW (va_P.sub h_m [0, 1] rfl) (va_recv hK h_m (ci := 4) (q0 := 0) rfl rfl)) rfl rfl hl.1 rfl (lv_room (Nat.le_of_ble_eq_true rfl)) dX10_bitGoingBack_39 ⟨Nat.le_of_ble_eq_true rfl, Nat.le_of_ble_eq_true rfl⟩) ?_
    refine lv_as (y := bi (mbD N (setT (fun _ => false) k) (nG N) z)) ((rowAt_in (by omega) (by decide)).trans (hv9 _ (by omega))) ?_
    refine lv_if_eq (tgt := 67) hx hb dX10_bitGoingBack_42 (by decide) (fun c42 => ?_) (fun c42 => ?_)
    · skip
      have c42 := bi_f c42
      refine lv_aload_n hx hb dX10_bitGoingBack_67 rfl (lv_at hl 1 rfl) ?_
      refine lv_iload hx hb dX10_bitGoingBack_68 (lv_at hl 5 rfl) ?_
      refine ro_i (va_runV (As := [.int (nI z)]) (rest := []) FX (c_X3_isInput l G a j N hN z (by omega)) (cwV 1 hts gX10_bitGoingBack_X3_isInput rfl rfl rfl (by decide +kernel) ⟨Nat.le_of_ble_eq_true rfl, Nat.le_of_ble_eq_true rfl⟩) (preV hK hNW (ro hS h_n hdn) (va_recv hK (ro hS h_n hdn) (ci := 3) (q0 := 0) rfl rfl)) rfl rfl hl.1 rfl (lv_room (Nat.le_of_ble_eq_true rfl)) dX10_bitGoingBack_70 ⟨Nat.le_of_ble_eq_true rfl, Nat.le_of_ble_eq_true rfl⟩) ?_
      refine lv_if_eq (tgt := 79) hx hb dX10_bitGoingBack_73 (by decide) (fun c73 => ?_) (fun c73 => ?_)
      · skip
        have c73 := bI_0.mp c73
        refine lv_iinc (v := nI (z + 1)) (lv' := [(5, .int (nI (z + 1))), (0, .ref (a i)), (1, .ref (a j)), (2, .int (nI k)), (3, .int (nI num)), (4, .int (nI (inC N z)))]) hx hb dX10_bitGoingBack_79 hl (k := 5) rfl (by first | exact nI_add _ 1 | decide) (by decide) rfl (fun ls hl => ?_)
        refine lv_goto (tgt := 27) hx hb dX10_bitGoingBack_82 (by decide) ?_
        exact ih7 (z + 1) b _ _ _ ⟨h_o, h_m, h_b, h_d, hS, by first | (rw [inC_in c73]; exact lv_sub hl [1, 2, 3, 4, 5, 0] rfl) | (rw [inC_ni c73]; exact lv_sub hl [1, 2, 3, 4, 5, 0] rfl), by omega, fun r h hm => by rcases Nat.lt_succ_iff_lt_or_eq.mp h with h | h; exact hb9 r h hm; subst h; rw [c42] at hm; cases hm⟩ (by show k + 1 - (z + 1) < k + 1 - z; omega)
      · skip
        have c73 := bI_1 c73
        refine lv_iinc (v := nI (inC N z + 1)) (lv' := [(4, .int (nI (inC N z + 1))), (0, .ref (a i)), (1, .ref (a j)), (2, .int (nI k)), (3, .int (nI num)), (5, .int (nI z))]) hx hb dX10_bitGoingBack_76 hl (k := 4) rfl (by first | exact nI_add _ 1 | decide) (by decide) rfl (fun ls hl => ?_)
        refine lv_iinc (v := nI (z + 1)) (lv' := [(5, .int (nI (z + 1))), (4, .int (nI (inC N z + 1))), (0, .ref (a i)), (1, .ref (a j)), (2, .int (nI k)), (3, .int (nI num))]) hx hb dX10_bitGoingBack_79 hl (k := 5) rfl (by first | exact nI_add _ 1 | decide) (by decide) rfl (fun ls hl => ?_)
        refine lv_goto (tgt := 27) hx hb dX10_bitGoingBack_82 (by decide) ?_
        exact ih7 (z + 1) b _ _ _ ⟨h_o, h_m, h_b, h_d, hS, by first | (rw [inC_in c73]; exact lv_sub hl [2, 3, 4, 5, 1, 0] rfl) | (rw [inC_ni c73]; exact lv_sub hl [2, 3, 4, 5, 1, 0] rfl), by omega, fun r h hm => by rcases Nat.lt_succ_iff_lt_or_eq.mp h with h | h; exact hb9 r h hm; subst h; rw [c42] at hm; cases hm⟩ (by show k + 1 - (z + 1) < k + 1 - z; omega)
    · skip
      have c42 := bi_t c42
      refine lv_aload_n hx hb dX10_bitGoingBack_45 rfl (lv_at hl 0 rfl) ?_
      refine va_get (D := G.1) (ci := 10) (v := .ref (a (i + 3))) (C := RX10) (T := TX10) (N := 3) hx hb hts inX10_bitGoingBack_10 hown hK h_o 0 rfl rfl 1 (by decide) (hts (.fieldLink RX10 20 "GateLedger$Wiring" "bits" "LGateLedger$Row;") (List.mem_of_getElem? (i := 2) (by decide +kernel))) (fun _ h9 => h9) rfl dX10_bitGoingBack_46 ?_
      refine lv_iload hx hb dX10_bitGoingBack_49 (lv_at hl 5 rfl) ?_
      refine lv_aload_n hx hb dX10_bitGoingBack_51 rfl (lv_at hl 0 rfl) ?_
      refine lv_aload_n hx hb dX10_bitGoingBack_52 rfl (lv_at hl 1 rfl) ?_
      refine lv_iload hx hb dX10_bitGoingBack_53 (lv_at hl 5 rfl) ?_
      refine lv_iload_n hx hb dX10_bitGoingBack_55 rfl (lv_at hl 3 rfl) ?_
      refine lv_iload hx hb dX10_bitGoingBack_56 (lv_at hl 4 rfl) ?_
      refine lv_ishr hx hb dX10_bitGoingBack_58 ?_
      refine lv_iconst (v := nI 1) hx hb dX10_bitGoingBack_59 (by decide) ?_
      refine lv_iand hx hb dX10_bitGoingBack_60 ?_
      refine ro_i (va_runV (As := [.ref (a j), .int (nI z), .int (((nI num) >>> ((nI (inC N z)) &&& 31)) &&& (nI 1))]) (rest := [.int (nI z), .ref (a (i + 3))]) FX (c_X10_markedBit l G a i j v9 b ld N hN num z (((nI num) >>> ((nI (inC N z)) &&& 31)) &&& (nI 1)) (by omega) (fun h4 => shr_bit hnum (by have := inC_lt1 hN (show z < nG N by omega) h4; omega)) (fun h1 h4 => by have hc := mbD_cl hN (nG N) (Nat.le_refl _) z (by omega) c42 h4; have hfs := hN.fs (show z < nG N by omega) h4; exact ⟨hb9 _ hfs.1 hc.1, hb9 _ hfs.2 hc.2⟩)) (cwV 3 hts gX10_bitGoingBack_X10_markedBit rfl rfl rfl (by decide +kernel) ⟨Nat.le_of_ble_eq_true rfl, Nat.le_of_ble_eq_true rfl⟩) (preV hK hNW (⟨P_app h_o (P_app h_m (P_app h_b h_d)), (ro hS h_n hdn)⟩) (va_recv hK h_o (ci := 10) (q0 := 0) rfl rfl)) rfl rfl hl.1 rfl (lv_room (Nat.le_of_ble_eq_true rfl)) dX10_bitGoingBack_61 ⟨Nat.le_of_ble_eq_true rfl, Nat.le_of_ble_eq_true rfl⟩) ?_
      refine wr_v (va_runV (As := [.int (nI z), .int (bi (bt N num z))]) (rest := []) FX (c_X4_put l G a ha (i + 3) 120 b (nI z) (bi (bt N num z)) (by decide)) (cwV 2 hts gX10_bitGoingBack_X4_put rfl rfl rfl (by decide +kernel) ⟨Nat.le_of_ble_eq_true rfl, Nat.le_of_ble_eq_true rfl⟩) (preV hK hNW h_b (va_recv hK h_b (ci := 4) (q0 := 0) rfl rfl)) rfl rfl hl.1 rfl (lv_room (Nat.le_of_ble_eq_true rfl)) dX10_bitGoingBack_64 ⟨Nat.le_of_ble_eq_true rfl, Nat.le_of_ble_eq_true rfl⟩) hS (rng_sub (by omega)) (fun _ H locs _ hP9 hk8 hS => ?_)
      rw [rowPut_in (by omega) (by decide)] at hP9
      have h_b : PP G (rowW G a (i + 3) 120 (upd b z (bi (bt N num z)))) H := hP9
      have h_o : PP G ([(a i, .inr (10, [.ref (a (i + 1)), .ref (a (i + 3)), .ref (a (i + 5))]))]) H := kp hk8 h_o (dj_cons (rng_no ha (by omega)) (dj_nil))
      have h_m : PP G (rowW G a (i + 1) 120 v9) H := kp hk8 h_m (dj_cons (rng_no ha (by omega)) (dj_cons (rng_no ha (by omega)) (dj_nil)))
      have h_d : PP G (rowW G a (i + 5) 120 ld) H := kp hk8 h_d (dj_cons (rng_no ha (by omega)) (dj_cons (rng_no ha (by omega)) (dj_nil)))
      refine lv_aload_n hx hb dX10_bitGoingBack_67 rfl (lv_at hl 1 rfl) ?_
      refine lv_iload hx hb dX10_bitGoingBack_68 (lv_at hl 5 rfl) ?_
      refine ro_i (va_runV (As := [.int (nI z)]) (rest := []) FX (c_X3_isInput l G a j N hN z (by omega)) (cwV 1 hts gX10_bitGoingBack_X3_isInput rfl rfl rfl (by decide +kernel) ⟨Nat.le_of_ble_eq_true rfl, Nat.le_of_ble_eq_true rfl⟩) (preV hK hNW (ro hS h_n hdn) (va_recv hK (ro hS h_n hdn) (ci := 3) (q0 := 0) rfl rfl)) rfl rfl hl.1 rfl (lv_room (Nat.le_of_ble_eq_true rfl)) dX10_bitGoingBack_70 ⟨Nat.le_of_ble_eq_true rfl, Nat.le_of_ble_eq_true rfl⟩) ?_
      refine lv_if_eq (tgt := 79) hx hb dX10_bitGoingBack_73 (by decide) (fun c73 => ?_) (fun c73 => ?_)
      · skip
        have c73 := bI_0.mp c73
        refine lv_iinc (v := nI (z + 1)) (lv' := [(5, .int (nI (z + 1))), (0, .ref (a i)), (1, .ref (a j)), (2, .int (nI k)), (3, .int (nI num)), (4, .int (nI (inC N z)))]) hx hb dX10_bitGoingBack_79 hl (k := 5) rfl (by first | exact nI_add _ 1 | decide) (by decide) rfl (fun ls hl => ?_)
        refine lv_goto (tgt := 27) hx hb dX10_bitGoingBack_82 (by decide) ?_
        exact ih7 (z + 1) (upd b z (bi (bt N num z))) _ _ _ ⟨h_o, h_m, h_b, h_d, hS, by first | (rw [inC_in c73]; exact lv_sub hl [1, 2, 3, 4, 5, 0] rfl) | (rw [inC_ni c73]; exact lv_sub hl [1, 2, 3, 4, 5, 0] rfl), by omega, fun r h hm => by rcases Nat.lt_succ_iff_lt_or_eq.mp h with h | h; exact (pk_un (by omega)).trans (hb9 r h hm); subst h; exact pk_us⟩ (by show k + 1 - (z + 1) < k + 1 - z; omega)
      · skip
        have c73 := bI_1 c73
        refine lv_iinc (v := nI (inC N z + 1)) (lv' := [(4, .int (nI (inC N z + 1))), (0, .ref (a i)), (1, .ref (a j)), (2, .int (nI k)), (3, .int (nI num)), (5, .int (nI z))]) hx hb dX10_bitGoingBack_76 hl (k := 4) rfl (by first | exact nI_add _ 1 | decide) (by decide) rfl (fun ls hl => ?_)
        refine lv_iinc (v := nI (z + 1)) (lv' := [(5, .int (nI (z + 1))), (4, .int (nI (inC N z + 1))), (0, .ref (a i)), (1, .ref (a j)), (2, .int (nI k)), (3, .int (nI num))]) hx hb dX10_bitGoingBack_79 hl (k := 5) rfl (by first | exact nI_add _ 1 | decide) (by decide) rfl (fun ls hl => ?_)
        refine lv_goto (tgt := 27) hx hb dX10_bitGoingBack_82 (by decide) ?_
        exact ih7 (z + 1) (upd b z (bi (bt N num z))) _ _ _ ⟨h_o, h_m, h_b, h_d, hS, by first | (rw [inC_in c73]; exact lv_sub hl [2, 3, 4, 5, 1, 0] rfl) | (rw [inC_ni c73]; exact lv_sub hl [2, 3, 4, 5, 1, 0] rfl), by omega, fun r h hm => by rcases Nat.lt_succ_iff_lt_or_eq.mp h with h | h; exact (pk_un (by omega)).trans (hb9 r h hm); subst h; exact pk_us⟩ (by show k + 1 - (z + 1) < k + 1 - z; omega)
