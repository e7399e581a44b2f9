set_option maxHeartbeats 4000000 in
set_option maxRecDepth 100000 in
/-- everyLane -/
theorem c_X1_everyLane (l : Launch) (G : GG) (x : Int32)  : Met l yX1_everyLane wsX1_everyLane ({ frames := 0, cells := 0, slots := 0, locals := 0 } : Room) (PcB G [.int x] (fun H => True)) (vp_Sl (fun r => r = evL x)) 0 0 (fun _ => False) := by
  refine Met.ofW (cc := cX1_everyLane) (maxL := 1) (ret := (some .long)) (by decide) rfl ?_
  intro p e s m args below meth c s₁ B hml hv
  obtain ⟨rfl, hB, hK, hNW⟩ := hv
  have hx := B.exec
  have hb := B.bytes
  have hr := B.returns
  have hts := atoms_spec (ws := wsX1_everyLane) B.pre
  have hown : s.vm.findClass RX1 = some m.cls := findClass_of_methodNamed B.named
  have hlocks := B.notSynchronized
  have FX : CallFix p m c cX1_everyLane 1 s ([.int x] : List Value).toArray wsX1_everyLane RX1 := ⟨hx, hb, hml, hown, hts⟩
  have hl := lv_entry ([.int x]) (n := 1) (Nat.le_of_ble_eq_true rfl)
  rw [lg_entry_eq]
  generalize (lg_sl ([.int x]) ++ List.replicate (1 - (lg_sl ([.int x])).length) Slot.unset).toArray = ls at hl ⊢
  have hl : lv_has ls 1 [(0, .int x)] := hl
  refine lv_iload_n hx hb dX1_everyLane_0 rfl (lv_at hl 0 rfl) ?_
  refine lv_if_ne (tgt := 8) hx hb dX1_everyLane_1 (by decide) (fun c1 => ?_) (fun c1 => ?_)
  · skip
    refine lv_ldc2 (v := -1) hx hb hown (hts (.constantLong RX1 79 (-1)) (List.mem_of_getElem? (i := 1) (by decide +kernel))) dX1_everyLane_8 ?_
    exact en_l hx hb hr hlocks (by unfold evL; first | (rw [if_pos c1]) | (rw [if_neg c1])) dX1_everyLane_11
  · skip
    refine lv_lconst (v := 0) hx hb dX1_everyLane_4 (by decide) ?_
    refine lv_goto (tgt := 11) hx hb dX1_everyLane_5 (by decide) ?_
    exact en_l hx hb hr hlocks (by unfold evL; first | (rw [if_pos c1]) | (rw [if_neg c1])) dX1_everyLane_11
set_option maxHeartbeats 4000000 in
set_option maxRecDepth 100000 in
/-- join -/
theorem c_X11_join (l : Launch) (G : GG) (kd : Nat) (x y : Int64) (hkd : kd < 2 ^ 31) : Met l yX11_join wsX11_join ({ frames := 0, cells := 0, slots := 0, locals := 0 } : Room) (PcB G [.int (nI kd), .long x, .long y] (fun H => True)) (vp_Sl (fun r => r = jnW kd x y)) 0 0 (fun _ => False) := by
  refine Met.ofW (cc := cX11_join) (maxL := 5) (ret := (some .long)) (by decide) rfl ?_
  intro p e s m args below meth c s₁ B hml hv
  obtain ⟨rfl, hB, hK, hNW⟩ := hv
  have hx := B.exec
  have hb := B.bytes
  have hr := B.returns
  have hts := atoms_spec (ws := wsX11_join) B.pre
  have hown : s.vm.findClass RX11 = some m.cls := findClass_of_methodNamed B.named
  have hlocks := B.notSynchronized
  have FX : CallFix p m c cX11_join 5 s ([.int (nI kd), .long x, .long y] : List Value).toArray wsX11_join RX11 := ⟨hx, hb, hml, hown, hts⟩
  have hl := lv_entry ([.int (nI kd), .long x, .long y]) (n := 5) (Nat.le_of_ble_eq_true rfl)
  rw [lg_entry_eq]
  generalize (lg_sl ([.int (nI kd), .long x, .long y]) ++ List.replicate (5 - (lg_sl ([.int (nI kd), .long x, .long y])).length) Slot.unset).toArray = ls at hl ⊢
  have hl : lv_has ls 5 [(0, .int (nI kd)), (1, .long x), (3, .long y)] := hl
  refine lv_iload_n hx hb dX11_join_0 rfl (lv_at hl 0 rfl) ?_
  rcases (show kd = 0 ∨ kd = 1 ∨ kd = 2 ∨ ¬ (kd = 0 ∨ kd = 1 ∨ kd = 2) by omega) with hc | hc | hc | hc
  · skip
    subst hc
    refine lv_tableIn (tgt := 28) hx hb dX11_join_1 (by decide) (by decide) (off := 27) (by decide) (by decide) ?_
    refine lv_lload_n hx hb dX11_join_28 rfl (lv_at hl 1 rfl) ?_
    refine lv_lload_n hx hb dX11_join_29 rfl (lv_at hl 2 rfl) ?_
    refine lv_land hx hb dX11_join_30 ?_
    exact en_l hx hb hr hlocks (by first | rfl | exact (jnW_3 (by omega)).symm) dX11_join_31
  · skip
    subst hc
    refine lv_tableIn (tgt := 32) hx hb dX11_join_1 (by decide) (by decide) (off := 31) (by decide) (by decide) ?_
    refine lv_lload_n hx hb dX11_join_32 rfl (lv_at hl 1 rfl) ?_
    refine lv_lload_n hx hb dX11_join_33 rfl (lv_at hl 2 rfl) ?_
    refine lv_lor hx hb dX11_join_34 ?_
    exact en_l hx hb hr hlocks (by first | rfl | exact (jnW_3 (by omega)).symm) dX11_join_35
  · skip
    subst hc
    refine lv_tableIn (tgt := 36) hx hb dX11_join_1 (by decide) (by decide) (off := 35) (by decide) (by decide) ?_
    refine lv_lload_n hx hb dX11_join_36 rfl (lv_at hl 1 rfl) ?_
    refine lv_lload_n hx hb dX11_join_37 rfl (lv_at hl 2 rfl) ?_
    refine lv_lxor hx hb dX11_join_38 ?_
    exact en_l hx hb hr hlocks (by first | rfl | exact (jnW_3 (by omega)).symm) dX11_join_39
  · skip
    refine lv_tableOut (tgt := 40) hx hb dX11_join_1 (Or.inr (by rw [nI_toInt (by omega)]; omega)) (by decide) ?_
    refine lv_lload_n hx hb dX11_join_40 rfl (lv_at hl 1 rfl) ?_
    refine lv_ldc2 (v := -1) hx hb hown (hts (.constantLong RX11 300 (-1)) (List.mem_of_getElem? (i := 1) (by decide +kernel))) dX11_join_41 ?_
    refine lv_lxor hx hb dX11_join_44 ?_
    exact en_l hx hb hr hlocks (by first | rfl | exact (jnW_3 (by omega)).symm) dX11_join_45
set_option maxHeartbeats 4000000 in
set_option maxRecDepth 100000 in
/-- inputWord -/
theorem c_X1_inputWord (l : Launch) (G : GG) (a : Nat → Nat) (t9 p9 b9 : Nat) (q : Prop) [Decidable q] (hp : p9 < 2 ^ 31) : Met l yX1_inputWord wsX1_inputWord ({ frames := 1, cells := 0, slots := 0, locals := 20 } : Room) (PcL G a t9 [.int (nI p9), .int (nI b9), .int (bI q)] (fun H => True)) (vp_Sl (fun r => r = inW p9 b9 q)) 0 0 (fun _ => False) := by
  refine Met.ofW (cc := cX1_inputWord) (maxL := 3) (ret := (some .long)) (by decide) rfl ?_
  intro p e s m args below meth c s₁ B hml hv
  obtain ⟨⟨rfl, hB, hK, hNW⟩, hLow⟩ := hv
  have hx := B.exec
  have hb := B.bytes
  have hr := B.returns
  have hts := atoms_spec (ws := wsX1_inputWord) B.pre
  have hown : s.vm.findClass RX1 = some m.cls := findClass_of_methodNamed B.named
  have hlocks := B.notSynchronized
  have FX : CallFix p m c cX1_inputWord 3 s ([.int (nI p9), .int (nI b9), .int (bI q)] : List Value).toArray wsX1_inputWord RX1 := ⟨hx, hb, hml, hown, hts⟩
  have hl := lv_entry ([.int (nI p9), .int (nI b9), .int (bI q)]) (n := 3) (Nat.le_of_ble_eq_true rfl)
  rw [lg_entry_eq]
  generalize (lg_sl ([.int (nI p9), .int (nI b9), .int (bI q)]) ++ List.replicate (3 - (lg_sl ([.int (nI p9), .int (nI b9), .int (bI q)])).length) Slot.unset).toArray = ls at hl ⊢
  have hl : lv_has ls 3 [(0, .int (nI p9)), (1, .int (nI b9)), (2, .int (bI q))] := hl
  refine lv_iload_n hx hb dX1_inputWord_0 rfl (lv_at hl 2 rfl) ?_
  refine lv_if_eq (tgt := 22) hx hb dX1_inputWord_1 (by decide) (fun c1 => ?_) (fun c1 => ?_)
  · skip
    have c1 := bI_0.mp c1
    refine lv_iload_n hx hb dX1_inputWord_22 rfl (lv_at hl 1 rfl) ?_
    refine lv_iload_n hx hb dX1_inputWord_23 rfl (lv_at hl 0 rfl) ?_
    refine lv_ishr hx hb dX1_inputWord_24 ?_
    refine lv_iconst (v := nI 1) hx hb dX1_inputWord_25 (by decide) ?_
    refine lv_iand hx hb dX1_inputWord_26 ?_
    refine ro_l (va_runS (As := [.int (((nI b9) >>> ((nI p9) &&& 31)) &&& (nI 1))]) (rest := []) FX (c_X1_everyLane l G (((nI b9) >>> ((nI p9) &&& 31)) &&& (nI 1))) (va_cwS 1 hts gX1_inputWord_X1_everyLane rfl rfl rfl (by decide +kernel) ⟨Nat.le_of_ble_eq_true rfl, Nat.le_of_ble_eq_true rfl⟩) (preS hK hNW trivial) rfl rfl hl.1 rfl (lv_room (Nat.le_of_ble_eq_true rfl)) dX1_inputWord_27 ⟨Nat.le_of_ble_eq_true rfl, Nat.le_of_ble_eq_true rfl⟩) ?_
    exact en_l hx hb hr hlocks (by unfold inW; first | exact (if_pos ⟨c1, c13⟩).symm | exact (if_neg (fun z => c1 z.1)).symm | exact (if_neg (fun z => absurd z.2 (by omega))).symm) dX1_inputWord_30
  · skip
    have c1 := bI_1 c1
    refine lv_iload_n hx hb dX1_inputWord_4 rfl (lv_at hl 0 rfl) ?_
    refine lv_if_lt (tgt := 22) hx hb dX1_inputWord_5 (by decide) (fun c5 => ?_) (fun c5 => ?_)
    · skip
      have c5 := cv_lt (by omega) (by omega) (show nI p9 < nI 0 from c5)
      exact absurd c5 (by omega)
    · skip
      have c5 := cv_nlt (by omega) (by omega) (show ¬ nI p9 < nI 0 from c5)
      refine lv_iload_n hx hb dX1_inputWord_8 rfl (lv_at hl 0 rfl) ?_
      refine va_gets hx hb (hLow.1.narrow (fun _ h => absurd h (fun z => z))) (va_S.rf (A := fun _ => False)) hown (hts (.fieldLink RX1 75 "GateLedger$Lanes" "LOW_INPUTS" "[J") (List.mem_of_getElem? (i := 1) (by decide +kernel))) (fun _ h9 => h9) dX1_inputWord_9 ?_
      refine va_tlen hx hb (hLow.2.narrow (fun _ h => absurd h (fun z => z))) (va_S.rf (A := fun _ => False)) (v := nI 6) rfl dX1_inputWord_12 ?_
      refine lv_icmp_ge (tgt := 22) hx hb dX1_inputWord_13 (by decide) (fun c13 => ?_) (fun c13 => ?_)
      · skip
        have c13 := cv_le (by omega) (by omega) c13
        refine lv_iload_n hx hb dX1_inputWord_22 rfl (lv_at hl 1 rfl) ?_
        refine lv_iload_n hx hb dX1_inputWord_23 rfl (lv_at hl 0 rfl) ?_
        refine lv_ishr hx hb dX1_inputWord_24 ?_
        refine lv_iconst (v := nI 1) hx hb dX1_inputWord_25 (by decide) ?_
        refine lv_iand hx hb dX1_inputWord_26 ?_
        refine ro_l (va_runS (As := [.int (((nI b9) >>> ((nI p9) &&& 31)) &&& (nI 1))]) (rest := []) FX (c_X1_everyLane l G (((nI b9) >>> ((nI p9) &&& 31)) &&& (nI 1))) (va_cwS 1 hts gX1_inputWord_X1_everyLane rfl rfl rfl (by decide +kernel) ⟨Nat.le_of_ble_eq_true rfl, Nat.le_of_ble_eq_true rfl⟩) (preS hK hNW trivial) rfl rfl hl.1 rfl (lv_room (Nat.le_of_ble_eq_true rfl)) dX1_inputWord_27 ⟨Nat.le_of_ble_eq_true rfl, Nat.le_of_ble_eq_true rfl⟩) ?_
        exact en_l hx hb hr hlocks (by unfold inW; first | exact (if_pos ⟨c1, c13⟩).symm | exact (if_neg (fun z => c1 z.1)).symm | exact (if_neg (fun z => absurd z.2 (by omega))).symm) dX1_inputWord_30
      · skip
        have c13 := cv_nle (by omega) (by omega) c13
        refine va_gets hx hb (hLow.1.narrow (fun _ h => absurd h (fun z => z))) (va_S.rf (A := fun _ => False)) hown (hts (.fieldLink RX1 75 "GateLedger$Lanes" "LOW_INPUTS" "[J") (List.mem_of_getElem? (i := 1) (by decide +kernel))) (fun _ h9 => h9) dX1_inputWord_16 ?_
        refine lv_iload_n hx hb dX1_inputWord_19 rfl (lv_at hl 0 rfl) ?_
        refine va_tl hx hb (hLow.2.narrow (fun _ h => absurd h (fun z => z))) (va_S.rf (A := fun _ => False)) (vp_in_nI (by omega) (by omega)) (v := .long (lowF p9)) (by rw [nI_clamp (by omega)]) dX1_inputWord_20 ?_
        exact en_l hx hb hr hlocks (by unfold inW; first | exact (if_pos ⟨c1, c13⟩).symm | exact (if_neg (fun z => c1 z.1)).symm | exact (if_neg (fun z => absurd z.2 (by omega))).symm) dX1_inputWord_21
set_option maxRecDepth 20000 in
theorem inX1_wordOf_1 : ∀ w ∈ u_ws RX1 TX1 2, w ∈ wsX1_wordOf := by decide +kernel
set_option maxHeartbeats 4000000 in
set_option maxRecDepth 100000 in
/-- Lanes.wordOf -/
theorem c_X1_wordOf (l : Launch) (G : GG) (a : Nat → Nat) (i : Nat) (w0 o0 : Nat → Int64) (k : Nat) (hk : k < 120) : Met l yX1_wordOf wsX1_wordOf ({ frames := 1, cells := 0, slots := 0, locals := 21 } : Room) (PcB G [.ref (a i), .int (nI k)] (fun H => PP G (lanW G a i w0 o0) H)) (vp_Sl (fun r => r = w0 k)) 0 0 (fun _ => False) := by
  refine Met.ofW (cc := cX1_wordOf) (maxL := 2) (ret := (some .long)) (by decide) rfl ?_
  intro p e s m args below meth c s₁ B hml hv
  obtain ⟨rfl, hB, hK, hNW⟩ := hv
  have hx := B.exec
  have hb := B.bytes
  have hr := B.returns
  have hts := atoms_spec (ws := wsX1_wordOf) B.pre
  have hown : s.vm.findClass RX1 = some m.cls := findClass_of_methodNamed B.named
  have hlocks := B.notSynchronized
  have FX : CallFix p m c cX1_wordOf 2 s ([.ref (a i), .int (nI k)] : List Value).toArray wsX1_wordOf RX1 := ⟨hx, hb, hml, hown, hts⟩
  have hl := lv_entry ([.ref (a i), .int (nI k)]) (n := 2) (Nat.le_of_ble_eq_true rfl)
  rw [lg_entry_eq]
  generalize (lg_sl ([.ref (a i), .int (nI k)]) ++ List.replicate (2 - (lg_sl ([.ref (a i), .int (nI k)])).length) Slot.unset).toArray = ls at hl ⊢
  have hl : lv_has ls 2 [(0, .ref (a i)), (1, .int (nI k))] := hl
  have h_l := hB
  refine lv_aload_n hx hb dX1_wordOf_0 rfl (lv_at hl 0 rfl) ?_
  refine va_get (D := G.1) (ci := 1) (v := .ref (a (i + 1))) (C := RX1) (T := TX1) (N := 2) hx hb hts inX1_wordOf_1 hown hK h_l 0 rfl rfl 0 (by decide) (hts (.fieldLink RX1 14 "GateLedger$Lanes" "words" "LGateLedger$WideRow;") (List.mem_of_getElem? (i := 1) (by decide +kernel))) (fun _ h9 => h9) rfl dX1_wordOf_1 ?_
  refine lv_iload_n hx hb dX1_wordOf_4 rfl (lv_at hl 1 rfl) ?_
  refine ro_l (va_runV (As := [.int (nI k)]) (rest := []) FX (c_X9_at l G a (i + 1) 120 w0 (nI k) (by decide)) (cwV 1 hts gX1_wordOf_X9_at rfl rfl rfl (by decide +kernel) ⟨Nat.le_of_ble_eq_true rfl, Nat.le_of_ble_eq_true rfl⟩) (preV hK hNW (va_P.sub h_l [1, 2] rfl) (va_recv hK h_l (ci := 9) (q0 := 1) rfl rfl)) rfl rfl hl.1 rfl (lv_room (Nat.le_of_ble_eq_true rfl)) dX1_wordOf_5 ⟨Nat.le_of_ble_eq_true rfl, Nat.le_of_ble_eq_true rfl⟩) ?_
  refine lv_asl (y := w0 k) (wrowAt_in (by omega) (by decide)) ?_
  exact en_l hx hb hr hlocks (rfl) dX1_wordOf_8
set_option maxRecDepth 20000 in
theorem inX1_bitOf_1 : ∀ w ∈ u_ws RX1 TX1 2, w ∈ wsX1_bitOf := by decide +kernel
set_option maxHeartbeats 4000000 in
set_option maxRecDepth 100000 in
/-- Lanes.bitOf -/
theorem c_X1_bitOf (l : Launch) (G : GG) (a : Nat → Nat) (i : Nat) (w0 o0 : Nat → Int64) (k : Nat) (hk : k < 120) : Met l yX1_bitOf wsX1_bitOf ({ frames := 1, cells := 0, slots := 0, locals := 21 } : Room) (PcB G [.ref (a i), .int (nI k)] (fun H => PP G (lanW G a i w0 o0) H)) (vp_Si (fun r => r = (w0 k &&& 1).toInt32)) 0 0 (fun _ => False) := by
  refine Met.ofW (cc := cX1_bitOf) (maxL := 2) (ret := (some .int)) (by decide) rfl ?_
  intro p e s m args below meth c s₁ B hml hv
  obtain ⟨rfl, hB, hK, hNW⟩ := hv
  have hx := B.exec
  have hb := B.bytes
  have hr := B.returns
  have hts := atoms_spec (ws := wsX1_bitOf) B.pre
  have hown : s.vm.findClass RX1 = some m.cls := findClass_of_methodNamed B.named
  have hlocks := B.notSynchronized
  have FX : CallFix p m c cX1_bitOf 2 s ([.ref (a i), .int (nI k)] : List Value).toArray wsX1_bitOf RX1 := ⟨hx, hb, hml, hown, hts⟩
  have hl := lv_entry ([.ref (a i), .int (nI k)]) (n := 2) (Nat.le_of_ble_eq_true rfl)
  rw [lg_entry_eq]
  generalize (lg_sl ([.ref (a i), .int (nI k)]) ++ List.replicate (2 - (lg_sl ([.ref (a i), .int (nI k)])).length) Slot.unset).toArray = ls at hl ⊢
  have hl : lv_has ls 2 [(0, .ref (a i)), (1, .int (nI k))] := hl
  have h_l := hB
  refine lv_aload_n hx hb dX1_bitOf_0 rfl (lv_at hl 0 rfl) ?_
  refine va_get (D := G.1) (ci := 1) (v := .ref (a (i + 1))) (C := RX1) (T := TX1) (N := 2) hx hb hts inX1_bitOf_1 hown hK h_l 0 rfl rfl 0 (by decide) (hts (.fieldLink RX1 14 "GateLedger$Lanes" "words" "LGateLedger$WideRow;") (List.mem_of_getElem? (i := 1) (by decide +kernel))) (fun _ h9 => h9) rfl dX1_bitOf_1 ?_
  refine lv_iload_n hx hb dX1_bitOf_4 rfl (lv_at hl 1 rfl) ?_
  refine ro_l (va_runV (As := [.int (nI k)]) (rest := []) FX (c_X9_at l G a (i + 1) 120 w0 (nI k) (by decide)) (cwV 1 hts gX1_bitOf_X9_at rfl rfl rfl (by decide +kernel) ⟨Nat.le_of_ble_eq_true rfl, Nat.le_of_ble_eq_true rfl⟩) (preV hK hNW (va_P.sub h_l [1, 2] rfl) (va_recv hK h_l (ci := 9) (q0 := 1) rfl rfl)) rfl rfl hl.1 rfl (lv_room (Nat.le_of_ble_eq_true rfl)) dX1_bitOf_5 ⟨Nat.le_of_ble_eq_true rfl, Nat.le_of_ble_eq_true rfl⟩) ?_
  refine lv_asl (y := w0 k) (wrowAt_in (by omega) (by decide)) ?_
  refine lv_lconst (v := 1) hx hb dX1_bitOf_8 (by decide) ?_
  refine lv_land hx hb dX1_bitOf_9 ?_
  refine lv_l2i (v := ((w0 k) &&& 1).toInt32) hx hb dX1_bitOf_10 rfl ?_
  exact en_i hx hb hr hlocks (rfl) dX1_bitOf_11
set_option maxRecDepth 20000 in
theorem inX1_valueInLane_1 : ∀ w ∈ u_ws RX1 TX1 2, w ∈ wsX1_valueInLane := by decide +kernel
set_option maxHeartbeats 4000000 in
set_option maxRecDepth 100000 in
/-- Lanes.valueInLane -/
theorem c_X1_valueInLane (l : Launch) (G : GG) (a : Nat → Nat) (i j : Nat) (w0 o0 : Nat → Int64) (N : NT) (hN : WF N) (z9 : Nat)  : Met l yX1_valueInLane wsX1_valueInLane ({ frames := 1, cells := 0, slots := 0, locals := 21 } : Room) (PcB G [.ref (a i), .ref (a j), .int (nI z9)] (fun H => PP G (lanW G a i w0 o0) H ∧ PP G (netW G a j N) H)) (vp_Si (fun r => r = vlW o0 (nI z9) (nO N))) 0 0 (fun _ => False) := by
  refine Met.ofW (cc := cX1_valueInLane) (maxL := 5) (ret := (some .int)) (by decide) rfl ?_
  intro p e s m args below meth c s₁ B hml hv
  obtain ⟨rfl, hB, hK, hNW⟩ := hv
  have hx := B.exec
  have hb := B.bytes
  have hr := B.returns
  have hts := atoms_spec (ws := wsX1_valueInLane) B.pre
  have hown : s.vm.findClass RX1 = some m.cls := findClass_of_methodNamed B.named
  have hlocks := B.notSynchronized
  have FX : CallFix p m c cX1_valueInLane 5 s ([.ref (a i), .ref (a j), .int (nI z9)] : List Value).toArray wsX1_valueInLane RX1 := ⟨hx, hb, hml, hown, hts⟩
  have hl := lv_entry ([.ref (a i), .ref (a j), .int (nI z9)]) (n := 5) (Nat.le_of_ble_eq_true rfl)
  rw [lg_entry_eq]
  generalize (lg_sl ([.ref (a i), .ref (a j), .int (nI z9)]) ++ List.replicate (5 - (lg_sl ([.ref (a i), .ref (a j), .int (nI z9)])).length) Slot.unset).toArray = ls at hl ⊢
  have hl : lv_has ls 5 [(0, .ref (a i)), (1, .ref (a j)), (2, .int (nI z9))] := hl
  obtain ⟨h_l, h_n⟩ := hB
  have hg9 := hN.g
  have ho9 := hN.o
  refine lv_iconst (v := nI 0) hx hb dX1_valueInLane_0 (by decide) ?_
  refine lv_istore_n (lv' := [(3, .int (nI 0)), (0, .ref (a i)), (1, .ref (a j)), (2, .int (nI z9))]) hx hb dX1_valueInLane_1 rfl hl (by decide) rfl (fun ls hl => ?_)
  refine lv_iconst (v := nI 0) hx hb dX1_valueInLane_2 (by decide) ?_
  refine lv_istore (lv' := [(4, .int (nI 0)), (3, .int (nI 0)), (0, .ref (a i)), (1, .ref (a j)), (2, .int (nI z9))]) hx hb dX1_valueInLane_3 hl (by decide) rfl (fun ls hl => ?_)
  refine lv_loop1 5 (fun (q : Nat) => nO N - q) (fun (q : Nat) (H : Heap) (locs : List Loc) (ls : Array Slot) => (H = s.heap) ∧ (locs = []) ∧ (lv_has ls 5 [(0, .ref (a i)), (1, .ref (a j)), (2, .int (nI z9)), (3, .int (vlW o0 (nI z9) q)), (4, .int (nI q))]) ∧ (q ≤ nO N)) (fun _ => []) (fun q H locs ls hI ih => ?_) 0 ⟨rfl, rfl, lv_sub hl [2, 3, 4, 1, 0] rfl, by omega⟩ rfl
  obtain ⟨rfl, rfl, hl, hq⟩ := hI
  have ih1 := @ih
  clear ih
  refine lv_iload hx hb dX1_valueInLane_5 (lv_at hl 4 rfl) ?_
  refine lv_aload_n hx hb dX1_valueInLane_7 rfl (lv_at hl 1 rfl) ?_
  refine ro_i (va_runV (As := []) (rest := [.int (nI q)]) FX (c_X3_outCount l G a j N) (cwV 0 hts gX1_valueInLane_X3_outCount rfl rfl rfl (by decide +kernel) ⟨Nat.le_of_ble_eq_true rfl, Nat.le_of_ble_eq_true rfl⟩) (preV hK hNW h_n (va_recv hK h_n (ci := 3) (q0 := 0) rfl rfl)) rfl rfl hl.1 rfl (lv_room (Nat.le_of_ble_eq_true rfl)) dX1_valueInLane_8 ⟨Nat.le_of_ble_eq_true rfl, Nat.le_of_ble_eq_true rfl⟩) ?_
  refine lv_icmp_ge (tgt := 40) hx hb dX1_valueInLane_11 (by decide) (fun c11 => ?_) (fun c11 => ?_)
  · skip
    have c11 := cv_le (by omega) (by omega) c11
    refine lv_iload_n hx hb dX1_valueInLane_40 rfl (lv_at hl 3 rfl) ?_
    exact en_i hx hb hr hlocks (by rw [show q = nO N by omega]) dX1_valueInLane_41
  · skip
    have c11 := cv_nle (by omega) (by omega) c11
    refine lv_iload_n hx hb dX1_valueInLane_14 rfl (lv_at hl 3 rfl) ?_
    refine lv_aload_n hx hb dX1_valueInLane_15 rfl (lv_at hl 0 rfl) ?_
    refine va_get (D := G.1) (ci := 1) (v := .ref (a (i + 3))) (C := RX1) (T := TX1) (N := 2) hx hb hts inX1_valueInLane_1 hown hK h_l 0 rfl rfl 1 (by decide) (hts (.fieldLink RX1 20 "GateLedger$Lanes" "outWords" "LGateLedger$WideRow;") (List.mem_of_getElem? (i := 1) (by decide +kernel))) (fun _ h9 => h9) rfl dX1_valueInLane_16 ?_
    refine lv_iload hx hb dX1_valueInLane_19 (lv_at hl 4 rfl) ?_
    refine ro_l (va_runV (As := [.int (nI q)]) (rest := [.int (vlW o0 (nI z9) q)]) FX (c_X9_at l G a (i + 3) 16 o0 (nI q) (by decide)) (cwV 1 hts gX1_valueInLane_X9_at rfl rfl rfl (by decide +kernel) ⟨Nat.le_of_ble_eq_true rfl, Nat.le_of_ble_eq_true rfl⟩) (preV hK hNW (va_P.sub h_l [3, 4] rfl) (va_recv hK h_l (ci := 9) (q0 := 3) rfl rfl)) rfl rfl hl.1 rfl (lv_room (Nat.le_of_ble_eq_true rfl)) dX1_valueInLane_21 ⟨Nat.le_of_ble_eq_true rfl, Nat.le_of_ble_eq_true rfl⟩) ?_
    refine lv_asl (y := o0 q) (wrowAt_in (by omega) (by decide)) ?_
    refine lv_iload_n hx hb dX1_valueInLane_24 rfl (lv_at hl 2 rfl) ?_
    refine lv_lushr (v := lushr_ (o0 q) (nI z9)) hx hb dX1_valueInLane_25 rfl ?_
    refine lv_lconst (v := 1) hx hb dX1_valueInLane_26 (by decide) ?_
    refine lv_land hx hb dX1_valueInLane_27 ?_
    refine lv_l2i (v := ((lushr_ (o0 q) (nI z9)) &&& 1).toInt32) hx hb dX1_valueInLane_28 rfl ?_
    refine lv_iload hx hb dX1_valueInLane_29 (lv_at hl 4 rfl) ?_
    refine lv_ishl hx hb dX1_valueInLane_31 ?_
    refine lv_iadd hx hb dX1_valueInLane_32 ?_
    refine lv_istore_n (lv' := [(3, .int ((vlW o0 (nI z9) q) + ((((lushr_ (o0 q) (nI z9)) &&& 1).toInt32) <<< ((nI q) &&& 31)))), (0, .ref (a i)), (1, .ref (a j)), (2, .int (nI z9)), (4, .int (nI q))]) hx hb dX1_valueInLane_33 rfl hl (by decide) rfl (fun ls hl => ?_)
    refine lv_iinc (v := nI (q + 1)) (lv' := [(4, .int (nI (q + 1))), (3, .int ((vlW o0 (nI z9) q) + ((((lushr_ (o0 q) (nI z9)) &&& 1).toInt32) <<< ((nI q) &&& 31)))), (0, .ref (a i)), (1, .ref (a j)), (2, .int (nI z9))]) hx hb dX1_valueInLane_34 hl (k := 4) rfl (by first | exact nI_add _ 1 | decide) (by decide) rfl (fun ls hl => ?_)
    refine lv_goto (tgt := 5) hx hb dX1_valueInLane_37 (by decide) ?_
    exact ih1 (q + 1) _ _ _ ⟨rfl, rfl, lv_sub hl [2, 3, 4, 1, 0] rfl, by omega⟩ (by show nO N - (q + 1) < nO N - q; omega)
set_option maxRecDepth 20000 in
theorem inX1_firstUnlike_1 : ∀ w ∈ u_ws RX1 TX1 2, w ∈ wsX1_firstUnlike := by decide +kernel
set_option maxHeartbeats 4000000 in
set_option maxRecDepth 100000 in
/-- Lanes.firstUnlike -/
theorem c_X1_firstUnlike (l : Launch) (G : GG) (a : Nat → Nat) (i j : Nat) (w0 o0 w1 o1 : Nat → Int64) (u9 : Nat) (hu : u9 < 2 ^ 31) : Met l yX1_firstUnlike wsX1_firstUnlike ({ frames := 1, cells := 0, slots := 0, locals := 21 } : Room) (PcB G [.ref (a i), .ref (a j), .int (nI u9)] (fun H => PP G (lanW G a i w0 o0) H ∧ PP G (lanW G a j w1 o1) H)) (vp_Si (fun r => r = oI (fuW (unW o0 o1 16) u9))) 0 0 (fun _ => False) := by
  refine Met.ofW (cc := cX1_firstUnlike) (maxL := 6) (ret := (some .int)) (by decide) rfl ?_
  intro p e s m args below meth c s₁ B hml hv
  obtain ⟨rfl, hB, hK, hNW⟩ := hv
  have hx := B.exec
  have hb := B.bytes
  have hr := B.returns
  have hts := atoms_spec (ws := wsX1_firstUnlike) B.pre
  have hown : s.vm.findClass RX1 = some m.cls := findClass_of_methodNamed B.named
  have hlocks := B.notSynchronized
  have FX : CallFix p m c cX1_firstUnlike 6 s ([.ref (a i), .ref (a j), .int (nI u9)] : List Value).toArray wsX1_firstUnlike RX1 := ⟨hx, hb, hml, hown, hts⟩
  have hl := lv_entry ([.ref (a i), .ref (a j), .int (nI u9)]) (n := 6) (Nat.le_of_ble_eq_true rfl)
  rw [lg_entry_eq]
  generalize (lg_sl ([.ref (a i), .ref (a j), .int (nI u9)]) ++ List.replicate (6 - (lg_sl ([.ref (a i), .ref (a j), .int (nI u9)])).length) Slot.unset).toArray = ls at hl ⊢
  have hl : lv_has ls 6 [(0, .ref (a i)), (1, .ref (a j)), (2, .int (nI u9))] := hl
  obtain ⟨h_l, h_lj⟩ := hB
  refine lv_lconst (v := 0) hx hb dX1_firstUnlike_0 (by decide) ?_
  refine lv_lstore_n (lv' := [(3, .long 0), (0, .ref (a i)), (1, .ref (a j)), (2, .int (nI u9))]) hx hb dX1_firstUnlike_1 rfl hl (by decide) rfl (fun ls hl => ?_)
  refine lv_iconst (v := nI 0) hx hb dX1_firstUnlike_2 (by decide) ?_
  refine lv_istore (lv' := [(5, .int (nI 0)), (3, .long 0), (0, .ref (a i)), (1, .ref (a j)), (2, .int (nI u9))]) hx hb dX1_firstUnlike_3 hl (by decide) rfl (fun ls hl => ?_)
  refine lv_loop1 5 (fun (q : Nat) => 16 - q) (fun (q : Nat) (H : Heap) (locs : List Loc) (ls : Array Slot) => (H = s.heap) ∧ (locs = []) ∧ (lv_has ls 6 [(0, .ref (a i)), (1, .ref (a j)), (2, .int (nI u9)), (3, .long (unW o0 o1 q)), (5, .int (nI q))]) ∧ (q ≤ 16)) (fun _ => []) (fun q H locs ls hI ih => ?_) 0 ⟨rfl, rfl, lv_sub hl [2, 3, 4, 1, 0] rfl, by omega⟩ rfl
  obtain ⟨rfl, rfl, hl, hq⟩ := hI
  have ih1 := @ih
  clear ih
  refine lv_iload hx hb dX1_firstUnlike_5 (lv_at hl 4 rfl) ?_
  refine lv_bipush (v := nI 16) hx hb dX1_firstUnlike_7 (by decide) ?_
  refine lv_icmp_ge (tgt := 40) hx hb dX1_firstUnlike_9 (by decide) (fun c9 => ?_) (fun c9 => ?_)
  · skip
    have c9 := cv_le (by omega) (by omega) c9
    refine lv_iconst (v := nI 0) hx hb dX1_firstUnlike_40 (by decide) ?_
    refine lv_istore (lv' := [(5, .int (nI 0)), (0, .ref (a i)), (1, .ref (a j)), (2, .int (nI u9)), (3, .long (unW o0 o1 q))]) hx hb dX1_firstUnlike_41 hl (by decide) rfl (fun ls hl => ?_)
    have eq9 : q = 16 := by omega
    subst eq9
    refine lv_loop1 43 (fun (r : Nat) => u9 - r) (fun (r : Nat) (H : Heap) (locs : List Loc) (ls : Array Slot) => (H = s.heap) ∧ (locs = []) ∧ (lv_has ls 6 [(0, .ref (a i)), (1, .ref (a j)), (2, .int (nI u9)), (3, .long (unW o0 o1 16)), (5, .int (nI r))]) ∧ (r ≤ u9) ∧ (∀ z, z < r → (lushr_ (unW o0 o1 16) (nI z) &&& 1) = 0)) (fun _ => []) (fun r H locs ls hI ih => ?_) 0 ⟨rfl, rfl, lv_sub hl [1, 2, 3, 4, 0] rfl, by omega, fun z h => absurd h (Nat.not_lt_zero z)⟩ rfl
    obtain ⟨rfl, rfl, hl, hr9, hz⟩ := hI
    have ih2 := @ih
    clear ih
    refine lv_iload hx hb dX1_firstUnlike_43 (lv_at hl 4 rfl) ?_
    refine lv_iload_n hx hb dX1_firstUnlike_45 rfl (lv_at hl 2 rfl) ?_
    refine lv_icmp_ge (tgt := 69) hx hb dX1_firstUnlike_46 (by decide) (fun c46 => ?_) (fun c46 => ?_)
    · skip
      have c46 := cv_le (by omega) (by omega) c46
      refine lv_iconst (v := -1) hx hb dX1_firstUnlike_69 (by decide) ?_
      exact en_i hx hb hr hlocks (by rw [fuW_none (n := u9) (fun z h => hz z (by omega))]; rfl) dX1_firstUnlike_70
    · skip
      have c46 := cv_nle (by omega) (by omega) c46
      refine lv_lload_n hx hb dX1_firstUnlike_49 rfl (lv_at hl 3 rfl) ?_
      refine lv_iload hx hb dX1_firstUnlike_50 (lv_at hl 4 rfl) ?_
      refine lv_lushr (v := lushr_ (unW o0 o1 16) (nI r)) hx hb dX1_firstUnlike_52 rfl ?_
      refine lv_lconst (v := 1) hx hb dX1_firstUnlike_53 (by decide) ?_
      refine lv_land hx hb dX1_firstUnlike_54 ?_
      refine lv_lconst (v := 0) hx hb dX1_firstUnlike_55 (by decide) ?_
      refine W.lcmp hx hb dX1_firstUnlike_56 ?_
      refine lv_if_eq (tgt := 63) hx hb dX1_firstUnlike_57 (by decide) (fun c57 => ?_) (fun c57 => ?_)
      · skip
        have c57 := lg_eq.mp c57
        refine lv_iinc (v := nI (r + 1)) (lv' := [(5, .int (nI (r + 1))), (0, .ref (a i)), (1, .ref (a j)), (2, .int (nI u9)), (3, .long (unW o0 o1 16))]) hx hb dX1_firstUnlike_63 hl (k := 4) rfl (by first | exact nI_add _ 1 | decide) (by decide) rfl (fun ls hl => ?_)
        refine lv_goto (tgt := 43) hx hb dX1_firstUnlike_66 (by decide) ?_
        exact ih2 (r + 1) _ _ _ ⟨rfl, rfl, lv_sub hl [1, 2, 3, 4, 0] rfl, by omega, fun z h => by rcases Nat.lt_succ_iff_lt_or_eq.mp h with h | h; exact hz z h; subst h; exact c57⟩ (by show u9 - (r + 1) < u9 - r; omega)
      · skip
        have c57 := fun z => c57 (lg_eq.mpr z)
        refine lv_iload hx hb dX1_firstUnlike_60 (lv_at hl 4 rfl) ?_
        exact en_i hx hb hr hlocks (by rw [fuW_some c46 c57 hz]; rfl) dX1_firstUnlike_62
  · skip
    have c9 := cv_nle (by omega) (by omega) c9
    refine lv_lload_n hx hb dX1_firstUnlike_12 rfl (lv_at hl 3 rfl) ?_
    refine lv_aload_n hx hb dX1_firstUnlike_13 rfl (lv_at hl 0 rfl) ?_
    refine va_get (D := G.1) (ci := 1) (v := .ref (a (i + 3))) (C := RX1) (T := TX1) (N := 2) hx hb hts inX1_firstUnlike_1 hown hK h_l 0 rfl rfl 1 (by decide) (hts (.fieldLink RX1 20 "GateLedger$Lanes" "outWords" "LGateLedger$WideRow;") (List.mem_of_getElem? (i := 1) (by decide +kernel))) (fun _ h9 => h9) rfl dX1_firstUnlike_14 ?_
    refine lv_iload hx hb dX1_firstUnlike_17 (lv_at hl 4 rfl) ?_
    refine ro_l (va_runV (As := [.int (nI q)]) (rest := [.long (unW o0 o1 q)]) FX (c_X9_at l G a (i + 3) 16 o0 (nI q) (by decide)) (cwV 1 hts gX1_firstUnlike_X9_at rfl rfl rfl (by decide +kernel) ⟨Nat.le_of_ble_eq_true rfl, Nat.le_of_ble_eq_true rfl⟩) (preV hK hNW (va_P.sub h_l [3, 4] rfl) (va_recv hK h_l (ci := 9) (q0 := 3) rfl rfl)) rfl rfl hl.1 rfl (lv_room (Nat.le_of_ble_eq_true rfl)) dX1_firstUnlike_19 ⟨Nat.le_of_ble_eq_true rfl, Nat.le_of_ble_eq_true rfl⟩) ?_
    refine lv_asl (y := o0 q) (wrowAt_in (by omega) (by decide)) ?_
    refine lv_aload_n hx hb dX1_firstUnlike_22 rfl (lv_at hl 1 rfl) ?_
    refine va_get (D := G.1) (ci := 1) (v := .ref (a (j + 3))) (C := RX1) (T := TX1) (N := 2) hx hb hts inX1_firstUnlike_1 hown hK h_lj 0 rfl rfl 1 (by decide) (hts (.fieldLink RX1 20 "GateLedger$Lanes" "outWords" "LGateLedger$WideRow;") (List.mem_of_getElem? (i := 1) (by decide +kernel))) (fun _ h9 => h9) rfl dX1_firstUnlike_23 ?_
    refine lv_iload hx hb dX1_firstUnlike_26 (lv_at hl 4 rfl) ?_
    refine ro_l (va_runV (As := [.int (nI q)]) (rest := [.long (o0 q), .long (unW o0 o1 q)]) FX (c_X9_at l G a (j + 3) 16 o1 (nI q) (by decide)) (cwV 1 hts gX1_firstUnlike_X9_at rfl rfl rfl (by decide +kernel) ⟨Nat.le_of_ble_eq_true rfl, Nat.le_of_ble_eq_true rfl⟩) (preV hK hNW (va_P.sub h_lj [3, 4] rfl) (va_recv hK h_lj (ci := 9) (q0 := 3) rfl rfl)) rfl rfl hl.1 rfl (lv_room (Nat.le_of_ble_eq_true rfl)) dX1_firstUnlike_28 ⟨Nat.le_of_ble_eq_true rfl, Nat.le_of_ble_eq_true rfl⟩) ?_
    refine lv_asl (y := o1 q) (wrowAt_in (by omega) (by decide)) ?_
    refine lv_lxor hx hb dX1_firstUnlike_31 ?_
    refine lv_lor hx hb dX1_firstUnlike_32 ?_
    refine lv_lstore_n (lv' := [(3, .long ((unW o0 o1 q) ||| ((o0 q) ^^^ (o1 q)))), (0, .ref (a i)), (1, .ref (a j)), (2, .int (nI u9)), (5, .int (nI q))]) hx hb dX1_firstUnlike_33 rfl hl (by decide) rfl (fun ls hl => ?_)
    refine lv_iinc (v := nI (q + 1)) (lv' := [(5, .int (nI (q + 1))), (3, .long ((unW o0 o1 q) ||| ((o0 q) ^^^ (o1 q)))), (0, .ref (a i)), (1, .ref (a j)), (2, .int (nI u9))]) hx hb dX1_firstUnlike_34 hl (k := 4) rfl (by first | exact nI_add _ 1 | decide) (by decide) rfl (fun ls hl => ?_)
    refine lv_goto (tgt := 5) hx hb dX1_firstUnlike_37 (by decide) ?_
    exact ih1 (q + 1) _ _ _ ⟨rfl, rfl, lv_sub hl [2, 3, 4, 1, 0] rfl, by omega⟩ (by show 16 - (q + 1) < 16 - q; omega)
set_option maxRecDepth 20000 in
theorem inX1_fill_1 : ∀ w ∈ u_ws RX1 TX1 2, w ∈ wsX1_fill := by decide +kernel
set_option maxHeartbeats 4000000 in
set_option maxRecDepth 100000 in
/-- Lanes.fill: the word of each gate and of each out -/
theorem c_X1_fill (l : Launch) (G : GG) (a : Nat → Nat) (ha : Inj a) (i j t9 : Nat) (hij : i + 5 ≤ j ∨ j + 11 ≤ i) (w0 o0 : Nat → Int64) (N : NT) (hN : WF N) (b9 : Nat) (q9 : Prop) [Decidable q9]  : Met l yX1_fill wsX1_fill ({ frames := 2, cells := 0, slots := 0, locals := 42 } : Room) (PcL G a t9 [.ref (a i), .ref (a j), .int (nI b9), .int (bI q9)] (fun H => PP G (lanW G a i w0 o0) H ∧ PP G (netW G a j N) H)) (QV (fun u : (Nat → Int64) × (Nat → Int64) => (∀ r, r < nG N → u.1 r = fw N (fun p => inW p b9 q9) r) ∧ ∀ r, r < 16 → u.2 r = if r < nO N then fw N (fun p => inW p b9 q9) (nU N r) else 0) (fun u H => PP G (lanW G a i u.1 u.2) H) (rng a i 5)) 0 0 (rng a i 5) := by
  refine Met.ofW (cc := cX1_fill) (maxL := 9) (ret := none) (by decide) rfl ?_
  intro p e s m args below meth c s₁ B hml hv
  obtain ⟨⟨rfl, hB, hK, hNW⟩, hLow⟩ := hv
  have hx := B.exec
  have hb := B.bytes
  have hr := B.returns
  have hts := atoms_spec (ws := wsX1_fill) B.pre
  have hown : s.vm.findClass RX1 = some m.cls := findClass_of_methodNamed B.named
  have hlocks := B.notSynchronized
  have FX : CallFix p m c cX1_fill 9 s ([.ref (a i), .ref (a j), .int (nI b9), .int (bI q9)] : List Value).toArray wsX1_fill RX1 := ⟨hx, hb, hml, hown, hts⟩
  have hl := lv_entry ([.ref (a i), .ref (a j), .int (nI b9), .int (bI q9)]) (n := 9) (Nat.le_of_ble_eq_true rfl)
  rw [lg_entry_eq]
  generalize (lg_sl ([.ref (a i), .ref (a j), .int (nI b9), .int (bI q9)]) ++ List.replicate (9 - (lg_sl ([.ref (a i), .ref (a j), .int (nI b9), .int (bI q9)])).length) Slot.unset).toArray = ls at hl ⊢
  have hl : lv_has ls 9 [(0, .ref (a i)), (1, .ref (a j)), (2, .int (nI b9)), (3, .int (bI q9))] := hl
  obtain ⟨hB, h_n⟩ := hB
  have h_o : PP G ([(a i, .inr (1, [.ref (a (i + 1)), .ref (a (i + 3))]))]) s.heap := P_app1 hB
  have h_w : PP G (wrowW G a (i + 1) 120 w0) s.heap := P_app1 (P_app2 hB)
  have h_u : PP G (wrowW G a (i + 3) 16 o0) s.heap := P_app2 (P_app2 hB)
  have hdn : dj (rng a i 5) (netW G a j N) := dj_rng ha netW_in (by omega)
  have hg9 := hN.g
  have ho9 := hN.o
  have hS : va_S (rng a i 5) s.heap s.heap [] := va_S.rf
  refine lv_iconst (v := nI 0) hx hb dX1_fill_0 (by decide) ?_
  refine lv_istore (lv' := [(4, .int (nI 0)), (0, .ref (a i)), (1, .ref (a j)), (2, .int (nI b9)), (3, .int (bI q9))]) hx hb dX1_fill_1 hl (by decide) rfl (fun ls hl => ?_)
  refine lv_iconst (v := nI 0) hx hb dX1_fill_3 (by decide) ?_
  refine lv_istore (lv' := [(5, .int (nI 0)), (4, .int (nI 0)), (0, .ref (a i)), (1, .ref (a j)), (2, .int (nI b9)), (3, .int (bI q9))]) hx hb dX1_fill_4 hl (by decide) rfl (fun ls hl => ?_)
  refine lv_loop2 6 (fun (k : Nat) (w : Nat → Int64) => nG N - k) (fun (k : Nat) (w : Nat → Int64) (H : Heap) (locs : List Loc) (ls : Array Slot) => (PP G ([(a i, .inr (1, [.ref (a (i + 1)), .ref (a (i + 3))]))]) H) ∧ (PP G (wrowW G a (i + 1) 120 w) H) ∧ (PP G (wrowW G a (i + 3) 16 o0) H) ∧ (va_S (rng a i 5) s.heap H locs) ∧ (lv_has ls 9 [(0, .ref (a i)), (1, .ref (a j)), (2, .int (nI b9)), (3, .int (bI q9)), (4, .int (nI (inC N k))), (5, .int (nI k))]) ∧ (k ≤ nG N) ∧ (∀ r, r < k → w r = fw N (fun p => inW p b9 q9) r)) (fun _ _ => []) (fun k w H locs ls hI ih => ?_) 0 w0 ⟨h_o, h_w, h_u, hS, lv_sub hl [2, 3, 4, 5, 1, 0] rfl, by omega, fun r h => absurd h (Nat.not_lt_zero r)⟩ rfl
  obtain ⟨h_o, h_w, h_u, hS, hl, hk, hw⟩ := hI
  have ih1 := @ih
  clear ih
  refine lv_iload hx hb dX1_fill_6 (lv_at hl 5 rfl) ?_
  refine lv_aload_n hx hb dX1_fill_8 rfl (lv_at hl 1 rfl) ?_
  refine ro_i (va_runV (As := []) (rest := [.int (nI k)]) FX (c_X3_size l G a j N) (cwV 0 hts gX1_fill_X3_size rfl rfl rfl (by decide +kernel) ⟨Nat.le_of_ble_eq_true rfl, Nat.le_of_ble_eq_true rfl⟩) (preV hK hNW (ro hS h_n hdn) (va_recv hK (ro hS h_n hdn) (ci := 3) (q0 := 0) rfl rfl)) rfl rfl hl.1 rfl (lv_room (Nat.le_of_ble_eq_true rfl)) dX1_fill_9 ⟨Nat.le_of_ble_eq_true rfl, Nat.le_of_ble_eq_true rfl⟩) ?_
  refine lv_icmp_ge (tgt := 115) hx hb dX1_fill_12 (by decide) (fun c12 => ?_) (fun c12 => ?_)
  · skip
    have c12 := cv_le (by omega) (by omega) c12
    refine lv_iconst (v := nI 0) hx hb dX1_fill_115 (by decide) ?_
    refine lv_istore (lv' := [(5, .int (nI 0)), (0, .ref (a i)), (1, .ref (a j)), (2, .int (nI b9)), (3, .int (bI q9)), (4, .int (nI (inC N k)))]) hx hb dX1_fill_116 hl (by decide) rfl (fun ls hl => ?_)
    have ek : k = nG N := by omega
    subst ek
    refine lv_loop2 118 (fun (q : Nat) (o : Nat → Int64) => 16 - q) (fun (q : Nat) (o : Nat → Int64) (H : Heap) (locs : List Loc) (ls : Array Slot) => (PP G ([(a i, .inr (1, [.ref (a (i + 1)), .ref (a (i + 3))]))]) H) ∧ (PP G (wrowW G a (i + 1) 120 w) H) ∧ (PP G (wrowW G a (i + 3) 16 o) H) ∧ (va_S (rng a i 5) s.heap H locs) ∧ (lv_has ls 9 [(0, .ref (a i)), (1, .ref (a j)), (5, .int (nI q))]) ∧ (q ≤ 16) ∧ (∀ r, r < q → o r = if r < nO N then fw N (fun p => inW p b9 q9) (nU N r) else 0)) (fun _ _ => []) (fun q o H locs ls hI ih => ?_) 0 o0 ⟨h_o, h_w, h_u, hS, lv_sub hl [1, 2, 0] rfl, by omega, fun r h => absurd h (Nat.not_lt_zero r)⟩ rfl
    obtain ⟨h_o, h_w, h_u, hS, hl, hq, ho⟩ := hI
    have ih2 := @ih
    clear ih
    refine lv_iload hx hb dX1_fill_118 (lv_at hl 2 rfl) ?_
    refine lv_bipush (v := nI 16) hx hb dX1_fill_120 (by decide) ?_
    refine lv_icmp_ge (tgt := 166) hx hb dX1_fill_122 (by decide) (fun c122 => ?_) (fun c122 => ?_)
    · skip
      have c122 := cv_le (by omega) (by omega) c122
      have eq9 : q = 16 := by omega
      subst eq9
      exact en_wv (w, o) hx hb hr hlocks hS (⟨hw, ho⟩) (P_app h_o (P_app h_w h_u)) dX1_fill_166
    · skip
      have c122 := cv_nle (by omega) (by omega) c122
      refine lv_aload_n hx hb dX1_fill_125 rfl (lv_at hl 0 rfl) ?_
      refine va_get (D := G.1) (ci := 1) (v := .ref (a (i + 3))) (C := RX1) (T := TX1) (N := 2) hx hb hts inX1_fill_1 hown hK h_o 0 rfl rfl 1 (by decide) (hts (.fieldLink RX1 20 "GateLedger$Lanes" "outWords" "LGateLedger$WideRow;") (List.mem_of_getElem? (i := 2) (by decide +kernel))) (fun _ h9 => h9) rfl dX1_fill_126 ?_
      refine lv_iload hx hb dX1_fill_129 (lv_at hl 2 rfl) ?_
      refine lv_iload hx hb dX1_fill_131 (lv_at hl 2 rfl) ?_
      refine lv_aload_n hx hb dX1_fill_133 rfl (lv_at hl 1 rfl) ?_
      refine ro_i (va_runV (As := []) (rest := [.int (nI q), .int (nI q), .ref (a (i + 3))]) FX (c_X3_outCount l G a j N) (cwV 0 hts gX1_fill_X3_outCount rfl rfl rfl (by decide +kernel) ⟨Nat.le_of_ble_eq_true rfl, Nat.le_of_ble_eq_true rfl⟩) (preV hK hNW (ro hS h_n hdn) (va_recv hK (ro hS h_n hdn) (ci := 3) (q0 := 0) rfl rfl)) rfl rfl hl.1 rfl (lv_room (Nat.le_of_ble_eq_true rfl)) dX1_fill_134 ⟨Nat.le_of_ble_eq_true rfl, Nat.le_of_ble_eq_true rfl⟩) ?_
      refine lv_icmp_ge (tgt := 156) hx hb dX1_fill_137 (by decide) (fun c137 => ?_) (fun c137 => ?_)
      · skip
        have c137 := cv_le (by omega) (by omega) c137
        refine lv_lconst (v := 0) hx hb dX1_fill_156 (by decide) ?_
        refine wr_v (va_runV (As := [.int (nI q), .long 0]) (rest := []) FX (c_X9_put l G a ha (i + 3) 16 o (nI q) 0 (by decide)) (cwV 2 hts gX1_fill_X9_put rfl rfl rfl (by decide +kernel) ⟨Nat.le_of_ble_eq_true rfl, Nat.le_of_ble_eq_true rfl⟩) (preV hK hNW h_u (va_recv hK h_u (ci := 9) (q0 := 0) rfl rfl)) rfl rfl hl.1 rfl (lv_room (Nat.le_of_ble_eq_true rfl)) dX1_fill_157 ⟨Nat.le_of_ble_eq_true rfl, Nat.le_of_ble_eq_true rfl⟩) hS (rng_sub (by omega)) (fun _ H locs _ hP9 hk3 hS => ?_)
        rw [wrowPut_in (by omega) (by decide)] at hP9
        rw [show 0 = (if q < nO N then fw N (fun p => inW p b9 q9) (nU N q) else 0) from by first | exact (if_pos c137).symm | exact (if_neg (by omega)).symm] at hP9
        have h_u : PP G (wrowW G a (i + 3) 16 (vp_updL o q (if q < nO N then fw N (fun p => inW p b9 q9) (nU N q) else 0))) H := hP9
        have h_o : PP G ([(a i, .inr (1, [.ref (a (i + 1)), .ref (a (i + 3))]))]) H := kp hk3 h_o (dj_cons (rng_no ha (by omega)) (dj_nil))
        have h_w : PP G (wrowW G a (i + 1) 120 w) H := kp hk3 h_w (dj_cons (rng_no ha (by omega)) (dj_cons (rng_no ha (by omega)) (dj_nil)))
        refine lv_iinc (v := nI (q + 1)) (lv' := [(5, .int (nI (q + 1))), (0, .ref (a i)), (1, .ref (a j))]) hx hb dX1_fill_160 hl (k := 2) rfl (by first | exact nI_add _ 1 | decide) (by decide) rfl (fun ls hl => ?_)
        refine lv_goto (tgt := 118) hx hb dX1_fill_163 (by decide) ?_
        exact ih2 (q + 1) (vp_updL o q (if q < nO N then fw N (fun p => inW p b9 q9) (nU N q) else 0)) _ _ _ ⟨h_o, h_w, h_u, hS, lv_sub hl [1, 2, 0] rfl, by omega, updL_fill ho rfl⟩ (by show 16 - (q + 1) < 16 - q; omega)
      · skip
        have c137 := cv_nle (by omega) (by omega) c137
        have hu9 := hN.u c137
        refine lv_aload_n hx hb dX1_fill_140 rfl (lv_at hl 0 rfl) ?_
        refine va_get (D := G.1) (ci := 1) (v := .ref (a (i + 1))) (C := RX1) (T := TX1) (N := 2) hx hb hts inX1_fill_1 hown hK h_o 0 rfl rfl 0 (by decide) (hts (.fieldLink RX1 14 "GateLedger$Lanes" "words" "LGateLedger$WideRow;") (List.mem_of_getElem? (i := 1) (by decide +kernel))) (fun _ h9 => h9) rfl dX1_fill_141 ?_
        refine lv_aload_n hx hb dX1_fill_144 rfl (lv_at hl 1 rfl) ?_
        refine lv_iload hx hb dX1_fill_145 (lv_at hl 2 rfl) ?_
        refine ro_i (va_runV (As := [.int (nI q)]) (rest := [.ref (a (i + 1)), .int (nI q), .ref (a (i + 3))]) FX (c_X3_outAt l G a j N hN q c137) (cwV 1 hts gX1_fill_X3_outAt rfl rfl rfl (by decide +kernel) ⟨Nat.le_of_ble_eq_true rfl, Nat.le_of_ble_eq_true rfl⟩) (preV hK hNW (ro hS h_n hdn) (va_recv hK (ro hS h_n hdn) (ci := 3) (q0 := 0) rfl rfl)) rfl rfl hl.1 rfl (lv_room (Nat.le_of_ble_eq_true rfl)) dX1_fill_147 ⟨Nat.le_of_ble_eq_true rfl, Nat.le_of_ble_eq_true rfl⟩) ?_
        refine ro_l (va_runV (As := [.int (nI (nU N q))]) (rest := [.int (nI q), .ref (a (i + 3))]) FX (c_X9_at l G a (i + 1) 120 w (nI (nU N q)) (by decide)) (cwV 1 hts gX1_fill_X9_at rfl rfl rfl (by decide +kernel) ⟨Nat.le_of_ble_eq_true rfl, Nat.le_of_ble_eq_true rfl⟩) (preV hK hNW (va_P.sub h_w [0, 1] rfl) (va_recv hK h_w (ci := 9) (q0 := 0) rfl rfl)) rfl rfl hl.1 rfl (lv_room (Nat.le_of_ble_eq_true rfl)) dX1_fill_150 ⟨Nat.le_of_ble_eq_true rfl, Nat.le_of_ble_eq_true rfl⟩) ?_
        refine lv_asl (y := fw N (fun p => inW p b9 q9) (nU N q)) ((wrowAt_in (by omega) (by decide)).trans (hw _ hu9)) ?_
        refine lv_goto (tgt := 157) hx hb dX1_fill_153 (by decide) ?_
        refine wr_v (va_runV (As := [.int (nI q), .long (fw N (fun p => inW p b9 q9) (nU N q))]) (rest := []) FX (c_X9_put l G a ha (i + 3) 16 o (nI q) (fw N (fun p => inW p b9 q9) (nU N q)) (by decide)) (cwV 2 hts gX1_fill_X9_put rfl rfl rfl (by decide +kernel) ⟨Nat.le_of_ble_eq_true rfl, Nat.le_of_ble_eq_true rfl⟩) (preV hK hNW h_u (va_recv hK h_u (ci := 9) (q0 := 0) rfl rfl)) rfl rfl hl.1 rfl (lv_room (Nat.le_of_ble_eq_true rfl)) dX1_fill_157 ⟨Nat.le_of_ble_eq_true rfl, Nat.le_of_ble_eq_true rfl⟩) hS (rng_sub (by omega)) (fun _ H locs _ hP9 hk5 hS => ?_)
        rw [wrowPut_in (by omega) (by decide)] at hP9
        rw [show fw N (fun p => inW p b9 q9) (nU N q) = (if q < nO N then fw N (fun p => inW p b9 q9) (nU N q) else 0) from by first | exact (if_pos c137).symm | exact (if_neg (by omega)).symm] at hP9
        have h_u : PP G (wrowW G a (i + 3) 16 (vp_updL o q (if q < nO N then fw N (fun p => inW p b9 q9) (nU N q) else 0))) H := hP9
        have h_o : PP G ([(a i, .inr (1, [.ref (a (i + 1)), .ref (a (i + 3))]))]) H := kp hk5 h_o (dj_cons (rng_no ha (by omega)) (dj_nil))
        have h_w : PP G (wrowW G a (i + 1) 120 w) H := kp hk5 h_w (dj_cons (rng_no ha (by omega)) (dj_cons (rng_no ha (by omega)) (dj_nil)))
        refine lv_iinc (v := nI (q + 1)) (lv' := [(5, .int (nI (q + 1))), (0, .ref (a i)), (1, .ref (a j))]) hx hb dX1_fill_160 hl (k := 2) rfl (by first | exact nI_add _ 1 | decide) (by decide) rfl (fun ls hl => ?_)
        refine lv_goto (tgt := 118) hx hb dX1_fill_163 (by decide) ?_
        exact ih2 (q + 1) (vp_updL o q (if q < nO N then fw N (fun p => inW p b9 q9) (nU N q) else 0)) _ _ _ ⟨h_o, h_w, h_u, hS, lv_sub hl [1, 2, 0] rfl, by omega, updL_fill ho rfl⟩ (by show 16 - (q + 1) < 16 - q; omega)
  · skip
    have c12 := cv_nle (by omega) (by omega) c12
    have hk4 := hN.k c12
    have hi9 := inC_lt hN (k := k) (by omega)
    refine lv_lab0 76 (fun (H : Heap) (locs : List Loc) (ls : Array Slot) => (PP G ([(a i, .inr (1, [.ref (a (i + 1)), .ref (a (i + 3))]))]) H) ∧ (PP G (wrowW G a (i + 1) 120 w) H) ∧ (PP G (wrowW G a (i + 3) 16 o0) H) ∧ (va_S (rng a i 5) s.heap H locs) ∧ (lv_has ls 9 [(0, .ref (a i)), (1, .ref (a j)), (2, .int (nI b9)), (3, .int (bI q9)), (4, .int (nI (inC N (k + 1)))), (5, .int (nI k)), (6, .long (fwR N (fun p => inW p b9 q9) w k))])) ([]) (fun H locs ls hI => ?_) (fun lab7 => ?_)
    · skip
      obtain ⟨h_o, h_w, h_u, hS, hl⟩ := hI
      refine lv_aload_n hx hb dX1_fill_76 rfl (lv_at hl 1 rfl) ?_
      refine lv_iload hx hb dX1_fill_77 (lv_at hl 5 rfl) ?_
      refine ro_i (va_runV (As := [.int (nI k)]) (rest := []) FX (c_X3_stuckBitOf l G a j N hN k c12) (cwV 1 hts gX1_fill_X3_stuckBitOf rfl rfl rfl (by decide +kernel) ⟨Nat.le_of_ble_eq_true rfl, Nat.le_of_ble_eq_true rfl⟩) (preV hK hNW (ro hS h_n hdn) (va_recv hK (ro hS h_n hdn) (ci := 3) (q0 := 0) rfl rfl)) rfl rfl hl.1 rfl (lv_room (Nat.le_of_ble_eq_true rfl)) dX1_fill_79 ⟨Nat.le_of_ble_eq_true rfl, Nat.le_of_ble_eq_true rfl⟩) ?_
      refine lv_istore (lv' := [(8, .int (nT N k)), (0, .ref (a i)), (1, .ref (a j)), (2, .int (nI b9)), (3, .int (bI q9)), (4, .int (nI (inC N (k + 1)))), (5, .int (nI k)), (6, .long (fwR N (fun p => inW p b9 q9) w k))]) hx hb dX1_fill_82 hl (by decide) rfl (fun ls hl => ?_)
      refine lv_aload_n hx hb dX1_fill_84 rfl (lv_at hl 1 rfl) ?_
      refine va_get (D := G.1) (ci := 1) (v := .ref (a (i + 1))) (C := RX1) (T := TX1) (N := 2) hx hb hts inX1_fill_1 hown hK h_o 0 rfl rfl 0 (by decide) (hts (.fieldLink RX1 14 "GateLedger$Lanes" "words" "LGateLedger$WideRow;") (List.mem_of_getElem? (i := 1) (by decide +kernel))) (fun _ h9 => h9) rfl dX1_fill_85 ?_
      refine lv_iload hx hb dX1_fill_88 (lv_at hl 6 rfl) ?_
      refine lv_iload hx hb dX1_fill_90 (lv_at hl 0 rfl) ?_
      refine lv_iconst (v := -1) hx hb dX1_fill_92 (by decide) ?_
      refine lv_icmp_ne (tgt := 101) hx hb dX1_fill_93 (by decide) (fun c93 => ?_) (fun c93 => ?_)
      · skip
        refine lv_iload hx hb dX1_fill_101 (lv_at hl 0 rfl) ?_
        refine ro_l (va_runS (As := [.int (nT N k)]) (rest := [.int (nI k), .ref (a (i + 1))]) FX (c_X1_everyLane l G (nT N k)) (va_cwS 1 hts gX1_fill_X1_everyLane rfl rfl rfl (by decide +kernel) ⟨Nat.le_of_ble_eq_true rfl, Nat.le_of_ble_eq_true rfl⟩) (preS hK hNW trivial) rfl rfl hl.1 rfl (lv_room (Nat.le_of_ble_eq_true rfl)) dX1_fill_103 ⟨Nat.le_of_ble_eq_true rfl, Nat.le_of_ble_eq_true rfl⟩) ?_
        refine wr_v (va_runV (As := [.int (nI k), .long (evL (nT N k))]) (rest := []) FX (c_X9_put l G a ha (i + 1) 120 w (nI k) (evL (nT N k)) (by decide)) (cwV 2 hts gX1_fill_X9_put rfl rfl rfl (by decide +kernel) ⟨Nat.le_of_ble_eq_true rfl, Nat.le_of_ble_eq_true rfl⟩) (preV hK hNW h_w (va_recv hK h_w (ci := 9) (q0 := 0) rfl rfl)) rfl rfl hl.1 rfl (lv_room (Nat.le_of_ble_eq_true rfl)) dX1_fill_106 ⟨Nat.le_of_ble_eq_true rfl, Nat.le_of_ble_eq_true rfl⟩) hS (rng_sub (by omega)) (fun _ H locs _ hP9 hk8 hS => ?_)
        rw [wrowPut_in (by omega) (by decide)] at hP9
        rw [show evL (nT N k) = fw N (fun p => inW p b9 q9) k from by first | exact ((fw_ns hN c12 c93).trans (fwR_cong hN c12 (fun r h => (hw r h).symm))).symm | exact (fw_st c93).symm] at hP9
        have h_w : PP G (wrowW G a (i + 1) 120 (vp_updL w k (fw N (fun p => inW p b9 q9) k))) H := hP9
        have h_o : PP G ([(a i, .inr (1, [.ref (a (i + 1)), .ref (a (i + 3))]))]) H := kp hk8 h_o (dj_cons (rng_no ha (by omega)) (dj_nil))
        have h_u : PP G (wrowW G a (i + 3) 16 o0) H := kp hk8 h_u (dj_cons (rng_no ha (by omega)) (dj_cons (rng_no ha (by omega)) (dj_nil)))
        refine lv_iinc (v := nI (k + 1)) (lv' := [(5, .int (nI (k + 1))), (8, .int (nT N k)), (0, .ref (a i)), (1, .ref (a j)), (2, .int (nI b9)), (3, .int (bI q9)), (4, .int (nI (inC N (k + 1)))), (6, .long (fwR N (fun p => inW p b9 q9) w k))]) hx hb dX1_fill_109 hl (k := 6) rfl (by first | exact nI_add _ 1 | decide) (by decide) rfl (fun ls hl => ?_)
        refine lv_goto (tgt := 6) hx hb dX1_fill_112 (by decide) ?_
        exact ih1 (k + 1) (vp_updL w k (fw N (fun p => inW p b9 q9) k)) _ _ _ ⟨h_o, h_w, h_u, hS, lv_sub hl [2, 3, 4, 5, 6, 0] rfl, by omega, updL_fill hw rfl⟩ (by show nG N - (k + 1) < nG N - k; omega)
      · skip
        refine lv_lload hx hb dX1_fill_96 (lv_at hl 7 rfl) ?_
        refine lv_goto (tgt := 106) hx hb dX1_fill_98 (by decide) ?_
        refine wr_v (va_runV (As := [.int (nI k), .long (fwR N (fun p => inW p b9 q9) w k)]) (rest := []) FX (c_X9_put l G a ha (i + 1) 120 w (nI k) (fwR N (fun p => inW p b9 q9) w k) (by decide)) (cwV 2 hts gX1_fill_X9_put rfl rfl rfl (by decide +kernel) ⟨Nat.le_of_ble_eq_true rfl, Nat.le_of_ble_eq_true rfl⟩) (preV hK hNW h_w (va_recv hK h_w (ci := 9) (q0 := 0) rfl rfl)) rfl rfl hl.1 rfl (lv_room (Nat.le_of_ble_eq_true rfl)) dX1_fill_106 ⟨Nat.le_of_ble_eq_true rfl, Nat.le_of_ble_eq_true rfl⟩) hS (rng_sub (by omega)) (fun _ H locs _ hP9 hk10 hS => ?_)
        rw [wrowPut_in (by omega) (by decide)] at hP9
        rw [show fwR N (fun p => inW p b9 q9) w k = fw N (fun p => inW p b9 q9) k from by first | exact ((fw_ns hN c12 c93).trans (fwR_cong hN c12 (fun r h => (hw r h).symm))).symm | exact (fw_st c93).symm] at hP9
        have h_w : PP G (wrowW G a (i + 1) 120 (vp_updL w k (fw N (fun p => inW p b9 q9) k))) H := hP9
        have h_o : PP G ([(a i, .inr (1, [.ref (a (i + 1)), .ref (a (i + 3))]))]) H := kp hk10 h_o (dj_cons (rng_no ha (by omega)) (dj_nil))
        have h_u : PP G (wrowW G a (i + 3) 16 o0) H := kp hk10 h_u (dj_cons (rng_no ha (by omega)) (dj_cons (rng_no ha (by omega)) (dj_nil)))
        refine lv_iinc (v := nI (k + 1)) (lv' := [(5, .int (nI (k + 1))), (8, .int (nT N k)), (0, .ref (a i)), (1, .ref (a j)), (2, .int (nI b9)), (3, .int (bI q9)), (4, .int (nI (inC N (k + 1)))), (6, .long (fwR N (fun p => inW p b9 q9) w k))]) hx hb dX1_fill_109 hl (k := 6) rfl (by first | exact nI_add _ 1 | decide) (by decide) rfl (fun ls hl => ?_)
        refine lv_goto (tgt := 6) hx hb dX1_fill_112 (by decide) ?_
        exact ih1 (k + 1) (vp_updL w k (fw N (fun p => inW p b9 q9) k)) _ _ _ ⟨h_o, h_w, h_u, hS, lv_sub hl [2, 3, 4, 5, 6, 0] rfl, by omega, updL_fill hw rfl⟩ (by show nG N - (k + 1) < nG N - k; omega)
    refine lv_aload_n hx hb dX1_fill_15 rfl (lv_at hl 1 rfl) ?_
    refine lv_iload hx hb dX1_fill_16 (lv_at hl 5 rfl) ?_
    refine ro_i (va_runV (As := [.int (nI k)]) (rest := []) FX (c_X3_isInput l G a j N hN k c12) (cwV 1 hts gX1_fill_X3_isInput rfl rfl rfl (by decide +kernel) ⟨Nat.le_of_ble_eq_true rfl, Nat.le_of_ble_eq_true rfl⟩) (preV hK hNW (ro hS h_n hdn) (va_recv hK (ro hS h_n hdn) (ci := 3) (q0 := 0) rfl rfl)) rfl rfl hl.1 rfl (lv_room (Nat.le_of_ble_eq_true rfl)) dX1_fill_18 ⟨Nat.le_of_ble_eq_true rfl, Nat.le_of_ble_eq_true rfl⟩) ?_
    refine lv_if_eq (tgt := 39) hx hb dX1_fill_21 (by decide) (fun c21 => ?_) (fun c21 => ?_)
    · skip
      have c21 := bI_0.mp c21
      have hfs := hN.fs c12 c21
      refine lv_aload_n hx hb dX1_fill_39 rfl (lv_at hl 1 rfl) ?_
      refine lv_iload hx hb dX1_fill_40 (lv_at hl 5 rfl) ?_
      refine ro_i (va_runV (As := [.int (nI k)]) (rest := []) FX (c_X3_kindOf l G a j N hN k c12) (cwV 1 hts gX1_fill_X3_kindOf rfl rfl rfl (by decide +kernel) ⟨Nat.le_of_ble_eq_true rfl, Nat.le_of_ble_eq_true rfl⟩) (preV hK hNW (ro hS h_n hdn) (va_recv hK (ro hS h_n hdn) (ci := 3) (q0 := 0) rfl rfl)) rfl rfl hl.1 rfl (lv_room (Nat.le_of_ble_eq_true rfl)) dX1_fill_42 ⟨Nat.le_of_ble_eq_true rfl, Nat.le_of_ble_eq_true rfl⟩) ?_
      refine lv_aload_n hx hb dX1_fill_45 rfl (lv_at hl 0 rfl) ?_
      refine va_get (D := G.1) (ci := 1) (v := .ref (a (i + 1))) (C := RX1) (T := TX1) (N := 2) hx hb hts inX1_fill_1 hown hK h_o 0 rfl rfl 0 (by decide) (hts (.fieldLink RX1 14 "GateLedger$Lanes" "words" "LGateLedger$WideRow;") (List.mem_of_getElem? (i := 1) (by decide +kernel))) (fun _ h9 => h9) rfl dX1_fill_46 ?_
      refine lv_aload_n hx hb dX1_fill_49 rfl (lv_at hl 1 rfl) ?_
      refine lv_iload hx hb dX1_fill_50 (lv_at hl 5 rfl) ?_
      refine ro_i (va_runV (As := [.int (nI k)]) (rest := [.ref (a (i + 1)), .int (nI (nK N k))]) FX (c_X3_firstOf l G a j N hN k c12) (cwV 1 hts gX1_fill_X3_firstOf rfl rfl rfl (by decide +kernel) ⟨Nat.le_of_ble_eq_true rfl, Nat.le_of_ble_eq_true rfl⟩) (preV hK hNW (ro hS h_n hdn) (va_recv hK (ro hS h_n hdn) (ci := 3) (q0 := 0) rfl rfl)) rfl rfl hl.1 rfl (lv_room (Nat.le_of_ble_eq_true rfl)) dX1_fill_52 ⟨Nat.le_of_ble_eq_true rfl, Nat.le_of_ble_eq_true rfl⟩) ?_
      refine ro_l (va_runV (As := [.int (nI (nF N k))]) (rest := [.int (nI (nK N k))]) FX (c_X9_at l G a (i + 1) 120 w (nI (nF N k)) (by decide)) (cwV 1 hts gX1_fill_X9_at rfl rfl rfl (by decide +kernel) ⟨Nat.le_of_ble_eq_true rfl, Nat.le_of_ble_eq_true rfl⟩) (preV hK hNW (va_P.sub h_w [0, 1] rfl) (va_recv hK h_w (ci := 9) (q0 := 0) rfl rfl)) rfl rfl hl.1 rfl (lv_room (Nat.le_of_ble_eq_true rfl)) dX1_fill_55 ⟨Nat.le_of_ble_eq_true rfl, Nat.le_of_ble_eq_true rfl⟩) ?_
      refine lv_asl (y := w (nF N k)) (wrowAt_in (by omega) (by decide)) ?_
      refine lv_aload_n hx hb dX1_fill_58 rfl (lv_at hl 0 rfl) ?_
      refine va_get (D := G.1) (ci := 1) (v := .ref (a (i + 1))) (C := RX1) (T := TX1) (N := 2) hx hb hts inX1_fill_1 hown hK h_o 0 rfl rfl 0 (by decide) (hts (.fieldLink RX1 14 "GateLedger$Lanes" "words" "LGateLedger$WideRow;") (List.mem_of_getElem? (i := 1) (by decide +kernel))) (fun _ h9 => h9) rfl dX1_fill_59 ?_
      refine lv_aload_n hx hb dX1_fill_62 rfl (lv_at hl 1 rfl) ?_
      refine lv_iload hx hb dX1_fill_63 (lv_at hl 5 rfl) ?_
      refine ro_i (va_runV (As := [.int (nI k)]) (rest := [.ref (a (i + 1)), .long (w (nF N k)), .int (nI (nK N k))]) FX (c_X3_secondOf l G a j N hN k c12) (cwV 1 hts gX1_fill_X3_secondOf rfl rfl rfl (by decide +kernel) ⟨Nat.le_of_ble_eq_true rfl, Nat.le_of_ble_eq_true rfl⟩) (preV hK hNW (ro hS h_n hdn) (va_recv hK (ro hS h_n hdn) (ci := 3) (q0 := 0) rfl rfl)) rfl rfl hl.1 rfl (lv_room (Nat.le_of_ble_eq_true rfl)) dX1_fill_65 ⟨Nat.le_of_ble_eq_true rfl, Nat.le_of_ble_eq_true rfl⟩) ?_
      refine ro_l (va_runV (As := [.int (nI (nS N k))]) (rest := [.long (w (nF N k)), .int (nI (nK N k))]) FX (c_X9_at l G a (i + 1) 120 w (nI (nS N k)) (by decide)) (cwV 1 hts gX1_fill_X9_at rfl rfl rfl (by decide +kernel) ⟨Nat.le_of_ble_eq_true rfl, Nat.le_of_ble_eq_true rfl⟩) (preV hK hNW (va_P.sub h_w [0, 1] rfl) (va_recv hK h_w (ci := 9) (q0 := 0) rfl rfl)) rfl rfl hl.1 rfl (lv_room (Nat.le_of_ble_eq_true rfl)) dX1_fill_68 ⟨Nat.le_of_ble_eq_true rfl, Nat.le_of_ble_eq_true rfl⟩) ?_
      refine lv_asl (y := w (nS N k)) (wrowAt_in (by omega) (by decide)) ?_
      refine ro_l (va_runSN (As := [.int (nI (nK N k)), .long (w (nF N k)), .long (w (nS N k))]) (rest := []) FX (c_X11_join l G (nK N k) (w (nF N k)) (w (nS N k)) (by omega)) ⟨va_cnB 3 hts gX1_fill_X11_join_n58 rfl rfl rfl hNW.1 (hts (.initialized RX11) (List.mem_of_getElem? (i := 50) (by decide +kernel))) (by decide +kernel) ⟨Nat.le_of_ble_eq_true rfl, Nat.le_of_ble_eq_true rfl⟩, (hts (.static yX11_join) (List.mem_of_getElem? (i := 49) (by decide +kernel))), trivial⟩ (preS hK hNW trivial) rfl rfl hl.1 rfl (lv_room (Nat.le_of_ble_eq_true rfl)) dX1_fill_71 ⟨Nat.le_of_ble_eq_true rfl, Nat.le_of_ble_eq_true rfl⟩) ?_
      refine lv_lstore (lv' := [(6, .long (jnW (nK N k) (w (nF N k)) (w (nS N k)))), (0, .ref (a i)), (1, .ref (a j)), (2, .int (nI b9)), (3, .int (bI q9)), (4, .int (nI (inC N k))), (5, .int (nI k))]) hx hb dX1_fill_74 hl (by decide) rfl (fun ls hl => ?_)
      exact lab7  _ _ _ ⟨h_o, h_w, h_u, hS, by rw [inC_ni c21, show fwR N (fun p => inW p b9 q9) w k = jnW (nK N k) (w (nF N k)) (w (nS N k)) from if_neg c21]; exact lv_sub hl [1, 2, 3, 4, 5, 6, 0] rfl⟩
    · skip
      have c21 := bI_1 c21
      have hi8 := inC_lt1 hN c12 c21
      refine lv_iload hx hb dX1_fill_24 (lv_at hl 4 rfl) ?_
      refine lv_iload_n hx hb dX1_fill_26 rfl (lv_at hl 2 rfl) ?_
      refine lv_iload_n hx hb dX1_fill_27 rfl (lv_at hl 3 rfl) ?_
      refine ro_l (va_runS (As := [.int (nI (inC N k)), .int (nI b9), .int (bI q9)]) (rest := []) FX (c_X1_inputWord l G a t9 (inC N k) b9 q9 (by omega)) (va_cwS 3 hts gX1_fill_X1_inputWord rfl rfl rfl (by decide +kernel) ⟨Nat.le_of_ble_eq_true rfl, Nat.le_of_ble_eq_true rfl⟩) (preSL hK hNW trivial (hLow.at hS (fun q _ => rng_M q))) rfl rfl hl.1 rfl (lv_room (Nat.le_of_ble_eq_true rfl)) dX1_fill_28 ⟨Nat.le_of_ble_eq_true rfl, Nat.le_of_ble_eq_true rfl⟩) ?_
      refine lv_lstore (lv' := [(6, .long ((fun p => inW p b9 q9) (inC N k))), (0, .ref (a i)), (1, .ref (a j)), (2, .int (nI b9)), (3, .int (bI q9)), (4, .int (nI (inC N k))), (5, .int (nI k))]) hx hb dX1_fill_31 hl (by decide) rfl (fun ls hl => ?_)
      refine lv_iinc (v := nI (inC N k + 1)) (lv' := [(4, .int (nI (inC N k + 1))), (6, .long ((fun p => inW p b9 q9) (inC N k))), (0, .ref (a i)), (1, .ref (a j)), (2, .int (nI b9)), (3, .int (bI q9)), (5, .int (nI k))]) hx hb dX1_fill_33 hl (k := 5) rfl (by first | exact nI_add _ 1 | decide) (by decide) rfl (fun ls hl => ?_)
      refine lv_goto (tgt := 76) hx hb dX1_fill_36 (by decide) ?_
      exact lab7  _ _ _ ⟨h_o, h_w, h_u, hS, by rw [inC_in c21, show fwR N (fun p => inW p b9 q9) w k = (fun p => inW p b9 q9) (inC N k) from if_pos c21]; exact lv_sub hl [2, 3, 4, 5, 0, 6, 1] rfl⟩
set_option maxHeartbeats 4000000 in
set_option maxRecDepth 100000 in
/-- X1_fillForOne -/
theorem c_X1_fillForOne (l : Launch) (G : GG) (a : Nat → Nat) (ha : Inj a) (i j t9 : Nat) (hij : i + 5 ≤ j ∨ j + 11 ≤ i) (w0 o0 : Nat → Int64) (N : NT) (hN : WF N) (b9 : Nat)  : Met l yX1_fillForOne wsX1_fillForOne ({ frames := 3, cells := 0, slots := 0, locals := 70 } : Room) (PcL G a t9 [.ref (a i), .ref (a j), .int (nI b9)] (fun H => PP G (lanW G a i w0 o0) H ∧ PP G (netW G a j N) H)) (QV (fun u : (Nat → Int64) × (Nat → Int64) => (∀ r, r < nG N → u.1 r = fw N (fun p => inW p b9 False) r) ∧ ∀ r, r < 16 → u.2 r = if r < nO N then fw N (fun p => inW p b9 False) (nU N r) else 0) (fun u H => PP G (lanW G a i u.1 u.2) H) (rng a i 5)) 0 0 (rng a i 5) := by
  refine Met.ofW (cc := cX1_fillForOne) (maxL := 3) (ret := none) (by decide) rfl ?_
  intro p e s m args below meth c s₁ B hml hv
  obtain ⟨⟨rfl, hB, hK, hNW⟩, hLow⟩ := hv
  have hx := B.exec
  have hb := B.bytes
  have hr := B.returns
  have hts := atoms_spec (ws := wsX1_fillForOne) B.pre
  have hown : s.vm.findClass RX1 = some m.cls := findClass_of_methodNamed B.named
  have hlocks := B.notSynchronized
  have FX : CallFix p m c cX1_fillForOne 3 s ([.ref (a i), .ref (a j), .int (nI b9)] : List Value).toArray wsX1_fillForOne RX1 := ⟨hx, hb, hml, hown, hts⟩
  have hl := lv_entry ([.ref (a i), .ref (a j), .int (nI b9)]) (n := 3) (Nat.le_of_ble_eq_true rfl)
  rw [lg_entry_eq]
  generalize (lg_sl ([.ref (a i), .ref (a j), .int (nI b9)]) ++ List.replicate (3 - (lg_sl ([.ref (a i), .ref (a j), .int (nI b9)])).length) Slot.unset).toArray = ls at hl ⊢
  have hl : lv_has ls 3 [(0, .ref (a i)), (1, .ref (a j)), (2, .int (nI b9))] := hl
  obtain ⟨h_l, h_n⟩ := hB
  have hdn : dj (rng a i 5) (netW G a j N) := dj_rng ha netW_in (by omega)
  have hS : va_S (rng a i 5) s.heap s.heap [] := va_S.rf
  refine lv_aload_n hx hb dX1_fillForOne_0 rfl (lv_at hl 0 rfl) ?_
  refine lv_aload_n hx hb dX1_fillForOne_1 rfl (lv_at hl 1 rfl) ?_
  refine lv_iload_n hx hb dX1_fillForOne_2 rfl (lv_at hl 2 rfl) ?_
  refine lv_iconst (v := nI 0) hx hb dX1_fillForOne_3 (by decide) ?_
  refine lv_as (y := bI False) (by decide) ?_
  refine wr_v (va_runV (As := [.ref (a j), .int (nI b9), .int (bI False)]) (rest := []) FX (c_X1_fill l G a ha i j t9 hij w0 o0 N hN b9 False) (cwV 3 hts gX1_fillForOne_X1_fill rfl rfl rfl (by decide +kernel) ⟨Nat.le_of_ble_eq_true rfl, Nat.le_of_ble_eq_true rfl⟩) (preVL hK hNW (⟨h_l, (ro hS h_n hdn)⟩) (hLow.at hS (fun q _ => rng_M q)) (va_recv hK h_l (ci := 1) (q0 := 0) rfl rfl)) rfl rfl hl.1 rfl (lv_room (Nat.le_of_ble_eq_true rfl)) dX1_fillForOne_4 ⟨Nat.le_of_ble_eq_true rfl, Nat.le_of_ble_eq_true rfl⟩) hS (rng_sub (by omega)) (fun u H locs hu9 hP9 hk1 hS => ?_)
  have h_l : PP G (lanW G a i u.1 u.2) H := hP9
  exact en_wv u hx hb hr hlocks hS (hu9) (h_l) dX1_fillForOne_7
set_option maxHeartbeats 4000000 in
set_option maxRecDepth 100000 in
/-- X1_fillFrom -/
theorem c_X1_fillFrom (l : Launch) (G : GG) (a : Nat → Nat) (ha : Inj a) (i j t9 : Nat) (hij : i + 5 ≤ j ∨ j + 11 ≤ i) (w0 o0 : Nat → Int64) (N : NT) (hN : WF N) (b9 : Nat)  : Met l yX1_fillFrom wsX1_fillFrom ({ frames := 3, cells := 0, slots := 0, locals := 70 } : Room) (PcL G a t9 [.ref (a i), .ref (a j), .int (nI b9)] (fun H => PP G (lanW G a i w0 o0) H ∧ PP G (netW G a j N) H)) (QV (fun u : (Nat → Int64) × (Nat → Int64) => (∀ r, r < nG N → u.1 r = fw N (fun p => inW p b9 True) r) ∧ ∀ r, r < 16 → u.2 r = if r < nO N then fw N (fun p => inW p b9 True) (nU N r) else 0) (fun u H => PP G (lanW G a i u.1 u.2) H) (rng a i 5)) 0 0 (rng a i 5) := by
  refine Met.ofW (cc := cX1_fillFrom) (maxL := 3) (ret := none) (by decide) rfl ?_
  intro p e s m args below meth c s₁ B hml hv
  obtain ⟨⟨rfl, hB, hK, hNW⟩, hLow⟩ := hv
  have hx := B.exec
  have hb := B.bytes
  have hr := B.returns
  have hts := atoms_spec (ws := wsX1_fillFrom) B.pre
  have hown : s.vm.findClass RX1 = some m.cls := findClass_of_methodNamed B.named
  have hlocks := B.notSynchronized
  have FX : CallFix p m c cX1_fillFrom 3 s ([.ref (a i), .ref (a j), .int (nI b9)] : List Value).toArray wsX1_fillFrom RX1 := ⟨hx, hb, hml, hown, hts⟩
  have hl := lv_entry ([.ref (a i), .ref (a j), .int (nI b9)]) (n := 3) (Nat.le_of_ble_eq_true rfl)
  rw [lg_entry_eq]
  generalize (lg_sl ([.ref (a i), .ref (a j), .int (nI b9)]) ++ List.replicate (3 - (lg_sl ([.ref (a i), .ref (a j), .int (nI b9)])).length) Slot.unset).toArray = ls at hl ⊢
  have hl : lv_has ls 3 [(0, .ref (a i)), (1, .ref (a j)), (2, .int (nI b9))] := hl
  obtain ⟨h_l, h_n⟩ := hB
  have hdn : dj (rng a i 5) (netW G a j N) := dj_rng ha netW_in (by omega)
  have hS : va_S (rng a i 5) s.heap s.heap [] := va_S.rf
  refine lv_aload_n hx hb dX1_fillFrom_0 rfl (lv_at hl 0 rfl) ?_
  refine lv_aload_n hx hb dX1_fillFrom_1 rfl (lv_at hl 1 rfl) ?_
  refine lv_iload_n hx hb dX1_fillFrom_2 rfl (lv_at hl 2 rfl) ?_
  refine lv_iconst (v := nI 1) hx hb dX1_fillFrom_3 (by decide) ?_
  refine lv_as (y := bI True) (by decide) ?_
  refine wr_v (va_runV (As := [.ref (a j), .int (nI b9), .int (bI True)]) (rest := []) FX (c_X1_fill l G a ha i j t9 hij w0 o0 N hN b9 True) (cwV 3 hts gX1_fillFrom_X1_fill rfl rfl rfl (by decide +kernel) ⟨Nat.le_of_ble_eq_true rfl, Nat.le_of_ble_eq_true rfl⟩) (preVL hK hNW (⟨h_l, (ro hS h_n hdn)⟩) (hLow.at hS (fun q _ => rng_M q)) (va_recv hK h_l (ci := 1) (q0 := 0) rfl rfl)) rfl rfl hl.1 rfl (lv_room (Nat.le_of_ble_eq_true rfl)) dX1_fillFrom_4 ⟨Nat.le_of_ble_eq_true rfl, Nat.le_of_ble_eq_true rfl⟩) hS (rng_sub (by omega)) (fun u H locs hu9 hP9 hk1 hS => ?_)
  have h_l : PP G (lanW G a i u.1 u.2) H := hP9
  exact en_wv u hx hb hr hlocks hS (hu9) (h_l) dX1_fillFrom_7
