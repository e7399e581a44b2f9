set_option maxRecDepth 20000 in
theorem inX11_netAt_11 : ∀ w ∈ u_ws RX11 TX11 12, w ∈ wsX11_netAt := by decide +kernel
set_option maxHeartbeats 4000000 in
set_option maxRecDepth 100000 in
/-- GateLedger.netAt -/
theorem c_X11_netAt (l : Launch) (hfl : l.stackTraces = false) (G : GG) (a : Nat → Nat) (ha : Inj a) (t9 : Nat) (p9 : Int32)  : vx_Met l yX11_netAt wsX11_netAt ({ frames := 6, cells := 1, slots := 6, locals := 82 } : Room) (PcX G a t9 [.ref (a 0), .int p9] (fun H => PP G ([(a 0, .inr (11, [.ref (a 1), .ref (a 2), .ref (a 4), .ref (a 6), .ref (a 21), .ref (a 28), .ref (a 31), .ref (a 36), .ref (a 41), .ref (a 42), .ref (a 45), .ref (a 48)]))]) H ∧ PP G ([(a 1, .inl (gQ G, 4, .inr (.inr (.inr (.inr (fun z => some (a (49 + 11 * z))))))))]) H)) (va_Qr (fun _ : Nat => inBd p9 4) (fun _ ra _ => ra = a (49 + 11 * ix p9)) nA) (XQ (fun E => E = IOB ∧ ¬ inBd p9 4) (fun H => True) nA) 1 6 nA := by
  refine vx_ofW (cc := cX11_netAt) (maxL := 2) (ret := (some (.object "GateLedger$Net"))) (by decide) rfl ?_
  intro p e s m args below meth c s₁ B hml htab hv
  obtain ⟨⟨⟨rfl, hB, hK, hNW⟩, hLow⟩, hX⟩ := hv
  have hx := B.exec
  have hb := B.bytes
  have hr := B.returns
  have hts := atoms_spec (ws := wsX11_netAt) B.pre
  have hown : s.vm.findClass RX11 = some m.cls := findClass_of_methodNamed B.named
  have hlocks := B.notSynchronized
  have FX : CallFix p m c cX11_netAt 2 s ([.ref (a 0), .int p9] : List Value).toArray wsX11_netAt RX11 := ⟨hx, hb, hml, hown, hts⟩
  have hl := lv_entry ([.ref (a 0), .int p9]) (n := 2) (Nat.le_of_ble_eq_true rfl)
  rw [lg_entry_eq]
  generalize (lg_sl ([.ref (a 0), .int p9]) ++ List.replicate (2 - (lg_sl ([.ref (a 0), .int p9])).length) Slot.unset).toArray = ls at hl ⊢
  have hl : lv_has ls 2 [(0, .ref (a 0)), (1, .int p9)] := hl
  obtain ⟨h_g, h_arr⟩ := hB
  have hS : va_S nA s.heap s.heap [] := va_S.rf
  refine lv_iload_n hx hb dX11_netAt_0 rfl (lv_at hl 1 rfl) ?_
  refine lv_if_lt (tgt := 22) hx hb dX11_netAt_1 (by decide) (fun c1 => ?_) (fun c1 => ?_)
  · skip
    exact thW (a := a) (cls := IOB) (text := "no such net") (is := 273) hx hb hfl hown (by decide +kernel) (hts (.classLink RX11 206 "java/lang/IndexOutOfBoundsException") (List.mem_of_getElem? (i := 1) (by decide +kernel))) (hts (.initialized "java/lang/IndexOutOfBoundsException") (List.mem_of_getElem? (i := 2) (by decide +kernel))) hX (by decide +kernel) (ht_IOB (fun w h => hts w (List.mem_cons_of_mem _ (List.mem_append_right _ h))) hX.2.1) hg_IOB (fun _ h => h.elim) hS (hl.1.trans hml.symm) dX11_netAt_22 dX11_netAt_25 dX11_netAt_26 dX11_netAt_29 dX11_netAt_32 htab (Nat.le_of_ble_eq_true rfl) (Nat.le_of_ble_eq_true rfl) (Nat.le_of_ble_eq_true rfl) (Nat.le_of_ble_eq_true rfl) hlocks (⟨rfl, fun q => q.1 c1⟩) (fun _ _ => trivial) (Nat.le_of_ble_eq_true rfl) (Nat.le_of_ble_eq_true rfl)
  · skip
    refine lv_iload_n hx hb dX11_netAt_4 rfl (lv_at hl 1 rfl) ?_
    refine lv_aload_n hx hb dX11_netAt_5 rfl (lv_at hl 0 rfl) ?_
    refine va_get (D := G.1) (ci := 11) (v := .ref (a 1)) (C := RX11) (T := TX11) (N := 12) hx hb hts inX11_netAt_11 hown hK h_g 0 rfl rfl 0 (by decide) (hts (.fieldLink RX11 11 "GateLedger" "nets" "[LGateLedger$Net;") (List.mem_of_getElem? (i := 3) (by decide +kernel))) (fun _ h9 => h9) rfl dX11_netAt_6 ?_
    refine va_alen hx hb hK h_arr 0 2 rfl rfl (v := nI 4) rfl dX11_netAt_9 ?_
    refine lv_icmp_ge (tgt := 22) hx hb dX11_netAt_10 (by decide) (fun c10 => ?_) (fun c10 => ?_)
    · skip
      exact thW (a := a) (cls := IOB) (text := "no such net") (is := 273) hx hb hfl hown (by decide +kernel) (hts (.classLink RX11 206 "java/lang/IndexOutOfBoundsException") (List.mem_of_getElem? (i := 1) (by decide +kernel))) (hts (.initialized "java/lang/IndexOutOfBoundsException") (List.mem_of_getElem? (i := 2) (by decide +kernel))) hX (by decide +kernel) (ht_IOB (fun w h => hts w (List.mem_cons_of_mem _ (List.mem_append_right _ h))) hX.2.1) hg_IOB (fun _ h => h.elim) hS (hl.1.trans hml.symm) dX11_netAt_22 dX11_netAt_25 dX11_netAt_26 dX11_netAt_29 dX11_netAt_32 htab (Nat.le_of_ble_eq_true rfl) (Nat.le_of_ble_eq_true rfl) (Nat.le_of_ble_eq_true rfl) (Nat.le_of_ble_eq_true rfl) hlocks (⟨rfl, fun q => Int32.not_le.mpr q.2 c10⟩) (fun _ _ => trivial) (Nat.le_of_ble_eq_true rfl) (Nat.le_of_ble_eq_true rfl)
    · skip
      obtain ⟨k, hk, hpk⟩ := inBd_ex (inBd_of c1 c10) (by omega)
      rw [hpk] at hl
      refine lv_aload_n hx hb dX11_netAt_13 rfl (lv_at hl 0 rfl) ?_
      refine va_get (D := G.1) (ci := 11) (v := .ref (a 1)) (C := RX11) (T := TX11) (N := 12) hx hb hts inX11_netAt_11 hown hK h_g 0 rfl rfl 0 (by decide) (hts (.fieldLink RX11 11 "GateLedger" "nets" "[LGateLedger$Net;") (List.mem_of_getElem? (i := 3) (by decide +kernel))) (fun _ h9 => h9) rfl dX11_netAt_14 ?_
      refine lv_iload_n hx hb dX11_netAt_17 rfl (lv_at hl 1 rfl) ?_
      refine va_aldq hx hb hK h_arr 0 2 rfl rfl (vp_in_nI (by omega) (by omega)) dX11_netAt_18 ?_
      refine lv_st (st' := [.ref (a (49 + 11 * k))]) (by rw [nI_clamp (by omega)]; rfl) ?_
      refine lv_ifnonnull (tgt := 33) hx hb dX11_netAt_19 (by decide) ?_
      refine lv_aload_n hx hb dX11_netAt_33 rfl (lv_at hl 0 rfl) ?_
      refine va_get (D := G.1) (ci := 11) (v := .ref (a 1)) (C := RX11) (T := TX11) (N := 12) hx hb hts inX11_netAt_11 hown hK h_g 0 rfl rfl 0 (by decide) (hts (.fieldLink RX11 11 "GateLedger" "nets" "[LGateLedger$Net;") (List.mem_of_getElem? (i := 3) (by decide +kernel))) (fun _ h9 => h9) rfl dX11_netAt_34 ?_
      refine lv_iload_n hx hb dX11_netAt_37 rfl (lv_at hl 1 rfl) ?_
      refine va_aldq hx hb hK h_arr 0 2 rfl rfl (vp_in_nI (by omega) (by omega)) dX11_netAt_38 ?_
      refine lv_st (st' := [.ref (a (49 + 11 * k))]) (by rw [nI_clamp (by omega)]; rfl) ?_
      refine retw (Nat.le_of_ble_eq_true rfl) (Nat.le_of_ble_eq_true rfl) ?_
      exact en_r 0 hx hb hr hlocks hS (inBd_of c1 c10) (fun _ => by rw [hpk, ix_nI (by omega)]) dX11_netAt_39
set_option maxHeartbeats 4000000 in
set_option maxRecDepth 100000 in
/-- needKind -/
theorem c_X11_needKind (l : Launch) (hfl : l.stackTraces = false) (G : GG) (a : Nat → Nat) (ha : Inj a) (t9 : Nat) (p9 : Int32)  : vx_Met l yX11_needKind wsX11_needKind ({ frames := 6, cells := 1, slots := 6, locals := 82 } : Room) (PcX G a t9 [.int p9] (fun H => True)) (QV (fun _ : Unit => inBd p9 4) (fun _ _ => True) nA) (XQ (fun E => E = IOB ∧ ¬ inBd p9 4) (fun H => True) nA) 1 6 nA := by
  refine vx_ofW (cc := cX11_needKind) (maxL := 1) (ret := none) (by decide) rfl ?_
  intro p e s m args below meth c s₁ B hml htab hv
  obtain ⟨⟨⟨rfl, hB, hK, hNW⟩, hLow⟩, hX⟩ := hv
  have hx := B.exec
  have hb := B.bytes
  have hr := B.returns
  have hts := atoms_spec (ws := wsX11_needKind) B.pre
  have hown : s.vm.findClass RX11 = some m.cls := findClass_of_methodNamed B.named
  have hlocks := B.notSynchronized
  have FX : CallFix p m c cX11_needKind 1 s ([.int p9] : List Value).toArray wsX11_needKind RX11 := ⟨hx, hb, hml, hown, hts⟩
  have hl := lv_entry ([.int p9]) (n := 1) (Nat.le_of_ble_eq_true rfl)
  rw [lg_entry_eq]
  generalize (lg_sl ([.int p9]) ++ List.replicate (1 - (lg_sl ([.int p9])).length) Slot.unset).toArray = ls at hl ⊢
  have hl : lv_has ls 1 [(0, .int p9)] := hl
  have hS : va_S nA s.heap s.heap [] := va_S.rf
  refine lv_iload_n hx hb dX11_needKind_0 rfl (lv_at hl 0 rfl) ?_
  refine lv_if_lt (tgt := 9) hx hb dX11_needKind_1 (by decide) (fun c1 => ?_) (fun c1 => ?_)
  · skip
    exact thW (a := a) (cls := IOB) (text := "no such kind") (is := 275) hx hb hfl hown (by decide +kernel) (hts (.classLink RX11 206 "java/lang/IndexOutOfBoundsException") (List.mem_of_getElem? (i := 1) (by decide +kernel))) (hts (.initialized "java/lang/IndexOutOfBoundsException") (List.mem_of_getElem? (i := 2) (by decide +kernel))) hX (by decide +kernel) (ht_IOB (fun w h => hts w (List.mem_cons_of_mem _ (List.mem_append_right _ h))) hX.2.1) hg_IOB (fun _ h => h.elim) hS (hl.1.trans hml.symm) dX11_needKind_9 dX11_needKind_12 dX11_needKind_13 dX11_needKind_16 dX11_needKind_19 htab (Nat.le_of_ble_eq_true rfl) (Nat.le_of_ble_eq_true rfl) (Nat.le_of_ble_eq_true rfl) (Nat.le_of_ble_eq_true rfl) hlocks (⟨rfl, fun q => q.1 c1⟩) (fun _ _ => trivial) (Nat.le_of_ble_eq_true rfl) (Nat.le_of_ble_eq_true rfl)
  · skip
    refine lv_iload_n hx hb dX11_needKind_4 rfl (lv_at hl 0 rfl) ?_
    refine lv_iconst (v := nI 3) hx hb dX11_needKind_5 (by decide) ?_
    refine lv_icmp_le (tgt := 20) hx hb dX11_needKind_6 (by decide) (fun c6 => ?_) (fun c6 => ?_)
    · skip
      refine retw (Nat.le_of_ble_eq_true rfl) (Nat.le_of_ble_eq_true rfl) ?_
      exact en_wv () hx hb hr hlocks hS (⟨c1, le_S (by omega) c6⟩) (trivial) dX11_needKind_20
    · skip
      exact thW (a := a) (cls := IOB) (text := "no such kind") (is := 275) hx hb hfl hown (by decide +kernel) (hts (.classLink RX11 206 "java/lang/IndexOutOfBoundsException") (List.mem_of_getElem? (i := 1) (by decide +kernel))) (hts (.initialized "java/lang/IndexOutOfBoundsException") (List.mem_of_getElem? (i := 2) (by decide +kernel))) hX (by decide +kernel) (ht_IOB (fun w h => hts w (List.mem_cons_of_mem _ (List.mem_append_right _ h))) hX.2.1) hg_IOB (fun _ h => h.elim) hS (hl.1.trans hml.symm) dX11_needKind_9 dX11_needKind_12 dX11_needKind_13 dX11_needKind_16 dX11_needKind_19 htab (Nat.le_of_ble_eq_true rfl) (Nat.le_of_ble_eq_true rfl) (Nat.le_of_ble_eq_true rfl) (Nat.le_of_ble_eq_true rfl) hlocks (⟨rfl, fun q => nle_S (by omega) c6 q.2⟩) (fun _ _ => trivial) (Nat.le_of_ble_eq_true rfl) (Nat.le_of_ble_eq_true rfl)
set_option maxHeartbeats 4000000 in
set_option maxRecDepth 100000 in
/-- needGate -/
theorem c_X11_needGate (l : Launch) (hfl : l.stackTraces = false) (G : GG) (a : Nat → Nat) (ha : Inj a) (t9 : Nat) (k : Nat) (N : NT) (p9 : Int32)  : vx_Met l yX11_needGate wsX11_needGate ({ frames := 6, cells := 1, slots := 6, locals := 82 } : Room) (PcX G a t9 [.ref (a (49 + 11 * k)), .int p9] (fun H => PP G (netW G a (49 + 11 * k) N) H)) (QV (fun _ : Unit => inBd p9 (nG N)) (fun _ _ => True) nA) (XQ (fun E => E = IOB ∧ ¬ inBd p9 (nG N)) (fun H => True) nA) 1 6 nA := by
  refine vx_ofW (cc := cX11_needGate) (maxL := 2) (ret := none) (by decide) rfl ?_
  intro p e s m args below meth c s₁ B hml htab hv
  obtain ⟨⟨⟨rfl, hB, hK, hNW⟩, hLow⟩, hX⟩ := hv
  have hx := B.exec
  have hb := B.bytes
  have hr := B.returns
  have hts := atoms_spec (ws := wsX11_needGate) B.pre
  have hown : s.vm.findClass RX11 = some m.cls := findClass_of_methodNamed B.named
  have hlocks := B.notSynchronized
  have FX : CallFix p m c cX11_needGate 2 s ([.ref (a (49 + 11 * k)), .int p9] : List Value).toArray wsX11_needGate RX11 := ⟨hx, hb, hml, hown, hts⟩
  have hl := lv_entry ([.ref (a (49 + 11 * k)), .int p9]) (n := 2) (Nat.le_of_ble_eq_true rfl)
  rw [lg_entry_eq]
  generalize (lg_sl ([.ref (a (49 + 11 * k)), .int p9]) ++ List.replicate (2 - (lg_sl ([.ref (a (49 + 11 * k)), .int p9])).length) Slot.unset).toArray = ls at hl ⊢
  have hl : lv_has ls 2 [(0, .ref (a (49 + 11 * k))), (1, .int p9)] := hl
  have h_n := hB
  have hS : va_S nA s.heap s.heap [] := va_S.rf
  refine lv_aload_n hx hb dX11_needGate_0 rfl (lv_at hl 0 rfl) ?_
  refine lv_iload_n hx hb dX11_needGate_1 rfl (lv_at hl 1 rfl) ?_
  refine ro_i (va_runV (As := [.int p9]) (rest := []) FX (c_X3_has l G a (49 + 11 * k) N p9) (cwV 1 hts gX11_needGate_X3_has rfl rfl rfl (by decide +kernel) ⟨Nat.le_of_ble_eq_true rfl, Nat.le_of_ble_eq_true rfl⟩) (preV hK hNW h_n (va_recv hK h_n (ci := 3) (q0 := 0) rfl rfl)) rfl rfl hl.1 rfl (lv_room (Nat.le_of_ble_eq_true rfl)) dX11_needGate_2 ⟨Nat.le_of_ble_eq_true rfl, Nat.le_of_ble_eq_true rfl⟩) ?_
  refine lv_if_ne (tgt := 19) hx hb dX11_needGate_5 (by decide) (fun c5 => ?_) (fun c5 => ?_)
  · skip
    have c5 := bI_1 c5
    refine retw (Nat.le_of_ble_eq_true rfl) (Nat.le_of_ble_eq_true rfl) ?_
    exact en_wv () hx hb hr hlocks hS (c5) (trivial) dX11_needGate_19
  · skip
    have c5 := bI_0.mp c5
    exact thW (a := a) (cls := IOB) (text := "no such gate") (is := 281) hx hb hfl hown (by decide +kernel) (hts (.classLink RX11 206 "java/lang/IndexOutOfBoundsException") (List.mem_of_getElem? (i := 1) (by decide +kernel))) (hts (.initialized "java/lang/IndexOutOfBoundsException") (List.mem_of_getElem? (i := 2) (by decide +kernel))) hX (by decide +kernel) (ht_IOB (fun w h => hts w (List.mem_cons_of_mem _ (List.mem_append_right _ h))) hX.2.1) hg_IOB (fun _ h => h.elim) hS (hl.1.trans hml.symm) dX11_needGate_8 dX11_needGate_11 dX11_needGate_12 dX11_needGate_15 dX11_needGate_18 htab (Nat.le_of_ble_eq_true rfl) (Nat.le_of_ble_eq_true rfl) (Nat.le_of_ble_eq_true rfl) (Nat.le_of_ble_eq_true rfl) hlocks (⟨rfl, c5⟩) (fun _ _ => trivial) (Nat.le_of_ble_eq_true rfl) (Nat.le_of_ble_eq_true rfl)
set_option maxHeartbeats 4000000 in
set_option maxRecDepth 100000 in
/-- needRange -/
theorem c_X11_needRange (l : Launch) (hfl : l.stackTraces = false) (G : GG) (a : Nat → Nat) (ha : Inj a) (t9 : Nat) (p9 lo9 hi9 : Int32)  : vx_Met l yX11_needRange wsX11_needRange ({ frames := 6, cells := 1, slots := 6, locals := 82 } : Room) (PcX G a t9 [.int p9, .int lo9, .int hi9] (fun H => True)) (QV (fun _ : Unit => ¬ p9 < lo9 ∧ p9 ≤ hi9) (fun _ _ => True) nA) (XQ (fun E => E = IAE ∧ ¬ (¬ p9 < lo9 ∧ p9 ≤ hi9)) (fun H => True) nA) 1 6 nA := by
  refine vx_ofW (cc := cX11_needRange) (maxL := 3) (ret := none) (by decide) rfl ?_
  intro p e s m args below meth c s₁ B hml htab hv
  obtain ⟨⟨⟨rfl, hB, hK, hNW⟩, hLow⟩, hX⟩ := hv
  have hx := B.exec
  have hb := B.bytes
  have hr := B.returns
  have hts := atoms_spec (ws := wsX11_needRange) B.pre
  have hown : s.vm.findClass RX11 = some m.cls := findClass_of_methodNamed B.named
  have hlocks := B.notSynchronized
  have FX : CallFix p m c cX11_needRange 3 s ([.int p9, .int lo9, .int hi9] : List Value).toArray wsX11_needRange RX11 := ⟨hx, hb, hml, hown, hts⟩
  have hl := lv_entry ([.int p9, .int lo9, .int hi9]) (n := 3) (Nat.le_of_ble_eq_true rfl)
  rw [lg_entry_eq]
  generalize (lg_sl ([.int p9, .int lo9, .int hi9]) ++ List.replicate (3 - (lg_sl ([.int p9, .int lo9, .int hi9])).length) Slot.unset).toArray = ls at hl ⊢
  have hl : lv_has ls 3 [(0, .int p9), (1, .int lo9), (2, .int hi9)] := hl
  have hS : va_S nA s.heap s.heap [] := va_S.rf
  refine lv_iload_n hx hb dX11_needRange_0 rfl (lv_at hl 0 rfl) ?_
  refine lv_iload_n hx hb dX11_needRange_1 rfl (lv_at hl 1 rfl) ?_
  refine lv_icmp_lt (tgt := 10) hx hb dX11_needRange_2 (by decide) (fun c2 => ?_) (fun c2 => ?_)
  · skip
    exact thW (a := a) (cls := IAE) (text := "an argument is out of its range") (is := 285) hx hb hfl hown (by decide +kernel) (hts (.classLink RX11 283 "java/lang/IllegalArgumentException") (List.mem_of_getElem? (i := 1) (by decide +kernel))) (hts (.initialized "java/lang/IllegalArgumentException") (List.mem_of_getElem? (i := 2) (by decide +kernel))) hX (by decide +kernel) (ht_IAE (fun w h => hts w (List.mem_cons_of_mem _ (List.mem_append_right _ h))) hX.2.1) hg_IAE (fun _ h => h.elim) hS (hl.1.trans hml.symm) dX11_needRange_10 dX11_needRange_13 dX11_needRange_14 dX11_needRange_17 dX11_needRange_20 htab (Nat.le_of_ble_eq_true rfl) (Nat.le_of_ble_eq_true rfl) (Nat.le_of_ble_eq_true rfl) (Nat.le_of_ble_eq_true rfl) hlocks (⟨rfl, fun q => q.1 c2⟩) (fun _ _ => trivial) (Nat.le_of_ble_eq_true rfl) (Nat.le_of_ble_eq_true rfl)
  · skip
    refine lv_iload_n hx hb dX11_needRange_5 rfl (lv_at hl 0 rfl) ?_
    refine lv_iload_n hx hb dX11_needRange_6 rfl (lv_at hl 2 rfl) ?_
    refine lv_icmp_le (tgt := 21) hx hb dX11_needRange_7 (by decide) (fun c7 => ?_) (fun c7 => ?_)
    · skip
      refine retw (Nat.le_of_ble_eq_true rfl) (Nat.le_of_ble_eq_true rfl) ?_
      exact en_wv () hx hb hr hlocks hS (⟨c2, c7⟩) (trivial) dX11_needRange_21
    · skip
      exact thW (a := a) (cls := IAE) (text := "an argument is out of its range") (is := 285) hx hb hfl hown (by decide +kernel) (hts (.classLink RX11 283 "java/lang/IllegalArgumentException") (List.mem_of_getElem? (i := 1) (by decide +kernel))) (hts (.initialized "java/lang/IllegalArgumentException") (List.mem_of_getElem? (i := 2) (by decide +kernel))) hX (by decide +kernel) (ht_IAE (fun w h => hts w (List.mem_cons_of_mem _ (List.mem_append_right _ h))) hX.2.1) hg_IAE (fun _ h => h.elim) hS (hl.1.trans hml.symm) dX11_needRange_10 dX11_needRange_13 dX11_needRange_14 dX11_needRange_17 dX11_needRange_20 htab (Nat.le_of_ble_eq_true rfl) (Nat.le_of_ble_eq_true rfl) (Nat.le_of_ble_eq_true rfl) (Nat.le_of_ble_eq_true rfl) hlocks (⟨rfl, fun q => c7 q.2⟩) (fun _ _ => trivial) (Nat.le_of_ble_eq_true rfl) (Nat.le_of_ble_eq_true rfl)
set_option maxHeartbeats 4000000 in
set_option maxRecDepth 100000 in
/-- needTransition -/
theorem c_X11_needTransition (l : Launch) (hfl : l.stackTraces = false) (G : GG) (a : Nat → Nat) (ha : Inj a) (t9 : Nat) (f9 v9 w9 : Int32)  : vx_Met l yX11_needTransition wsX11_needTransition ({ frames := 7, cells := 3, slots := 18, locals := 104 } : Room) (PcX G a t9 [.int f9, .int v9, .int w9] (fun H => True)) (QV (fun _ : Unit => (¬ f9 < nI 0 ∧ f9 ≤ nI 1073741823) ∧ (¬ v9 < nI 0 ∧ v9 ≤ nI 1073741823) ∧ (¬ w9 < nI 0 ∧ w9 ≤ nI 2)) (fun _ _ => True) nA) (XQ (fun E => E = IAE ∧ ¬ ((¬ f9 < nI 0 ∧ f9 ≤ nI 1073741823) ∧ (¬ v9 < nI 0 ∧ v9 ≤ nI 1073741823) ∧ (¬ w9 < nI 0 ∧ w9 ≤ nI 2))) (fun H => True) nA) 3 18 nA := by
  refine vx_ofW (cc := cX11_needTransition) (maxL := 3) (ret := none) (by decide) rfl ?_
  intro p e s m args below meth c s₁ B hml htab hv
  obtain ⟨⟨⟨rfl, hB, hK, hNW⟩, hLow⟩, hX⟩ := hv
  have hx := B.exec
  have hb := B.bytes
  have hr := B.returns
  have hts := atoms_spec (ws := wsX11_needTransition) B.pre
  have hown : s.vm.findClass RX11 = some m.cls := findClass_of_methodNamed B.named
  have hlocks := B.notSynchronized
  have FX : CallFix p m c cX11_needTransition 3 s ([.int f9, .int v9, .int w9] : List Value).toArray wsX11_needTransition RX11 := ⟨hx, hb, hml, hown, hts⟩
  have hl := lv_entry ([.int f9, .int v9, .int w9]) (n := 3) (Nat.le_of_ble_eq_true rfl)
  rw [lg_entry_eq]
  generalize (lg_sl ([.int f9, .int v9, .int w9]) ++ List.replicate (3 - (lg_sl ([.int f9, .int v9, .int w9])).length) Slot.unset).toArray = ls at hl ⊢
  have hl : lv_has ls 3 [(0, .int f9), (1, .int v9), (2, .int w9)] := hl
  have hS : va_S nA s.heap s.heap [] := va_S.rf
  refine lv_iload_n hx hb dX11_needTransition_0 rfl (lv_at hl 0 rfl) ?_
  refine lv_iconst (v := nI 0) hx hb dX11_needTransition_1 (by decide) ?_
  refine lv_ldc (v := nI 1073741823) hx hb hown (hts (.constant RX11 168 (1073741823)) (List.mem_of_getElem? (i := 1) (by decide +kernel))) dX11_needTransition_2 ?_
  refine xcv (vx_runS (As := [.int f9, .int (nI 0), .int (nI 1073741823)]) (rest := []) FX (c_X11_needRange l hfl G a ha t9 f9 (nI 0) (nI 1073741823)) (va_cwS 3 hts gX11_needTransition_X11_needRange rfl rfl rfl (by decide +kernel) ⟨Nat.le_of_ble_eq_true rfl, Nat.le_of_ble_eq_true rfl⟩) (preSX hK hNW trivial (hLow.at hS (fun q9 _ q => q.elim)) (hX.at hS (fun q9 _ q => q.elim))) rfl rfl hl.1 rfl (lv_room (Nat.le_of_ble_eq_true rfl)) dX11_needTransition_4 ⟨Nat.le_of_ble_eq_true rfl, Nat.le_of_ble_eq_true rfl⟩) hS htab hlocks (fun _ _ => trivial) (fun E hE9 => ⟨hE9.1, fun q => hE9.2 q.1⟩) (Nat.le_of_ble_eq_true rfl) (Nat.le_of_ble_eq_true rfl) (fun q1 H locs hk1 hS => ?_)
  refine lv_iload_n hx hb dX11_needTransition_7 rfl (lv_at hl 1 rfl) ?_
  refine lv_iconst (v := nI 0) hx hb dX11_needTransition_8 (by decide) ?_
  refine lv_ldc (v := nI 1073741823) hx hb hown (hts (.constant RX11 168 (1073741823)) (List.mem_of_getElem? (i := 1) (by decide +kernel))) dX11_needTransition_9 ?_
  refine xcv (vx_runS (As := [.int v9, .int (nI 0), .int (nI 1073741823)]) (rest := []) FX (c_X11_needRange l hfl G a ha t9 v9 (nI 0) (nI 1073741823)) (va_cwS 3 hts gX11_needTransition_X11_needRange rfl rfl rfl (by decide +kernel) ⟨Nat.le_of_ble_eq_true rfl, Nat.le_of_ble_eq_true rfl⟩) (preSX hK hNW trivial (hLow.at hS (fun q9 _ q => q.elim)) (hX.at hS (fun q9 _ q => q.elim))) rfl rfl hl.1 rfl (lv_room (Nat.le_of_ble_eq_true rfl)) dX11_needTransition_11 ⟨Nat.le_of_ble_eq_true rfl, Nat.le_of_ble_eq_true rfl⟩) hS htab hlocks (fun _ _ => trivial) (fun E hE9 => ⟨hE9.1, fun q => hE9.2 q.2.1⟩) (Nat.le_of_ble_eq_true rfl) (Nat.le_of_ble_eq_true rfl) (fun q2 H locs hk2 hS => ?_)
  refine lv_iload_n hx hb dX11_needTransition_14 rfl (lv_at hl 2 rfl) ?_
  refine lv_iconst (v := nI 0) hx hb dX11_needTransition_15 (by decide) ?_
  refine lv_iconst (v := nI 2) hx hb dX11_needTransition_16 (by decide) ?_
  refine xcv (vx_runS (As := [.int w9, .int (nI 0), .int (nI 2)]) (rest := []) FX (c_X11_needRange l hfl G a ha t9 w9 (nI 0) (nI 2)) (va_cwS 3 hts gX11_needTransition_X11_needRange rfl rfl rfl (by decide +kernel) ⟨Nat.le_of_ble_eq_true rfl, Nat.le_of_ble_eq_true rfl⟩) (preSX hK hNW trivial (hLow.at hS (fun q9 _ q => q.elim)) (hX.at hS (fun q9 _ q => q.elim))) rfl rfl hl.1 rfl (lv_room (Nat.le_of_ble_eq_true rfl)) dX11_needTransition_17 ⟨Nat.le_of_ble_eq_true rfl, Nat.le_of_ble_eq_true rfl⟩) hS htab hlocks (fun _ _ => trivial) (fun E hE9 => ⟨hE9.1, fun q => hE9.2 q.2.2⟩) (Nat.le_of_ble_eq_true rfl) (Nat.le_of_ble_eq_true rfl) (fun q3 H locs hk3 hS => ?_)
  refine retw (Nat.le_of_ble_eq_true rfl) (Nat.le_of_ble_eq_true rfl) ?_
  exact en_wv () hx hb hr hlocks hS (⟨q1, q2, q3⟩) (trivial) dX11_needTransition_20
set_option maxHeartbeats 4000000 in
set_option maxRecDepth 100000 in
/-- needNoGates -/
theorem c_X11_needNoGates (l : Launch) (hfl : l.stackTraces = false) (G : GG) (a : Nat → Nat) (ha : Inj a) (t9 : Nat) (k : Nat) (N : NT) (hN : WF N)  : vx_Met l yX11_needNoGates wsX11_needNoGates ({ frames := 6, cells := 1, slots := 6, locals := 82 } : Room) (PcX G a t9 [.ref (a (49 + 11 * k))] (fun H => PP G (netW G a (49 + 11 * k) N) H)) (QV (fun _ : Unit => nG N = 0) (fun _ _ => True) nA) (XQ (fun E => E = ISE ∧ ¬ nG N = 0) (fun H => True) nA) 1 6 nA := by
  refine vx_ofW (cc := cX11_needNoGates) (maxL := 1) (ret := none) (by decide) rfl ?_
  intro p e s m args below meth c s₁ B hml htab hv
  obtain ⟨⟨⟨rfl, hB, hK, hNW⟩, hLow⟩, hX⟩ := hv
  have hx := B.exec
  have hb := B.bytes
  have hr := B.returns
  have hts := atoms_spec (ws := wsX11_needNoGates) B.pre
  have hown : s.vm.findClass RX11 = some m.cls := findClass_of_methodNamed B.named
  have hlocks := B.notSynchronized
  have FX : CallFix p m c cX11_needNoGates 1 s ([.ref (a (49 + 11 * k))] : List Value).toArray wsX11_needNoGates RX11 := ⟨hx, hb, hml, hown, hts⟩
  have hl := lv_entry ([.ref (a (49 + 11 * k))]) (n := 1) (Nat.le_of_ble_eq_true rfl)
  rw [lg_entry_eq]
  generalize (lg_sl ([.ref (a (49 + 11 * k))]) ++ List.replicate (1 - (lg_sl ([.ref (a (49 + 11 * k))])).length) Slot.unset).toArray = ls at hl ⊢
  have hl : lv_has ls 1 [(0, .ref (a (49 + 11 * k)))] := hl
  have h_n := hB
  have hS : va_S nA s.heap s.heap [] := va_S.rf
  have hg9 := hN.g
  refine lv_aload_n hx hb dX11_needNoGates_0 rfl (lv_at hl 0 rfl) ?_
  refine ro_i (va_runV (As := []) (rest := []) FX (c_X3_size l G a (49 + 11 * k) N) (cwV 0 hts gX11_needNoGates_X3_size rfl rfl rfl (by decide +kernel) ⟨Nat.le_of_ble_eq_true rfl, Nat.le_of_ble_eq_true rfl⟩) (preV hK hNW h_n (va_recv hK h_n (ci := 3) (q0 := 0) rfl rfl)) rfl rfl hl.1 rfl (lv_room (Nat.le_of_ble_eq_true rfl)) dX11_needNoGates_1 ⟨Nat.le_of_ble_eq_true rfl, Nat.le_of_ble_eq_true rfl⟩) ?_
  refine lv_if_le (tgt := 18) hx hb dX11_needNoGates_4 (by decide) (fun c4 => ?_) (fun c4 => ?_)
  · skip
    have c4 := cv_le (by omega) (by omega) (show nI (nG N) ≤ nI 0 from c4)
    refine retw (Nat.le_of_ble_eq_true rfl) (Nat.le_of_ble_eq_true rfl) ?_
    exact en_wv () hx hb hr hlocks hS (by omega) (trivial) dX11_needNoGates_18
  · skip
    have c4 := cv_nle (by omega) (by omega) (show ¬ nI (nG N) ≤ nI 0 from c4)
    exact thW (a := a) (cls := ISE) (text := "the net has gates") (is := 288) hx hb hfl hown (by decide +kernel) (hts (.classLink RX11 103 "java/lang/IllegalStateException") (List.mem_of_getElem? (i := 1) (by decide +kernel))) (hts (.initialized "java/lang/IllegalStateException") (List.mem_of_getElem? (i := 2) (by decide +kernel))) hX (by decide +kernel) (ht_ISE (fun w h => hts w (List.mem_cons_of_mem _ (List.mem_append_right _ h))) hX.2.1) hg_ISE (fun _ h => h.elim) hS (hl.1.trans hml.symm) dX11_needNoGates_7 dX11_needNoGates_10 dX11_needNoGates_11 dX11_needNoGates_14 dX11_needNoGates_17 htab (Nat.le_of_ble_eq_true rfl) (Nat.le_of_ble_eq_true rfl) (Nat.le_of_ble_eq_true rfl) (Nat.le_of_ble_eq_true rfl) hlocks (⟨rfl, fun q => by omega⟩) (fun _ _ => trivial) (Nat.le_of_ble_eq_true rfl) (Nat.le_of_ble_eq_true rfl)
set_option maxHeartbeats 4000000 in
set_option maxRecDepth 100000 in
/-- needTwoOperands -/
theorem c_X11_needTwoOperands (l : Launch) (hfl : l.stackTraces = false) (G : GG) (a : Nat → Nat) (ha : Inj a) (t9 : Nat) (k : Nat) (N : NT) (hin : nIn N ≤ 30)  : vx_Met l yX11_needTwoOperands wsX11_needTwoOperands ({ frames := 6, cells := 1, slots := 6, locals := 82 } : Room) (PcX G a t9 [.ref (a (49 + 11 * k))] (fun H => PP G (netW G a (49 + 11 * k) N) H)) (QV (fun _ : Unit => 2 ≤ nIn N ∧ nIn N ≤ 12 ∧ nIn N % 2 = 0) (fun _ _ => True) nA) (XQ (fun E => E = ISE ∧ ¬ (2 ≤ nIn N ∧ nIn N ≤ 12 ∧ nIn N % 2 = 0)) (fun H => True) nA) 1 6 nA := by
  refine vx_ofW (cc := cX11_needTwoOperands) (maxL := 2) (ret := none) (by decide) rfl ?_
  intro p e s m args below meth c s₁ B hml htab hv
  obtain ⟨⟨⟨rfl, hB, hK, hNW⟩, hLow⟩, hX⟩ := hv
  have hx := B.exec
  have hb := B.bytes
  have hr := B.returns
  have hts := atoms_spec (ws := wsX11_needTwoOperands) B.pre
  have hown : s.vm.findClass RX11 = some m.cls := findClass_of_methodNamed B.named
  have hlocks := B.notSynchronized
  have FX : CallFix p m c cX11_needTwoOperands 2 s ([.ref (a (49 + 11 * k))] : List Value).toArray wsX11_needTwoOperands RX11 := ⟨hx, hb, hml, hown, hts⟩
  have hl := lv_entry ([.ref (a (49 + 11 * k))]) (n := 2) (Nat.le_of_ble_eq_true rfl)
  rw [lg_entry_eq]
  generalize (lg_sl ([.ref (a (49 + 11 * k))]) ++ List.replicate (2 - (lg_sl ([.ref (a (49 + 11 * k))])).length) Slot.unset).toArray = ls at hl ⊢
  have hl : lv_has ls 2 [(0, .ref (a (49 + 11 * k)))] := hl
  have h_n := hB
  have hS : va_S nA s.heap s.heap [] := va_S.rf
  refine lv_aload_n hx hb dX11_needTwoOperands_0 rfl (lv_at hl 0 rfl) ?_
  refine ro_i (va_runV (As := []) (rest := []) FX (c_X3_inputCount l G a (49 + 11 * k) N) (cwV 0 hts gX11_needTwoOperands_X3_inputCount rfl rfl rfl (by decide +kernel) ⟨Nat.le_of_ble_eq_true rfl, Nat.le_of_ble_eq_true rfl⟩) (preV hK hNW h_n (va_recv hK h_n (ci := 3) (q0 := 0) rfl rfl)) rfl rfl hl.1 rfl (lv_room (Nat.le_of_ble_eq_true rfl)) dX11_needTwoOperands_1 ⟨Nat.le_of_ble_eq_true rfl, Nat.le_of_ble_eq_true rfl⟩) ?_
  refine lv_istore_n (lv' := [(1, .int (nI (nIn N))), (0, .ref (a (49 + 11 * k)))]) hx hb dX11_needTwoOperands_4 rfl hl (by decide) rfl (fun ls hl => ?_)
  refine lv_iload_n hx hb dX11_needTwoOperands_5 rfl (lv_at hl 0 rfl) ?_
  refine lv_iconst (v := nI 2) hx hb dX11_needTwoOperands_6 (by decide) ?_
  refine lv_icmp_lt (tgt := 22) hx hb dX11_needTwoOperands_7 (by decide) (fun c7 => ?_) (fun c7 => ?_)
  · skip
    have c7 := cv_lt (by omega) (by omega) c7
    exact thW (a := a) (cls := ISE) (text := "the inputs of the net are not two operands") (is := 290) hx hb hfl hown (by decide +kernel) (hts (.classLink RX11 103 "java/lang/IllegalStateException") (List.mem_of_getElem? (i := 1) (by decide +kernel))) (hts (.initialized "java/lang/IllegalStateException") (List.mem_of_getElem? (i := 2) (by decide +kernel))) hX (by decide +kernel) (ht_ISE (fun w h => hts w (List.mem_cons_of_mem _ (List.mem_append_right _ h))) hX.2.1) hg_ISE (fun _ h => h.elim) hS (hl.1.trans hml.symm) dX11_needTwoOperands_22 dX11_needTwoOperands_25 dX11_needTwoOperands_26 dX11_needTwoOperands_29 dX11_needTwoOperands_32 htab (Nat.le_of_ble_eq_true rfl) (Nat.le_of_ble_eq_true rfl) (Nat.le_of_ble_eq_true rfl) (Nat.le_of_ble_eq_true rfl) hlocks (⟨rfl, fun q => by omega⟩) (fun _ _ => trivial) (Nat.le_of_ble_eq_true rfl) (Nat.le_of_ble_eq_true rfl)
  · skip
    have c7 := cv_nlt (by omega) (by omega) c7
    refine lv_iload_n hx hb dX11_needTwoOperands_10 rfl (lv_at hl 0 rfl) ?_
    refine lv_bipush (v := nI 12) hx hb dX11_needTwoOperands_11 (by decide) ?_
    refine lv_icmp_gt (tgt := 22) hx hb dX11_needTwoOperands_13 (by decide) (fun c13 => ?_) (fun c13 => ?_)
    · skip
      have c13 := cv_lt (by omega) (by omega) c13
      exact thW (a := a) (cls := ISE) (text := "the inputs of the net are not two operands") (is := 290) hx hb hfl hown (by decide +kernel) (hts (.classLink RX11 103 "java/lang/IllegalStateException") (List.mem_of_getElem? (i := 1) (by decide +kernel))) (hts (.initialized "java/lang/IllegalStateException") (List.mem_of_getElem? (i := 2) (by decide +kernel))) hX (by decide +kernel) (ht_ISE (fun w h => hts w (List.mem_cons_of_mem _ (List.mem_append_right _ h))) hX.2.1) hg_ISE (fun _ h => h.elim) hS (hl.1.trans hml.symm) dX11_needTwoOperands_22 dX11_needTwoOperands_25 dX11_needTwoOperands_26 dX11_needTwoOperands_29 dX11_needTwoOperands_32 htab (Nat.le_of_ble_eq_true rfl) (Nat.le_of_ble_eq_true rfl) (Nat.le_of_ble_eq_true rfl) (Nat.le_of_ble_eq_true rfl) hlocks (⟨rfl, fun q => by omega⟩) (fun _ _ => trivial) (Nat.le_of_ble_eq_true rfl) (Nat.le_of_ble_eq_true rfl)
    · skip
      have c13 := cv_nlt (by omega) (by omega) c13
      refine lv_iload_n hx hb dX11_needTwoOperands_16 rfl (lv_at hl 0 rfl) ?_
      refine lv_iconst (v := nI 1) hx hb dX11_needTwoOperands_17 (by decide) ?_
      refine lv_iand hx hb dX11_needTwoOperands_18 ?_
      refine lv_as (y := nI (nIn N % 2)) (and1 (by omega)) ?_
      refine lv_if_eq (tgt := 33) hx hb dX11_needTwoOperands_19 (by decide) (fun c19 => ?_) (fun c19 => ?_)
      · skip
        have c19 := cv_eq (by omega) (by omega) (show nI (nIn N % 2) = nI 0 from c19)
        refine retw (Nat.le_of_ble_eq_true rfl) (Nat.le_of_ble_eq_true rfl) ?_
        exact en_wv () hx hb hr hlocks hS (by omega) (trivial) dX11_needTwoOperands_33
      · skip
        have c19 := cv_ne (by omega) (by omega) (show ¬ nI (nIn N % 2) = nI 0 from c19)
        exact thW (a := a) (cls := ISE) (text := "the inputs of the net are not two operands") (is := 290) hx hb hfl hown (by decide +kernel) (hts (.classLink RX11 103 "java/lang/IllegalStateException") (List.mem_of_getElem? (i := 1) (by decide +kernel))) (hts (.initialized "java/lang/IllegalStateException") (List.mem_of_getElem? (i := 2) (by decide +kernel))) hX (by decide +kernel) (ht_ISE (fun w h => hts w (List.mem_cons_of_mem _ (List.mem_append_right _ h))) hX.2.1) hg_ISE (fun _ h => h.elim) hS (hl.1.trans hml.symm) dX11_needTwoOperands_22 dX11_needTwoOperands_25 dX11_needTwoOperands_26 dX11_needTwoOperands_29 dX11_needTwoOperands_32 htab (Nat.le_of_ble_eq_true rfl) (Nat.le_of_ble_eq_true rfl) (Nat.le_of_ble_eq_true rfl) (Nat.le_of_ble_eq_true rfl) hlocks (⟨rfl, fun q => by omega⟩) (fun _ _ => trivial) (Nat.le_of_ble_eq_true rfl) (Nat.le_of_ble_eq_true rfl)
