set_option maxRecDepth 20000 in
theorem inX11_areaOf_11 : ∀ w ∈ u_ws RX11 TX11 12, w ∈ wsX11_areaOf := by decide +kernel
set_option maxHeartbeats 4000000 in
set_option maxRecDepth 100000 in
/-- areaOf -/
theorem c_X11_areaOf (l : Launch) (G : GG) (a : Nat → Nat) (p9 : Int32) (ar : Nat → Nat) (N : NT) (hN : WF N)  : Met l yX11_areaOf wsX11_areaOf ({ frames := 2, cells := 0, slots := 0, locals := 42 } : Room) (PcB G [.ref (a 0), .ref (a (49 + 11 * ix p9))] (fun H => PP G ([(a 0, .inr (11, [.ref (a 1), .ref (a 2), .ref (a 4), .ref (a 6), .ref (a 21), .ref (a 28), .ref (a 31), .ref (a 36), .ref (a 41), .ref (a 42), .ref (a 45), .ref (a 48)]))]) H ∧ PP G (rowW G a 4 4 (fun z => nI (ar z))) H ∧ PP G (netW G a (49 + 11 * ix p9) N) H)) (vp_Si (fun r => r = nI (arT N ar (nG N)))) 0 0 (fun _ => False) := by
  refine Met.ofW (cc := cX11_areaOf) (maxL := 4) (ret := (some .int)) (by decide) rfl ?_
  intro p e s m args below meth c s₁ B hml hv
  obtain ⟨rfl, hB, hK, hNW⟩ := hv
  have hx := B.exec
  have hb := B.bytes
  have hr := B.returns
  have hts := atoms_spec (ws := wsX11_areaOf) B.pre
  have hown : s.vm.findClass RX11 = some m.cls := findClass_of_methodNamed B.named
  have hlocks := B.notSynchronized
  have FX : CallFix p m c cX11_areaOf 4 s ([.ref (a 0), .ref (a (49 + 11 * ix p9))] : List Value).toArray wsX11_areaOf RX11 := ⟨hx, hb, hml, hown, hts⟩
  have hl := lv_entry ([.ref (a 0), .ref (a (49 + 11 * ix p9))]) (n := 4) (Nat.le_of_ble_eq_true rfl)
  rw [lg_entry_eq]
  generalize (lg_sl ([.ref (a 0), .ref (a (49 + 11 * ix p9))]) ++ List.replicate (4 - (lg_sl ([.ref (a 0), .ref (a (49 + 11 * ix p9))])).length) Slot.unset).toArray = ls at hl ⊢
  have hl : lv_has ls 4 [(0, .ref (a 0)), (1, .ref (a (49 + 11 * ix p9)))] := hl
  obtain ⟨h_g, h_r, h_n⟩ := hB
  have hg9 := hN.g
  refine lv_iconst (v := nI 0) hx hb dX11_areaOf_0 (by decide) ?_
  refine lv_istore_n (lv' := [(2, .int (nI 0)), (0, .ref (a 0)), (1, .ref (a (49 + 11 * ix p9)))]) hx hb dX11_areaOf_1 rfl hl (by decide) rfl (fun ls hl => ?_)
  refine lv_iconst (v := nI 0) hx hb dX11_areaOf_2 (by decide) ?_
  refine lv_istore_n (lv' := [(3, .int (nI 0)), (2, .int (nI 0)), (0, .ref (a 0)), (1, .ref (a (49 + 11 * ix p9)))]) hx hb dX11_areaOf_3 rfl hl (by decide) rfl (fun ls hl => ?_)
  refine lv_loop1 4 (fun (k : Nat) => nG N - k) (fun (k : Nat) (H : Heap) (locs : List Loc) (ls : Array Slot) => (H = s.heap) ∧ (locs = []) ∧ (lv_has ls 4 [(0, .ref (a 0)), (1, .ref (a (49 + 11 * ix p9))), (2, .int (nI (arT N ar k))), (3, .int (nI k))]) ∧ (k ≤ nG N)) (fun _ => []) (fun k H locs ls hI ih => ?_) 0 ⟨rfl, rfl, lv_sub hl [2, 3, 1, 0] rfl, by omega⟩ rfl
  obtain ⟨rfl, rfl, hl, hk⟩ := hI
  have ih1 := @ih
  clear ih
  refine lv_iload_n hx hb dX11_areaOf_4 rfl (lv_at hl 3 rfl) ?_
  refine lv_aload_n hx hb dX11_areaOf_5 rfl (lv_at hl 1 rfl) ?_
  refine ro_i (va_runV (As := []) (rest := [.int (nI k)]) FX (c_X3_size l G a (49 + 11 * ix p9) N) (cwV 0 hts gX11_areaOf_X3_size rfl rfl rfl (by decide +kernel) ⟨Nat.le_of_ble_eq_true rfl, Nat.le_of_ble_eq_true rfl⟩) (preV hK hNW h_n (va_recv hK h_n (ci := 3) (q0 := 0) rfl rfl)) rfl rfl hl.1 rfl (lv_room (Nat.le_of_ble_eq_true rfl)) dX11_areaOf_6 ⟨Nat.le_of_ble_eq_true rfl, Nat.le_of_ble_eq_true rfl⟩) ?_
  refine lv_icmp_ge (tgt := 41) hx hb dX11_areaOf_9 (by decide) (fun c9 => ?_) (fun c9 => ?_)
  · skip
    have c9 := cv_le (by omega) (by omega) c9
    refine lv_iload_n hx hb dX11_areaOf_41 rfl (lv_at hl 2 rfl) ?_
    exact en_i hx hb hr hlocks (by rw [show k = nG N by omega]) dX11_areaOf_42
  · skip
    have c9 := cv_nle (by omega) (by omega) c9
    have hk4 := hN.k c9
    refine lv_lab0 35 (fun (H : Heap) (locs : List Loc) (ls : Array Slot) => (H = s.heap) ∧ (locs = []) ∧ (lv_has ls 4 [(0, .ref (a 0)), (1, .ref (a (49 + 11 * ix p9))), (2, .int (nI (arT N ar (k + 1)))), (3, .int (nI k))])) ([]) (fun H locs ls hI => ?_) (fun lab2 => ?_)
    · skip
      obtain ⟨rfl, rfl, hl⟩ := hI
      refine lv_iinc (v := nI (k + 1)) (lv' := [(3, .int (nI (k + 1))), (0, .ref (a 0)), (1, .ref (a (49 + 11 * ix p9))), (2, .int (nI (arT N ar (k + 1))))]) hx hb dX11_areaOf_35 hl (k := 3) rfl (by first | exact nI_add _ 1 | decide) (by decide) rfl (fun ls hl => ?_)
      refine lv_goto (tgt := 4) hx hb dX11_areaOf_38 (by decide) ?_
      exact ih1 (k + 1) _ _ _ ⟨rfl, rfl, lv_sub hl [1, 2, 3, 0] rfl, by omega⟩ (by show nG N - (k + 1) < nG N - k; omega)
    refine lv_aload_n hx hb dX11_areaOf_12 rfl (lv_at hl 1 rfl) ?_
    refine lv_iload_n hx hb dX11_areaOf_13 rfl (lv_at hl 3 rfl) ?_
    refine ro_i (va_runV (As := [.int (nI k)]) (rest := []) FX (c_X3_isInput l G a (49 + 11 * ix p9) N hN k c9) (cwV 1 hts gX11_areaOf_X3_isInput rfl rfl rfl (by decide +kernel) ⟨Nat.le_of_ble_eq_true rfl, Nat.le_of_ble_eq_true rfl⟩) (preV hK hNW h_n (va_recv hK h_n (ci := 3) (q0 := 0) rfl rfl)) rfl rfl hl.1 rfl (lv_room (Nat.le_of_ble_eq_true rfl)) dX11_areaOf_14 ⟨Nat.le_of_ble_eq_true rfl, Nat.le_of_ble_eq_true rfl⟩) ?_
    refine lv_if_ne (tgt := 35) hx hb dX11_areaOf_17 (by decide) (fun c17 => ?_) (fun c17 => ?_)
    · skip
      have c17 := bI_1 c17
      exact lab2  _ _ _ ⟨rfl, rfl, by rw [ar_in c17]; exact lv_sub hl [0, 1, 2, 3] rfl⟩
    · skip
      have c17 := bI_0.mp c17
      refine lv_iload_n hx hb dX11_areaOf_20 rfl (lv_at hl 2 rfl) ?_
      refine lv_aload_n hx hb dX11_areaOf_21 rfl (lv_at hl 0 rfl) ?_
      refine va_get (D := G.1) (ci := 11) (v := .ref (a 4)) (C := RX11) (T := TX11) (N := 12) hx hb hts inX11_areaOf_11 hown hK h_g 0 rfl rfl 2 (by decide) (hts (.fieldLink RX11 24 "GateLedger" "areas" "LGateLedger$Row;") (List.mem_of_getElem? (i := 1) (by decide +kernel))) (fun _ h9 => h9) rfl dX11_areaOf_22 ?_
      refine lv_aload_n hx hb dX11_areaOf_25 rfl (lv_at hl 1 rfl) ?_
      refine lv_iload_n hx hb dX11_areaOf_26 rfl (lv_at hl 3 rfl) ?_
      refine ro_i (va_runV (As := [.int (nI k)]) (rest := [.ref (a 4), .int (nI (arT N ar k))]) FX (c_X3_kindOf l G a (49 + 11 * ix p9) N hN k c9) (cwV 1 hts gX11_areaOf_X3_kindOf rfl rfl rfl (by decide +kernel) ⟨Nat.le_of_ble_eq_true rfl, Nat.le_of_ble_eq_true rfl⟩) (preV hK hNW h_n (va_recv hK h_n (ci := 3) (q0 := 0) rfl rfl)) rfl rfl hl.1 rfl (lv_room (Nat.le_of_ble_eq_true rfl)) dX11_areaOf_27 ⟨Nat.le_of_ble_eq_true rfl, Nat.le_of_ble_eq_true rfl⟩) ?_
      refine ro_i (va_runV (As := [.int (nI (nK N k))]) (rest := [.int (nI (arT N ar k))]) FX (c_X4_at l G a 4 4 (fun z => nI (ar z)) (nI (nK N k)) (by decide)) (cwV 1 hts gX11_areaOf_X4_at rfl rfl rfl (by decide +kernel) ⟨Nat.le_of_ble_eq_true rfl, Nat.le_of_ble_eq_true rfl⟩) (preV hK hNW (va_P.sub h_r [0, 1] rfl) (va_recv hK h_r (ci := 4) (q0 := 0) rfl rfl)) rfl rfl hl.1 rfl (lv_room (Nat.le_of_ble_eq_true rfl)) dX11_areaOf_30 ⟨Nat.le_of_ble_eq_true rfl, Nat.le_of_ble_eq_true rfl⟩) ?_
      refine lv_as (y := nI (ar (nK N k))) (rowAt_in (by omega) (by decide)) ?_
      refine lv_iadd hx hb dX11_areaOf_33 ?_
      refine lv_as (nI_add _ _) ?_
      refine lv_istore_n (lv' := [(2, .int (nI ((arT N ar k) + (ar (nK N k))))), (0, .ref (a 0)), (1, .ref (a (49 + 11 * ix p9))), (3, .int (nI k))]) hx hb dX11_areaOf_34 rfl hl (by decide) rfl (fun ls hl => ?_)
      exact lab2  _ _ _ ⟨rfl, rfl, by rw [ar_gt c17]; exact lv_sub hl [1, 2, 0, 3] rfl⟩
set_option maxRecDepth 20000 in
theorem inX11_ofNet_11 : ∀ w ∈ u_ws RX11 TX11 12, w ∈ wsX11_ofNet := by decide +kernel
set_option maxHeartbeats 4000000 in
set_option maxRecDepth 100000 in
/-- ofNet -/
theorem c_X11_ofNet (l : Launch) (hfl : l.stackTraces = false) (G : GG) (a : Nat → Nat) (ha : Inj a) (t9 : Nat) (Ns : Nat → NT) (dl : Nat → Nat) (hd : DL dl) (ar : Nat → Nat) (m7 b7 ld : Nat → Int32) (x0 : Int32) (f0 : Nat → Int32) (p9 w9 : Int32) (hW : ∀ z, z < 4 → WF (Ns z))  : vx_Met l yX11_ofNet wsX11_ofNet ({ frames := 7, cells := 2, slots := 12, locals := 104 } : Room) (PcX G a t9 [.ref (a 0), .int p9, .int w9] (fun H => PP G ([(a 0, .inr (11, [.ref (a 1), .ref (a 2), .ref (a 4), .ref (a 6), .ref (a 21), .ref (a 28), .ref (a 31), .ref (a 36), .ref (a 41), .ref (a 42), .ref (a 45), .ref (a 48)]))]) H ∧ PP G ([(a 1, .inl (gQ G, 4, .inr (.inr (.inr (.inr (fun z => some (a (49 + 11 * z))))))))]) H ∧ PP G (rowW G a 2 4 (fun z => nI (dl z))) H ∧ PP G (rowW G a 4 4 (fun z => nI (ar z))) H ∧ PP G (wirW G a 21 m7 b7 ld) H ∧ PP G (timW G a 28 x0 f0) H ∧ NSP G a Ns H)) (QI (fun (r : Int32) (_ : (Nat → Int32) × (Nat → Int32) × (Nat → Int32) × Int32 × (Nat → Int32)) => cOf p9 w9 = 0 ∧ r = ofV (Ns (ix p9)) dl ar (ix w9)) (fun u H => PP G ([(a 0, .inr (11, [.ref (a 1), .ref (a 2), .ref (a 4), .ref (a 6), .ref (a 21), .ref (a 28), .ref (a 31), .ref (a 36), .ref (a 41), .ref (a 42), .ref (a 45), .ref (a 48)]))]) H ∧ PP G ([(a 1, .inl (gQ G, 4, .inr (.inr (.inr (.inr (fun z => some (a (49 + 11 * z))))))))]) H ∧ PP G (rowW G a 2 4 (fun z => nI (dl z))) H ∧ PP G (rowW G a 4 4 (fun z => nI (ar z))) H ∧ PP G (wirW G a 21 u.1 u.2.1 u.2.2.1) H ∧ PP G (timW G a 28 u.2.2.2.1 u.2.2.2.2) H ∧ NSP G a Ns H) (rng a 21 10)) (XQ (XE (cOf p9 w9)) (fun H => PP G ([(a 0, .inr (11, [.ref (a 1), .ref (a 2), .ref (a 4), .ref (a 6), .ref (a 21), .ref (a 28), .ref (a 31), .ref (a 36), .ref (a 41), .ref (a 42), .ref (a 45), .ref (a 48)]))]) H ∧ PP G ([(a 1, .inl (gQ G, 4, .inr (.inr (.inr (.inr (fun z => some (a (49 + 11 * z))))))))]) H ∧ PP G (rowW G a 2 4 (fun z => nI (dl z))) H ∧ PP G (rowW G a 4 4 (fun z => nI (ar z))) H ∧ PP G (wirW G a 21 m7 b7 ld) H ∧ PP G (timW G a 28 x0 f0) H ∧ NSP G a Ns H) (rng a 21 10)) 2 12 (rng a 21 10) := by
  refine vx_ofW (cc := cX11_ofNet) (maxL := 4) (ret := (some .int)) (by decide) rfl ?_
  intro p e s m args below meth c s₁ B hml htab hv
  obtain ⟨⟨⟨rfl, hB, hK, hNW⟩, hLow⟩, hX⟩ := hv
  have hx := B.exec
  have hb := B.bytes
  have hr := B.returns
  have hts := atoms_spec (ws := wsX11_ofNet) B.pre
  have hown : s.vm.findClass RX11 = some m.cls := findClass_of_methodNamed B.named
  have hlocks := B.notSynchronized
  have FX : CallFix p m c cX11_ofNet 4 s ([.ref (a 0), .int p9, .int w9] : List Value).toArray wsX11_ofNet RX11 := ⟨hx, hb, hml, hown, hts⟩
  have hl := lv_entry ([.ref (a 0), .int p9, .int w9]) (n := 4) (Nat.le_of_ble_eq_true rfl)
  rw [lg_entry_eq]
  generalize (lg_sl ([.ref (a 0), .int p9, .int w9]) ++ List.replicate (4 - (lg_sl ([.ref (a 0), .int p9, .int w9])).length) Slot.unset).toArray = ls at hl ⊢
  have hl : lv_has ls 4 [(0, .ref (a 0)), (1, .int p9), (2, .int w9)] := hl
  obtain ⟨h_g, h_arr, h_d, h_r, h_w, h_t, hns⟩ := hB
  have hS : va_S (rng a 21 10) s.heap s.heap [] := va_S.rf
  refine lv_aload_n hx hb dX11_ofNet_0 rfl (lv_at hl 0 rfl) ?_
  refine lv_iload_n hx hb dX11_ofNet_1 rfl (lv_at hl 1 rfl) ?_
  refine xcr (vx_runV (As := [.int p9]) (rest := []) FX (c_X11_netAt l hfl G a ha t9 p9) (cwV 1 hts gX11_ofNet_X11_netAt rfl rfl rfl (by decide +kernel) ⟨Nat.le_of_ble_eq_true rfl, Nat.le_of_ble_eq_true rfl⟩) (preVX hK hNW (⟨h_g, h_arr⟩) (hLow.at hS (fun q9 _ q => rng_M q9 q)) (hX.at hS (fun q9 _ q => rng_M q9 q)) (va_recv hK h_g (ci := 11) (q0 := 0) rfl rfl)) rfl rfl hl.1 rfl (lv_room (Nat.le_of_ble_eq_true rfl)) dX11_ofNet_2 ⟨Nat.le_of_ble_eq_true rfl, Nat.le_of_ble_eq_true rfl⟩) hS htab hlocks (fun H1 hk9 => ⟨kpF hk9 h_g, kpF hk9 h_arr, kpF hk9 h_d, kpF hk9 h_r, kpF hk9 h_w, kpF hk9 h_t, fun z hz => kpF hk9 (hns z hz)⟩) (fun E hE9 => XE_1 hE9.1 (if_neg hE9.2)) (Nat.le_of_ble_eq_true rfl) (Nat.le_of_ble_eq_true rfl) (fun _ hc0 H locs hk1 hS => ?_)
  have h_g : PP G ([(a 0, .inr (11, [.ref (a 1), .ref (a 2), .ref (a 4), .ref (a 6), .ref (a 21), .ref (a 28), .ref (a 31), .ref (a 36), .ref (a 41), .ref (a 42), .ref (a 45), .ref (a 48)]))]) H := kpF hk1 h_g
  have h_arr : PP G ([(a 1, .inl (gQ G, 4, .inr (.inr (.inr (.inr (fun z => some (a (49 + 11 * z))))))))]) H := kpF hk1 h_arr
  have h_d : PP G (rowW G a 2 4 (fun z => nI (dl z))) H := kpF hk1 h_d
  have h_r : PP G (rowW G a 4 4 (fun z => nI (ar z))) H := kpF hk1 h_r
  have h_w : PP G (wirW G a 21 m7 b7 ld) H := kpF hk1 h_w
  have h_t : PP G (timW G a 28 x0 f0) H := kpF hk1 h_t
  have hns : NSP G a Ns H := fun z hz => kpF hk1 (hns z hz)
  have hk4 := ix_lt hc0 (by omega)
  have h_f : PP G (famW G a Ns (ix p9)) H := fam_split hns
  have h_n : PP G (netW G a (49 + 11 * ix p9) (Ns (ix p9))) H := hns _ hk4
  have hN := hW _ hk4
  have hg9 := hN.g
  have ho9 := hN.o
  have hi9 := hN.2.1
  refine lv_astore_n (lv' := [(3, .ref (a (49 + 11 * ix p9))), (0, .ref (a 0)), (1, .int p9), (2, .int w9)]) hx hb dX11_ofNet_5 rfl hl (by decide) rfl (fun ls hl => ?_)
  refine lv_iload_n hx hb dX11_ofNet_6 rfl (lv_at hl 3 rfl) ?_
  refine lv_iconst (v := nI 0) hx hb dX11_ofNet_7 (by decide) ?_
  refine lv_bipush (v := nI 6) hx hb dX11_ofNet_8 (by decide) ?_
  refine xcv (vx_runS (As := [.int w9, .int (nI 0), .int (nI 6)]) (rest := []) FX (c_X11_needRange l hfl G a ha t9 w9 (nI 0) (nI 6)) (va_cwS 3 hts gX11_ofNet_X11_needRange rfl rfl rfl (by decide +kernel) ⟨Nat.le_of_ble_eq_true rfl, Nat.le_of_ble_eq_true rfl⟩) (preSX hK hNW trivial (hLow.at hS (fun q9 _ q => rng_M q9 q)) (hX.at hS (fun q9 _ q => rng_M q9 q))) rfl rfl hl.1 rfl (lv_room (Nat.le_of_ble_eq_true rfl)) dX11_ofNet_10 ⟨Nat.le_of_ble_eq_true rfl, Nat.le_of_ble_eq_true rfl⟩) hS htab hlocks (fun H1 hk9 => ⟨kpF hk9 h_g, kpF hk9 h_arr, kpF hk9 h_d, kpF hk9 h_r, kpF hk9 h_w, kpF hk9 h_t, fam_back (kpF hk9 h_f) (kpF hk9 h_n)⟩) (fun E hE9 => XE_2 hE9.1 ((if_pos hc0).trans (if_neg hE9.2))) (Nat.le_of_ble_eq_true rfl) (Nat.le_of_ble_eq_true rfl) (fun q1 H locs hk2 hS => ?_)
  have h_g : PP G ([(a 0, .inr (11, [.ref (a 1), .ref (a 2), .ref (a 4), .ref (a 6), .ref (a 21), .ref (a 28), .ref (a 31), .ref (a 36), .ref (a 41), .ref (a 42), .ref (a 45), .ref (a 48)]))]) H := kpF hk2 h_g
  have h_arr : PP G ([(a 1, .inl (gQ G, 4, .inr (.inr (.inr (.inr (fun z => some (a (49 + 11 * z))))))))]) H := kpF hk2 h_arr
  have h_d : PP G (rowW G a 2 4 (fun z => nI (dl z))) H := kpF hk2 h_d
  have h_r : PP G (rowW G a 4 4 (fun z => nI (ar z))) H := kpF hk2 h_r
  have h_w : PP G (wirW G a 21 m7 b7 ld) H := kpF hk2 h_w
  have h_t : PP G (timW G a 28 x0 f0) H := kpF hk2 h_t
  have h_f : PP G (famW G a Ns (ix p9)) H := kpF hk2 h_f
  have h_n : PP G (netW G a (49 + 11 * ix p9) (Ns (ix p9))) H := kpF hk2 h_n
  obtain ⟨ex, lex⟩ := rg_ix q1.1 q1.2 (by omega) (by omega)
  rw [ex] at hl
  refine lv_iload_n hx hb dX11_ofNet_13 rfl (lv_at hl 3 rfl) ?_
  rcases (show ix w9 = 0 ∨ ix w9 = 1 ∨ ix w9 = 2 ∨ ix w9 = 3 ∨ ix w9 = 4 ∨ ix w9 = 5 ∨ ¬ (ix w9 = 0 ∨ ix w9 = 1 ∨ ix w9 = 2 ∨ ix w9 = 3 ∨ ix w9 = 4 ∨ ix w9 = 5) by omega) with hc | hc | hc | hc | hc | hc | hc
  · skip
    rw [hc]
    refine lv_tableIn (tgt := 52) hx hb dX11_ofNet_14 (by decide) (by decide) (off := 38) (by decide) (by decide) ?_
    refine lv_aload_n hx hb dX11_ofNet_52 rfl (lv_at hl 0 rfl) ?_
    refine ro_i (va_runV (As := []) (rest := []) FX (c_X3_size l G a (49 + 11 * ix p9) (Ns (ix p9))) (cwV 0 hts gX11_ofNet_X3_size rfl rfl rfl (by decide +kernel) ⟨Nat.le_of_ble_eq_true rfl, Nat.le_of_ble_eq_true rfl⟩) (preV hK hNW h_n (va_recv hK h_n (ci := 3) (q0 := 0) rfl rfl)) rfl rfl hl.1 rfl (lv_room (Nat.le_of_ble_eq_true rfl)) dX11_ofNet_53 ⟨Nat.le_of_ble_eq_true rfl, Nat.le_of_ble_eq_true rfl⟩) ?_
    refine retw (Nat.le_of_ble_eq_true rfl) (Nat.le_of_ble_eq_true rfl) ?_
    exact en_wi (m7, b7, ld, x0, f0) hx hb hr hlocks hS (⟨((if_pos hc0).trans (if_pos q1)), rfl⟩) (⟨h_g, h_arr, h_d, h_r, h_w, h_t, fam_back h_f h_n⟩) dX11_ofNet_56
  · skip
    rw [hc]
    refine lv_tableIn (tgt := 57) hx hb dX11_ofNet_14 (by decide) (by decide) (off := 43) (by decide) (by decide) ?_
    refine lv_aload_n hx hb dX11_ofNet_57 rfl (lv_at hl 0 rfl) ?_
    refine ro_i (va_runV (As := []) (rest := []) FX (c_X3_inputCount l G a (49 + 11 * ix p9) (Ns (ix p9)) ) (cwV 0 hts gX11_ofNet_X3_inputCount rfl rfl rfl (by decide +kernel) ⟨Nat.le_of_ble_eq_true rfl, Nat.le_of_ble_eq_true rfl⟩) (preV hK hNW h_n (va_recv hK h_n (ci := 3) (q0 := 0) rfl rfl)) rfl rfl hl.1 rfl (lv_room (Nat.le_of_ble_eq_true rfl)) dX11_ofNet_58 ⟨Nat.le_of_ble_eq_true rfl, Nat.le_of_ble_eq_true rfl⟩) ?_
    refine retw (Nat.le_of_ble_eq_true rfl) (Nat.le_of_ble_eq_true rfl) ?_
    exact en_wi (m7, b7, ld, x0, f0) hx hb hr hlocks hS (⟨((if_pos hc0).trans (if_pos q1)), rfl⟩) (⟨h_g, h_arr, h_d, h_r, h_w, h_t, fam_back h_f h_n⟩) dX11_ofNet_61
  · skip
    rw [hc]
    refine lv_tableIn (tgt := 62) hx hb dX11_ofNet_14 (by decide) (by decide) (off := 48) (by decide) (by decide) ?_
    refine lv_aload_n hx hb dX11_ofNet_62 rfl (lv_at hl 0 rfl) ?_
    refine ro_i (va_runV (As := []) (rest := []) FX (c_X3_outCount l G a (49 + 11 * ix p9) (Ns (ix p9)) ) (cwV 0 hts gX11_ofNet_X3_outCount rfl rfl rfl (by decide +kernel) ⟨Nat.le_of_ble_eq_true rfl, Nat.le_of_ble_eq_true rfl⟩) (preV hK hNW h_n (va_recv hK h_n (ci := 3) (q0 := 0) rfl rfl)) rfl rfl hl.1 rfl (lv_room (Nat.le_of_ble_eq_true rfl)) dX11_ofNet_63 ⟨Nat.le_of_ble_eq_true rfl, Nat.le_of_ble_eq_true rfl⟩) ?_
    refine retw (Nat.le_of_ble_eq_true rfl) (Nat.le_of_ble_eq_true rfl) ?_
    exact en_wi (m7, b7, ld, x0, f0) hx hb hr hlocks hS (⟨((if_pos hc0).trans (if_pos q1)), rfl⟩) (⟨h_g, h_arr, h_d, h_r, h_w, h_t, fam_back h_f h_n⟩) dX11_ofNet_66
  · skip
    rw [hc]
    refine lv_tableIn (tgt := 67) hx hb dX11_ofNet_14 (by decide) (by decide) (off := 53) (by decide) (by decide) ?_
    refine lv_aload_n hx hb dX11_ofNet_67 rfl (lv_at hl 1 rfl) ?_
    refine lv_aload_n hx hb dX11_ofNet_68 rfl (lv_at hl 0 rfl) ?_
    refine ro_i (va_runV (As := [.ref (a (49 + 11 * ix p9))]) (rest := []) FX (c_X11_areaOf l G a p9 ar (Ns (ix p9)) hN) (cwV 1 hts gX11_ofNet_X11_areaOf rfl rfl rfl (by decide +kernel) ⟨Nat.le_of_ble_eq_true rfl, Nat.le_of_ble_eq_true rfl⟩) (preV hK hNW (⟨h_g, h_r, h_n⟩) (va_recv hK h_g (ci := 11) (q0 := 0) rfl rfl)) rfl rfl hl.1 rfl (lv_room (Nat.le_of_ble_eq_true rfl)) dX11_ofNet_69 ⟨Nat.le_of_ble_eq_true rfl, Nat.le_of_ble_eq_true rfl⟩) ?_
    refine retw (Nat.le_of_ble_eq_true rfl) (Nat.le_of_ble_eq_true rfl) ?_
    exact en_wi (m7, b7, ld, x0, f0) hx hb hr hlocks hS (⟨((if_pos hc0).trans (if_pos q1)), rfl⟩) (⟨h_g, h_arr, h_d, h_r, h_w, h_t, fam_back h_f h_n⟩) dX11_ofNet_72
  · skip
    rw [hc]
    refine lv_tableIn (tgt := 73) hx hb dX11_ofNet_14 (by decide) (by decide) (off := 59) (by decide) (by decide) ?_
    refine lv_aload_n hx hb dX11_ofNet_73 rfl (lv_at hl 1 rfl) ?_
    refine va_get (D := G.1) (ci := 11) (v := .ref (a 28)) (C := RX11) (T := TX11) (N := 12) hx hb hts inX11_ofNet_11 hown hK h_g 0 rfl rfl 5 (by decide) (hts (.fieldLink RX11 44 "GateLedger" "timing" "LGateLedger$Timing;") (List.mem_of_getElem? (i := 1) (by decide +kernel))) (fun _ h9 => h9) rfl dX11_ofNet_74 ?_
    refine lv_aload_n hx hb dX11_ofNet_77 rfl (lv_at hl 0 rfl) ?_
    refine lv_aload_n hx hb dX11_ofNet_78 rfl (lv_at hl 1 rfl) ?_
    refine va_get (D := G.1) (ci := 11) (v := .ref (a 2)) (C := RX11) (T := TX11) (N := 12) hx hb hts inX11_ofNet_11 hown hK h_g 0 rfl rfl 1 (by decide) (hts (.fieldLink RX11 20 "GateLedger" "delays" "LGateLedger$Row;") (List.mem_of_getElem? (i := 2) (by decide +kernel))) (fun _ h9 => h9) rfl dX11_ofNet_79 ?_
    refine wr_v (va_runV (As := [.ref (a (49 + 11 * ix p9)), .ref (a 2)]) (rest := []) FX (c_X7_measure l G a ha 28 (49 + 11 * ix p9) 2 (by omega) (by omega) (Ns (ix p9)) hN dl hd x0 f0) (cwV 2 hts gX11_ofNet_X7_measure rfl rfl rfl (by decide +kernel) ⟨Nat.le_of_ble_eq_true rfl, Nat.le_of_ble_eq_true rfl⟩) (preV hK hNW (⟨h_t, h_n, h_d⟩) (va_recv hK h_t (ci := 7) (q0 := 0) rfl rfl)) rfl rfl hl.1 rfl (lv_room (Nat.le_of_ble_eq_true rfl)) dX11_ofNet_82 ⟨Nat.le_of_ble_eq_true rfl, Nat.le_of_ble_eq_true rfl⟩) hS (rng_sub (by omega)) (fun f7 H locs hf7 hP9 hk3 hS => ?_)
    have h_t : PP G (timW G a 28 (nI (mxT (Ns (ix p9)) dl (nG (Ns (ix p9))))) f7) H := hP9
    have h_g : PP G ([(a 0, .inr (11, [.ref (a 1), .ref (a 2), .ref (a 4), .ref (a 6), .ref (a 21), .ref (a 28), .ref (a 31), .ref (a 36), .ref (a 41), .ref (a 42), .ref (a 45), .ref (a 48)]))]) H := kp hk3 h_g (dj_cons (rng_no ha (by omega)) (dj_nil))
    have h_arr : PP G ([(a 1, .inl (gQ G, 4, .inr (.inr (.inr (.inr (fun z => some (a (49 + 11 * z))))))))]) H := kp hk3 h_arr (dj_cons (rng_no ha (by omega)) (dj_nil))
    have h_d : PP G (rowW G a 2 4 (fun z => nI (dl z))) H := kp hk3 h_d (dj_cons (rng_no ha (by omega)) (dj_cons (rng_no ha (by omega)) (dj_nil)))
    have h_r : PP G (rowW G a 4 4 (fun z => nI (ar z))) H := kp hk3 h_r (dj_cons (rng_no ha (by omega)) (dj_cons (rng_no ha (by omega)) (dj_nil)))
    have h_w : PP G (wirW G a 21 m7 b7 ld) H := kp hk3 h_w (dj_rng ha (wirW_in (G := G) (a := a) (i := 21) (mk := m7) (bs := b7) (ld := ld)) (by omega))
    have h_f : PP G (famW G a Ns (ix p9)) H := kp hk3 h_f (dj_famo ha (by omega))
    have h_n : PP G (netW G a (49 + 11 * ix p9) (Ns (ix p9))) H := kp hk3 h_n (dj_rng ha (netW_in (G := G) (a := a) (j := (49 + 11 * ix p9)) (N := (Ns (ix p9)))) (by omega))
    refine lv_aload_n hx hb dX11_ofNet_85 rfl (lv_at hl 1 rfl) ?_
    refine va_get (D := G.1) (ci := 11) (v := .ref (a 28)) (C := RX11) (T := TX11) (N := 12) hx hb hts inX11_ofNet_11 hown hK h_g 0 rfl rfl 5 (by decide) (hts (.fieldLink RX11 44 "GateLedger" "timing" "LGateLedger$Timing;") (List.mem_of_getElem? (i := 1) (by decide +kernel))) (fun _ h9 => h9) rfl dX11_ofNet_86 ?_
    refine lv_aload_n hx hb dX11_ofNet_89 rfl (lv_at hl 0 rfl) ?_
    refine ro_i (va_runV (As := [.ref (a (49 + 11 * ix p9))]) (rest := []) FX (c_X7_timeOfNet l G a 28 (49 + 11 * ix p9) (nI (mxT (Ns (ix p9)) dl (nG (Ns (ix p9))))) f7 (Ns (ix p9)) hN (tm (Ns (ix p9)) dl) hf7 (fun r h => by have := tm_lt hN hd h; omega)) (cwV 1 hts gX11_ofNet_X7_timeOfNet rfl rfl rfl (by decide +kernel) ⟨Nat.le_of_ble_eq_true rfl, Nat.le_of_ble_eq_true rfl⟩) (preV hK hNW (⟨h_t, h_n⟩) (va_recv hK h_t (ci := 7) (q0 := 0) rfl rfl)) rfl rfl hl.1 rfl (lv_room (Nat.le_of_ble_eq_true rfl)) dX11_ofNet_90 ⟨Nat.le_of_ble_eq_true rfl, Nat.le_of_ble_eq_true rfl⟩) ?_
    refine retw (Nat.le_of_ble_eq_true rfl) (Nat.le_of_ble_eq_true rfl) ?_
    exact en_wi (m7, b7, ld, (nI (mxT (Ns (ix p9)) dl (nG (Ns (ix p9))))), f7) hx hb hr hlocks hS (⟨((if_pos hc0).trans (if_pos q1)), rfl⟩) (⟨h_g, h_arr, h_d, h_r, h_w, h_t, fam_back h_f h_n⟩) dX11_ofNet_93
  · skip
    rw [hc]
    refine lv_tableIn (tgt := 94) hx hb dX11_ofNet_14 (by decide) (by decide) (off := 80) (by decide) (by decide) ?_
    refine lv_aload_n hx hb dX11_ofNet_94 rfl (lv_at hl 1 rfl) ?_
    refine va_get (D := G.1) (ci := 11) (v := .ref (a 21)) (C := RX11) (T := TX11) (N := 12) hx hb hts inX11_ofNet_11 hown hK h_g 0 rfl rfl 4 (by decide) (hts (.fieldLink RX11 37 "GateLedger" "wiring" "LGateLedger$Wiring;") (List.mem_of_getElem? (i := 3) (by decide +kernel))) (fun _ h9 => h9) rfl dX11_ofNet_95 ?_
    refine lv_aload_n hx hb dX11_ofNet_98 rfl (lv_at hl 0 rfl) ?_
    refine wr_i (va_runV (As := [.ref (a (49 + 11 * ix p9))]) (rest := []) FX (c_X10_greatestLoad l G a ha 21 (49 + 11 * ix p9) (by omega) m7 b7 ld (Ns (ix p9)) hN) (cwV 1 hts gX11_ofNet_X10_greatestLoad rfl rfl rfl (by decide +kernel) ⟨Nat.le_of_ble_eq_true rfl, Nat.le_of_ble_eq_true rfl⟩) (preV hK hNW (⟨h_w, h_n⟩) (va_recv hK h_w (ci := 10) (q0 := 0) rfl rfl)) rfl rfl hl.1 rfl (lv_room (Nat.le_of_ble_eq_true rfl)) dX11_ofNet_99 ⟨Nat.le_of_ble_eq_true rfl, Nat.le_of_ble_eq_true rfl⟩) hS (rng_sub (by omega)) (fun rr u7  H locs er hP9 hk5 hS => ?_)
    have h_w : PP G (wirW G a 21 m7 b7 u7) H := hP9
    have h_g : PP G ([(a 0, .inr (11, [.ref (a 1), .ref (a 2), .ref (a 4), .ref (a 6), .ref (a 21), .ref (a 28), .ref (a 31), .ref (a 36), .ref (a 41), .ref (a 42), .ref (a 45), .ref (a 48)]))]) H := kp hk5 h_g (dj_cons (rng_no ha (by omega)) (dj_nil))
    have h_arr : PP G ([(a 1, .inl (gQ G, 4, .inr (.inr (.inr (.inr (fun z => some (a (49 + 11 * z))))))))]) H := kp hk5 h_arr (dj_cons (rng_no ha (by omega)) (dj_nil))
    have h_d : PP G (rowW G a 2 4 (fun z => nI (dl z))) H := kp hk5 h_d (dj_cons (rng_no ha (by omega)) (dj_cons (rng_no ha (by omega)) (dj_nil)))
    have h_r : PP G (rowW G a 4 4 (fun z => nI (ar z))) H := kp hk5 h_r (dj_cons (rng_no ha (by omega)) (dj_cons (rng_no ha (by omega)) (dj_nil)))
    have h_t : PP G (timW G a 28 x0 f0) H := kp hk5 h_t (dj_rng ha (timW_in (G := G) (a := a) (i := 28) (x := x0) (f := f0)) (by omega))
    have h_f : PP G (famW G a Ns (ix p9)) H := kp hk5 h_f (dj_famo ha (by omega))
    have h_n : PP G (netW G a (49 + 11 * ix p9) (Ns (ix p9))) H := kp hk5 h_n (dj_rng ha (netW_in (G := G) (a := a) (j := (49 + 11 * ix p9)) (N := (Ns (ix p9)))) (by omega))
    refine lv_as (y := mxA (loT (Ns (ix p9)) (nO (Ns (ix p9)))) (nG (Ns (ix p9)))) er ?_
    refine retw (Nat.le_of_ble_eq_true rfl) (Nat.le_of_ble_eq_true rfl) ?_
    exact en_wi (m7, b7, u7, x0, f0) hx hb hr hlocks hS (⟨((if_pos hc0).trans (if_pos q1)), rfl⟩) (⟨h_g, h_arr, h_d, h_r, h_w, h_t, fam_back h_f h_n⟩) dX11_ofNet_102
  · skip
    refine lv_tableOut (tgt := 103) hx hb dX11_ofNet_14 (Or.inr (by rw [nI_toInt (by omega)]; omega)) (by decide) ?_
    refine lv_aload_n hx hb dX11_ofNet_103 rfl (lv_at hl 1 rfl) ?_
    refine va_get (D := G.1) (ci := 11) (v := .ref (a 21)) (C := RX11) (T := TX11) (N := 12) hx hb hts inX11_ofNet_11 hown hK h_g 0 rfl rfl 4 (by decide) (hts (.fieldLink RX11 37 "GateLedger" "wiring" "LGateLedger$Wiring;") (List.mem_of_getElem? (i := 3) (by decide +kernel))) (fun _ h9 => h9) rfl dX11_ofNet_104 ?_
    refine lv_aload_n hx hb dX11_ofNet_107 rfl (lv_at hl 0 rfl) ?_
    refine wr_i (va_runV (As := [.ref (a (49 + 11 * ix p9))]) (rest := []) FX (c_X10_idleCount l G a ha 21 (49 + 11 * ix p9) (by omega) m7 b7 ld (Ns (ix p9)) hN) (cwV 1 hts gX11_ofNet_X10_idleCount rfl rfl rfl (by decide +kernel) ⟨Nat.le_of_ble_eq_true rfl, Nat.le_of_ble_eq_true rfl⟩) (preV hK hNW (⟨h_w, h_n⟩) (va_recv hK h_w (ci := 10) (q0 := 0) rfl rfl)) rfl rfl hl.1 rfl (lv_room (Nat.le_of_ble_eq_true rfl)) dX11_ofNet_108 ⟨Nat.le_of_ble_eq_true rfl, Nat.le_of_ble_eq_true rfl⟩) hS (rng_sub (by omega)) (fun rr u7  H locs er hP9 hk7 hS => ?_)
    have h_w : PP G (wirW G a 21 u7 b7 ld) H := hP9
    have h_g : PP G ([(a 0, .inr (11, [.ref (a 1), .ref (a 2), .ref (a 4), .ref (a 6), .ref (a 21), .ref (a 28), .ref (a 31), .ref (a 36), .ref (a 41), .ref (a 42), .ref (a 45), .ref (a 48)]))]) H := kp hk7 h_g (dj_cons (rng_no ha (by omega)) (dj_nil))
    have h_arr : PP G ([(a 1, .inl (gQ G, 4, .inr (.inr (.inr (.inr (fun z => some (a (49 + 11 * z))))))))]) H := kp hk7 h_arr (dj_cons (rng_no ha (by omega)) (dj_nil))
    have h_d : PP G (rowW G a 2 4 (fun z => nI (dl z))) H := kp hk7 h_d (dj_cons (rng_no ha (by omega)) (dj_cons (rng_no ha (by omega)) (dj_nil)))
    have h_r : PP G (rowW G a 4 4 (fun z => nI (ar z))) H := kp hk7 h_r (dj_cons (rng_no ha (by omega)) (dj_cons (rng_no ha (by omega)) (dj_nil)))
    have h_t : PP G (timW G a 28 x0 f0) H := kp hk7 h_t (dj_rng ha (timW_in (G := G) (a := a) (i := 28) (x := x0) (f := f0)) (by omega))
    have h_f : PP G (famW G a Ns (ix p9)) H := kp hk7 h_f (dj_famo ha (by omega))
    have h_n : PP G (netW G a (49 + 11 * ix p9) (Ns (ix p9))) H := kp hk7 h_n (dj_rng ha (netW_in (G := G) (a := a) (j := (49 + 11 * ix p9)) (N := (Ns (ix p9)))) (by omega))
    refine lv_as (y := nI (idT (Ns (ix p9)) (mbD (Ns (ix p9)) (ouT (Ns (ix p9)) (nO (Ns (ix p9)))) (nG (Ns (ix p9)))) (nG (Ns (ix p9))))) er ?_
    have hc6 : ix w9 = 6 := by omega
    rw [hc6]
    refine retw (Nat.le_of_ble_eq_true rfl) (Nat.le_of_ble_eq_true rfl) ?_
    exact en_wi (u7, b7, ld, x0, f0) hx hb hr hlocks hS (⟨((if_pos hc0).trans (if_pos q1)), rfl⟩) (⟨h_g, h_arr, h_d, h_r, h_w, h_t, fam_back h_f h_n⟩) dX11_ofNet_111
set_option maxRecDepth 20000 in
theorem inX11_path_11 : ∀ w ∈ u_ws RX11 TX11 12, w ∈ wsX11_path := by decide +kernel
set_option maxHeartbeats 4000000 in
set_option maxRecDepth 100000 in
/-- path -/
theorem c_X11_path (l : Launch) (hfl : l.stackTraces = false) (G : GG) (a : Nat → Nat) (ha : Inj a) (t9 : Nat) (Ns : Nat → NT) (dl : Nat → Nat) (hd : DL dl) (x0 : Int32) (f0 : Nat → Int32) (p9 x9 : Int32) (hW : ∀ z, z < 4 → WF (Ns z))  : vx_Met l yX11_path wsX11_path ({ frames := 7, cells := 2, slots := 12, locals := 103 } : Room) (PcX G a t9 [.ref (a 0), .int p9, .int x9] (fun H => PP G ([(a 0, .inr (11, [.ref (a 1), .ref (a 2), .ref (a 4), .ref (a 6), .ref (a 21), .ref (a 28), .ref (a 31), .ref (a 36), .ref (a 41), .ref (a 42), .ref (a 45), .ref (a 48)]))]) H ∧ PP G ([(a 1, .inl (gQ G, 4, .inr (.inr (.inr (.inr (fun z => some (a (49 + 11 * z))))))))]) H ∧ PP G (rowW G a 2 4 (fun z => nI (dl z))) H ∧ PP G (timW G a 28 x0 f0) H ∧ NSP G a Ns H)) (QI (fun (r : Int32) (_ : Int32 × (Nat → Int32)) => cPa p9 x9 = 0 ∧ r = paV (Ns (ix p9)) dl x9) (fun u H => PP G ([(a 0, .inr (11, [.ref (a 1), .ref (a 2), .ref (a 4), .ref (a 6), .ref (a 21), .ref (a 28), .ref (a 31), .ref (a 36), .ref (a 41), .ref (a 42), .ref (a 45), .ref (a 48)]))]) H ∧ PP G ([(a 1, .inl (gQ G, 4, .inr (.inr (.inr (.inr (fun z => some (a (49 + 11 * z))))))))]) H ∧ PP G (rowW G a 2 4 (fun z => nI (dl z))) H ∧ PP G (timW G a 28 u.1 u.2) H ∧ NSP G a Ns H) (rng a 28 3)) (XQ (XE (cPa p9 x9)) (fun H => PP G ([(a 0, .inr (11, [.ref (a 1), .ref (a 2), .ref (a 4), .ref (a 6), .ref (a 21), .ref (a 28), .ref (a 31), .ref (a 36), .ref (a 41), .ref (a 42), .ref (a 45), .ref (a 48)]))]) H ∧ PP G ([(a 1, .inl (gQ G, 4, .inr (.inr (.inr (.inr (fun z => some (a (49 + 11 * z))))))))]) H ∧ PP G (rowW G a 2 4 (fun z => nI (dl z))) H ∧ PP G (timW G a 28 x0 f0) H ∧ NSP G a Ns H) (rng a 28 3)) 2 12 (rng a 28 3) := by
  refine vx_ofW (cc := cX11_path) (maxL := 6) (ret := (some .int)) (by decide) rfl ?_
  intro p e s m args below meth c s₁ B hml htab hv
  obtain ⟨⟨⟨rfl, hB, hK, hNW⟩, hLow⟩, hX⟩ := hv
  have hx := B.exec
  have hb := B.bytes
  have hr := B.returns
  have hts := atoms_spec (ws := wsX11_path) B.pre
  have hown : s.vm.findClass RX11 = some m.cls := findClass_of_methodNamed B.named
  have hlocks := B.notSynchronized
  have FX : CallFix p m c cX11_path 6 s ([.ref (a 0), .int p9, .int x9] : List Value).toArray wsX11_path RX11 := ⟨hx, hb, hml, hown, hts⟩
  have hl := lv_entry ([.ref (a 0), .int p9, .int x9]) (n := 6) (Nat.le_of_ble_eq_true rfl)
  rw [lg_entry_eq]
  generalize (lg_sl ([.ref (a 0), .int p9, .int x9]) ++ List.replicate (6 - (lg_sl ([.ref (a 0), .int p9, .int x9])).length) Slot.unset).toArray = ls at hl ⊢
  have hl : lv_has ls 6 [(0, .ref (a 0)), (1, .int p9), (2, .int x9)] := hl
  obtain ⟨h_g, h_arr, h_d, h_t, hns⟩ := hB
  have hS : va_S (rng a 28 3) s.heap s.heap [] := va_S.rf
  refine lv_aload_n hx hb dX11_path_0 rfl (lv_at hl 0 rfl) ?_
  refine lv_iload_n hx hb dX11_path_1 rfl (lv_at hl 1 rfl) ?_
  refine xcr (vx_runV (As := [.int p9]) (rest := []) FX (c_X11_netAt l hfl G a ha t9 p9) (cwV 1 hts gX11_path_X11_netAt rfl rfl rfl (by decide +kernel) ⟨Nat.le_of_ble_eq_true rfl, Nat.le_of_ble_eq_true rfl⟩) (preVX hK hNW (⟨h_g, h_arr⟩) (hLow.at hS (fun q9 _ q => rng_M q9 q)) (hX.at hS (fun q9 _ q => rng_M q9 q)) (va_recv hK h_g (ci := 11) (q0 := 0) rfl rfl)) rfl rfl hl.1 rfl (lv_room (Nat.le_of_ble_eq_true rfl)) dX11_path_2 ⟨Nat.le_of_ble_eq_true rfl, Nat.le_of_ble_eq_true rfl⟩) hS htab hlocks (fun H1 hk9 => ⟨kpF hk9 h_g, kpF hk9 h_arr, kpF hk9 h_d, kpF hk9 h_t, fun z hz => kpF hk9 (hns z hz)⟩) (fun E hE9 => XE_1 hE9.1 (if_neg hE9.2)) (Nat.le_of_ble_eq_true rfl) (Nat.le_of_ble_eq_true rfl) (fun _ hc0 H locs hk1 hS => ?_)
  have h_g : PP G ([(a 0, .inr (11, [.ref (a 1), .ref (a 2), .ref (a 4), .ref (a 6), .ref (a 21), .ref (a 28), .ref (a 31), .ref (a 36), .ref (a 41), .ref (a 42), .ref (a 45), .ref (a 48)]))]) H := kpF hk1 h_g
  have h_arr : PP G ([(a 1, .inl (gQ G, 4, .inr (.inr (.inr (.inr (fun z => some (a (49 + 11 * z))))))))]) H := kpF hk1 h_arr
  have h_d : PP G (rowW G a 2 4 (fun z => nI (dl z))) H := kpF hk1 h_d
  have h_t : PP G (timW G a 28 x0 f0) H := kpF hk1 h_t
  have hns : NSP G a Ns H := fun z hz => kpF hk1 (hns z hz)
  have hk4 := ix_lt hc0 (by omega)
  have h_f : PP G (famW G a Ns (ix p9)) H := fam_split hns
  have h_n : PP G (netW G a (49 + 11 * ix p9) (Ns (ix p9))) H := hns _ hk4
  have hN := hW _ hk4
  have hg9 := hN.g
  have ho9 := hN.o
  have hi9 := hN.2.1
  refine lv_astore_n (lv' := [(3, .ref (a (49 + 11 * ix p9))), (0, .ref (a 0)), (1, .int p9), (2, .int x9)]) hx hb dX11_path_5 rfl hl (by decide) rfl (fun ls hl => ?_)
  refine lv_iload_n hx hb dX11_path_6 rfl (lv_at hl 3 rfl) ?_
  refine lv_if_ge (tgt := 20) hx hb dX11_path_7 (by decide) (fun c7 => ?_) (fun c7 => ?_)
  · skip
    have c7 := Int32.not_lt.mpr c7
    refine lv_iload_n hx hb dX11_path_20 rfl (lv_at hl 3 rfl) ?_
    refine lv_bipush (v := nI 120) hx hb dX11_path_21 (by decide) ?_
    refine lv_icmp_lt (tgt := 28) hx hb dX11_path_23 (by decide) (fun c23 => ?_) (fun c23 => ?_)
    · skip
      obtain ⟨k0, hk0, ex⟩ := inBd_ex (inBd_of c7 (fun c => absurd c (Int32.not_le.mpr c23))) (by omega)
      have hix : ix x9 = k0 := by rw [ex, ix_nI (by omega)]
      have ex : x9 = nI (ix x9) := by rw [hix]; exact ex
      rw [ex] at hl
      refine lv_aload_n hx hb dX11_path_28 rfl (lv_at hl 1 rfl) ?_
      refine va_get (D := G.1) (ci := 11) (v := .ref (a 28)) (C := RX11) (T := TX11) (N := 12) hx hb hts inX11_path_11 hown hK h_g 0 rfl rfl 5 (by decide) (hts (.fieldLink RX11 44 "GateLedger" "timing" "LGateLedger$Timing;") (List.mem_of_getElem? (i := 3) (by decide +kernel))) (fun _ h9 => h9) rfl dX11_path_29 ?_
      refine lv_aload_n hx hb dX11_path_32 rfl (lv_at hl 0 rfl) ?_
      refine lv_aload_n hx hb dX11_path_33 rfl (lv_at hl 1 rfl) ?_
      refine va_get (D := G.1) (ci := 11) (v := .ref (a 2)) (C := RX11) (T := TX11) (N := 12) hx hb hts inX11_path_11 hown hK h_g 0 rfl rfl 1 (by decide) (hts (.fieldLink RX11 20 "GateLedger" "delays" "LGateLedger$Row;") (List.mem_of_getElem? (i := 4) (by decide +kernel))) (fun _ h9 => h9) rfl dX11_path_34 ?_
      refine wr_v (va_runV (As := [.ref (a (49 + 11 * ix p9)), .ref (a 2)]) (rest := []) FX (c_X7_measure l G a ha 28 (49 + 11 * ix p9) 2 (by omega) (by omega) (Ns (ix p9)) hN dl hd x0 f0) (cwV 2 hts gX11_path_X7_measure rfl rfl rfl (by decide +kernel) ⟨Nat.le_of_ble_eq_true rfl, Nat.le_of_ble_eq_true rfl⟩) (preV hK hNW (⟨h_t, h_n, h_d⟩) (va_recv hK h_t (ci := 7) (q0 := 0) rfl rfl)) rfl rfl hl.1 rfl (lv_room (Nat.le_of_ble_eq_true rfl)) dX11_path_37 ⟨Nat.le_of_ble_eq_true rfl, Nat.le_of_ble_eq_true rfl⟩) hS (fun _ q => q) (fun f7 H locs hf7 hP9 hk2 hS => ?_)
      have h_t : PP G (timW G a 28 (nI (mxT (Ns (ix p9)) dl (nG (Ns (ix p9))))) f7) H := hP9
      have h_g : PP G ([(a 0, .inr (11, [.ref (a 1), .ref (a 2), .ref (a 4), .ref (a 6), .ref (a 21), .ref (a 28), .ref (a 31), .ref (a 36), .ref (a 41), .ref (a 42), .ref (a 45), .ref (a 48)]))]) H := kp hk2 h_g (dj_cons (rng_no ha (by omega)) (dj_nil))
      have h_arr : PP G ([(a 1, .inl (gQ G, 4, .inr (.inr (.inr (.inr (fun z => some (a (49 + 11 * z))))))))]) H := kp hk2 h_arr (dj_cons (rng_no ha (by omega)) (dj_nil))
      have h_d : PP G (rowW G a 2 4 (fun z => nI (dl z))) H := kp hk2 h_d (dj_cons (rng_no ha (by omega)) (dj_cons (rng_no ha (by omega)) (dj_nil)))
      have h_f : PP G (famW G a Ns (ix p9)) H := kp hk2 h_f (dj_famo ha (by omega))
      have h_n : PP G (netW G a (49 + 11 * ix p9) (Ns (ix p9))) H := kp hk2 h_n (dj_rng ha (netW_in (G := G) (a := a) (j := (49 + 11 * ix p9)) (N := (Ns (ix p9)))) (by omega))
      refine lv_aload_n hx hb dX11_path_40 rfl (lv_at hl 1 rfl) ?_
      refine va_get (D := G.1) (ci := 11) (v := .ref (a 28)) (C := RX11) (T := TX11) (N := 12) hx hb hts inX11_path_11 hown hK h_g 0 rfl rfl 5 (by decide) (hts (.fieldLink RX11 44 "GateLedger" "timing" "LGateLedger$Timing;") (List.mem_of_getElem? (i := 3) (by decide +kernel))) (fun _ h9 => h9) rfl dX11_path_41 ?_
      refine lv_aload_n hx hb dX11_path_44 rfl (lv_at hl 0 rfl) ?_
      refine ro_i (va_runV (As := [.ref (a (49 + 11 * ix p9))]) (rest := []) FX (c_X7_slowestOut l G a 28 (49 + 11 * ix p9) (nI (mxT (Ns (ix p9)) dl (nG (Ns (ix p9))))) f7 (Ns (ix p9)) hN (tm (Ns (ix p9)) dl) hf7 (fun r h => by have := tm_lt hN hd h; omega)) (cwV 1 hts gX11_path_X7_slowestOut rfl rfl rfl (by decide +kernel) ⟨Nat.le_of_ble_eq_true rfl, Nat.le_of_ble_eq_true rfl⟩) (preV hK hNW (⟨h_t, h_n⟩) (va_recv hK h_t (ci := 7) (q0 := 0) rfl rfl)) rfl rfl hl.1 rfl (lv_room (Nat.le_of_ble_eq_true rfl)) dX11_path_45 ⟨Nat.le_of_ble_eq_true rfl, Nat.le_of_ble_eq_true rfl⟩) ?_
      refine lv_istore (lv' := [(4, .int (oI (pt (Ns (ix p9)) dl 0))), (3, .ref (a (49 + 11 * ix p9))), (0, .ref (a 0)), (1, .int p9), (2, .int (nI (ix x9)))]) hx hb dX11_path_48 hl (by decide) rfl (fun ls hl => ?_)
      refine lv_iconst (v := nI 0) hx hb dX11_path_50 (by decide) ?_
      refine lv_istore (lv' := [(5, .int (nI 0)), (4, .int (oI (pt (Ns (ix p9)) dl 0))), (3, .ref (a (49 + 11 * ix p9))), (0, .ref (a 0)), (1, .int p9), (2, .int (nI (ix x9)))]) hx hb dX11_path_51 hl (by decide) rfl (fun ls hl => ?_)
      refine lv_loop1 53 (fun (q : Nat) => ix x9 - q) (fun (q : Nat) (H : Heap) (locs : List Loc) (ls : Array Slot) => (PP G ([(a 0, .inr (11, [.ref (a 1), .ref (a 2), .ref (a 4), .ref (a 6), .ref (a 21), .ref (a 28), .ref (a 31), .ref (a 36), .ref (a 41), .ref (a 42), .ref (a 45), .ref (a 48)]))]) H) ∧ (PP G ([(a 1, .inl (gQ G, 4, .inr (.inr (.inr (.inr (fun z => some (a (49 + 11 * z))))))))]) H) ∧ (PP G (rowW G a 2 4 (fun z => nI (dl z))) H) ∧ (PP G (timW G a 28 (nI (mxT (Ns (ix p9)) dl (nG (Ns (ix p9))))) f7) H) ∧ (PP G (famW G a Ns (ix p9)) H) ∧ (PP G (netW G a (49 + 11 * ix p9) (Ns (ix p9))) H) ∧ (va_S (rng a 28 3) s.heap H locs) ∧ (lv_has ls 6 [(0, .ref (a 0)), (1, .int p9), (2, .int (nI (ix x9))), (3, .ref (a (49 + 11 * ix p9))), (4, .int (oI (pt (Ns (ix p9)) dl q))), (5, .int (nI q))]) ∧ (q ≤ ix x9)) (fun _ => []) (fun q H locs ls hI ih => ?_) 0 ⟨h_g, h_arr, h_d, h_t, h_f, h_n, hS, lv_sub hl [3, 4, 5, 2, 1, 0] rfl, by omega⟩ rfl
      obtain ⟨h_g, h_arr, h_d, h_t, h_f, h_n, hS, hl, hq⟩ := hI
      have ih4 := @ih
      clear ih
      refine lv_iload hx hb dX11_path_53 (lv_at hl 5 rfl) ?_
      refine lv_iload_n hx hb dX11_path_55 rfl (lv_at hl 2 rfl) ?_
      refine lv_icmp_ge (tgt := 87) hx hb dX11_path_56 (by decide) (fun c56 => ?_) (fun c56 => ?_)
      · skip
        have c56 := cv_le (by omega) (by omega) c56
        refine lv_iload hx hb dX11_path_87 (lv_at hl 4 rfl) ?_
        refine retw (Nat.le_of_ble_eq_true rfl) (Nat.le_of_ble_eq_true rfl) ?_
        exact en_wi ((nI (mxT (Ns (ix p9)) dl (nG (Ns (ix p9))))), f7) hx hb hr hlocks hS (⟨((if_pos hc0).trans (if_pos c7)), by unfold paV; rw [if_pos c23]; rw [show q = ix x9 by omega]⟩) (⟨h_g, h_arr, h_d, h_t, fam_back h_f h_n⟩) dX11_path_89
      · skip
        have c56 := cv_nle (by omega) (by omega) c56
        refine lv_iload hx hb dX11_path_59 (lv_at hl 4 rfl) ?_
        refine lv_iconst (v := -1) hx hb dX11_path_61 (by decide) ?_
        refine lv_icmp_eq (tgt := 87) hx hb dX11_path_62 (by decide) (fun c62 => ?_) (fun c62 => ?_)
        · skip
          refine lv_iload hx hb dX11_path_87 (lv_at hl 4 rfl) ?_
          refine retw (Nat.le_of_ble_eq_true rfl) (Nat.le_of_ble_eq_true rfl) ?_
          exact en_wi ((nI (mxT (Ns (ix p9)) dl (nG (Ns (ix p9))))), f7) hx hb hr hlocks hS (⟨((if_pos hc0).trans (if_pos c7)), by unfold paV; rw [if_pos c23]; have en := oI_none (fun g h => by have := pt_lt hN _ _ h; omega) c62; have e2 := pt_none en (ix x9 - q); rw [show q + (ix x9 - q) = ix x9 by omega] at e2; rw [e2, en]⟩) (⟨h_g, h_arr, h_d, h_t, fam_back h_f h_n⟩) dX11_path_89
        · skip
          obtain ⟨kk, ekk⟩ := oI_some c62
          have hkk := pt_lt hN _ _ ekk
          have eoi : oI (pt (Ns (ix p9)) dl q) = nI kk := congrArg oI ekk
          rw [eoi] at hl
          refine lv_aload_n hx hb dX11_path_65 rfl (lv_at hl 0 rfl) ?_
          refine va_get (D := G.1) (ci := 11) (v := .ref (a 28)) (C := RX11) (T := TX11) (N := 12) hx hb hts inX11_path_11 hown hK h_g 0 rfl rfl 5 (by decide) (hts (.fieldLink RX11 44 "GateLedger" "timing" "LGateLedger$Timing;") (List.mem_of_getElem? (i := 3) (by decide +kernel))) (fun _ h9 => h9) rfl dX11_path_66 ?_
          refine lv_aload_n hx hb dX11_path_69 rfl (lv_at hl 3 rfl) ?_
          refine lv_aload_n hx hb dX11_path_70 rfl (lv_at hl 0 rfl) ?_
          refine va_get (D := G.1) (ci := 11) (v := .ref (a 2)) (C := RX11) (T := TX11) (N := 12) hx hb hts inX11_path_11 hown hK h_g 0 rfl rfl 1 (by decide) (hts (.fieldLink RX11 20 "GateLedger" "delays" "LGateLedger$Row;") (List.mem_of_getElem? (i := 4) (by decide +kernel))) (fun _ h9 => h9) rfl dX11_path_71 ?_
          refine lv_iload hx hb dX11_path_74 (lv_at hl 4 rfl) ?_
          refine ro_i (va_runV (As := [.ref (a (49 + 11 * ix p9)), .ref (a 2), .int (nI kk)]) (rest := []) FX (c_X7_slowestSource l G a 28 (49 + 11 * ix p9) 2 (nI (mxT (Ns (ix p9)) dl (nG (Ns (ix p9))))) f7 (Ns (ix p9)) hN dl (tm (Ns (ix p9)) dl) hd hf7 (fun r h => by have := tm_lt hN hd h; omega) kk hkk) (cwV 3 hts gX11_path_X7_slowestSource rfl rfl rfl (by decide +kernel) ⟨Nat.le_of_ble_eq_true rfl, Nat.le_of_ble_eq_true rfl⟩) (preV hK hNW (⟨h_t, h_n, h_d⟩) (va_recv hK h_t (ci := 7) (q0 := 0) rfl rfl)) rfl rfl hl.1 rfl (lv_room (Nat.le_of_ble_eq_true rfl)) dX11_path_76 ⟨Nat.le_of_ble_eq_true rfl, Nat.le_of_ble_eq_true rfl⟩) ?_
          refine lv_as (y := oI (pt (Ns (ix p9)) dl (q + 1))) (congrArg oI (pt_s ekk).symm) ?_
          refine lv_istore (lv' := [(4, .int (oI (pt (Ns (ix p9)) dl (q + 1)))), (0, .ref (a 0)), (1, .int p9), (2, .int (nI (ix x9))), (3, .ref (a (49 + 11 * ix p9))), (5, .int (nI q))]) hx hb dX11_path_79 hl (by decide) rfl (fun ls hl => ?_)
          refine lv_iinc (v := nI (q + 1)) (lv' := [(5, .int (nI (q + 1))), (4, .int (oI (pt (Ns (ix p9)) dl (q + 1)))), (0, .ref (a 0)), (1, .int p9), (2, .int (nI (ix x9))), (3, .ref (a (49 + 11 * ix p9)))]) hx hb dX11_path_81 hl (k := 5) rfl (by first | exact nI_add _ 1 | decide) (by decide) rfl (fun ls hl => ?_)
          refine lv_goto (tgt := 53) hx hb dX11_path_84 (by decide) ?_
          exact ih4 (q + 1) _ _ _ ⟨h_g, h_arr, h_d, h_t, h_f, h_n, hS, lv_sub hl [2, 3, 4, 5, 1, 0] rfl, by omega⟩ (by show ix x9 - (q + 1) < ix x9 - q; omega)
    · skip
      refine lv_iconst (v := -1) hx hb dX11_path_26 (by decide) ?_
      refine retw (Nat.le_of_ble_eq_true rfl) (Nat.le_of_ble_eq_true rfl) ?_
      exact en_wi (x0, f0) hx hb hr hlocks hS (⟨((if_pos hc0).trans (if_pos c7)), (if_neg c23).symm⟩) (⟨h_g, h_arr, h_d, h_t, fam_back h_f h_n⟩) dX11_path_27
  · skip
    exact thS (a := a) (cls := IOB) (text := "no such place") (is := 208) hx hb hfl hown (by decide +kernel) (hts (.classLink RX11 206 "java/lang/IndexOutOfBoundsException") (List.mem_of_getElem? (i := 1) (by decide +kernel))) (hts (.initialized "java/lang/IndexOutOfBoundsException") (List.mem_of_getElem? (i := 2) (by decide +kernel))) hX (by decide +kernel) (ht_IOB (fun w h => hts w (List.mem_cons_of_mem _ (List.mem_append_right _ h))) hX.2.1) hg_IOB (fun q9 q => rng_M q9 q) hS (hl.1.trans hml.symm) dX11_path_10 dX11_path_13 dX11_path_14 dX11_path_16 dX11_path_19 htab (Nat.le_of_ble_eq_true rfl) (Nat.le_of_ble_eq_true rfl) (Nat.le_of_ble_eq_true rfl) (Nat.le_of_ble_eq_true rfl) hlocks (XE_1 rfl ((if_pos hc0).trans (if_neg (fun q => c7 (Int32.not_lt.mp q))))) (fun H1 hk9 => ⟨kpF hk9 h_g, kpF hk9 h_arr, kpF hk9 h_d, kpF hk9 h_t, fam_back (kpF hk9 h_f) (kpF hk9 h_n)⟩) (Nat.le_of_ble_eq_true rfl) (Nat.le_of_ble_eq_true rfl)
