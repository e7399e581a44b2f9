set_option maxHeartbeats 4000000 in
set_option maxRecDepth 100000 in
/-- digit -/
theorem c_X11_digit (l : Launch) (hfl : l.stackTraces = false) (G : GG) (a : Nat → Nat) (ha : Inj a) (t9 : Nat) (x9 k9 : Int32)  : vx_Met l yX11_digit wsX11_digit ({ frames := 7, cells := 1, slots := 6, locals := 104 } : Room) (PcX G a t9 [.ref (a 0), .int x9, .int k9] (fun H => PP G ([(a 0, .inr (11, [.ref (a 1), .ref (a 2), .ref (a 4), .ref (a 6), .ref (a 21), .ref (a 28), .ref (a 31), .ref (a 36), .ref (a 41), .ref (a 42), .ref (a 45), .ref (a 48)]))]) H)) (QI (fun (r : Int32) (_ : Unit) => cDi x9 k9 = 0 ∧ r = diV x9 (ix k9)) (fun _ H => PP G ([(a 0, .inr (11, [.ref (a 1), .ref (a 2), .ref (a 4), .ref (a 6), .ref (a 21), .ref (a 28), .ref (a 31), .ref (a 36), .ref (a 41), .ref (a 42), .ref (a 45), .ref (a 48)]))]) H) nA) (XQ (XE (cDi x9 k9)) (fun H => PP G ([(a 0, .inr (11, [.ref (a 1), .ref (a 2), .ref (a 4), .ref (a 6), .ref (a 21), .ref (a 28), .ref (a 31), .ref (a 36), .ref (a 41), .ref (a 42), .ref (a 45), .ref (a 48)]))]) H) nA) 1 6 nA := by
  refine vx_ofW (cc := cX11_digit) (maxL := 5) (ret := (some .int)) (by decide) rfl ?_
  intro p e s m args below meth c s₁ B hml htab hv
  obtain ⟨⟨⟨rfl, hB, hK, hNW⟩, hLow⟩, hX⟩ := hv
  have hx := B.exec
  have hb := B.bytes
  have hr := B.returns
  have hts := atoms_spec (ws := wsX11_digit) B.pre
  have hown : s.vm.findClass RX11 = some m.cls := findClass_of_methodNamed B.named
  have hlocks := B.notSynchronized
  have FX : CallFix p m c cX11_digit 5 s ([.ref (a 0), .int x9, .int k9] : List Value).toArray wsX11_digit RX11 := ⟨hx, hb, hml, hown, hts⟩
  have hl := lv_entry ([.ref (a 0), .int x9, .int k9]) (n := 5) (Nat.le_of_ble_eq_true rfl)
  rw [lg_entry_eq]
  generalize (lg_sl ([.ref (a 0), .int x9, .int k9]) ++ List.replicate (5 - (lg_sl ([.ref (a 0), .int x9, .int k9])).length) Slot.unset).toArray = ls at hl ⊢
  have hl : lv_has ls 5 [(0, .ref (a 0)), (1, .int x9), (2, .int k9)] := hl
  have h_g := hB
  have hS : va_S nA s.heap s.heap [] := va_S.rf
  refine lv_iload_n hx hb dX11_digit_0 rfl (lv_at hl 2 rfl) ?_
  refine lv_if_lt (tgt := 10) hx hb dX11_digit_1 (by decide) (fun c1 => ?_) (fun c1 => ?_)
  · skip
    exact thS (a := a) (cls := IOB) (text := "no such place") (is := 208) hx hb hfl hown (by decide +kernel) (hts (.classLink RX11 206 "java/lang/IndexOutOfBoundsException") (List.mem_of_getElem? (i := 1) (by decide +kernel))) (hts (.initialized "java/lang/IndexOutOfBoundsException") (List.mem_of_getElem? (i := 2) (by decide +kernel))) hX (by decide +kernel) (ht_IOB (fun w h => hts w (List.mem_cons_of_mem _ (List.mem_append_left _ (List.mem_append_right _ h)))) hX.2.1) hg_IOB (fun _ h => h.elim) hS (hl.1.trans hml.symm) dX11_digit_10 dX11_digit_13 dX11_digit_14 dX11_digit_16 dX11_digit_19 htab (Nat.le_of_ble_eq_true rfl) (Nat.le_of_ble_eq_true rfl) (Nat.le_of_ble_eq_true rfl) (Nat.le_of_ble_eq_true rfl) hlocks (XE_1 rfl (if_neg (fun q => q.1 c1))) (fun H1 hk9 => kpF hk9 h_g) (Nat.le_of_ble_eq_true rfl) (Nat.le_of_ble_eq_true rfl)
  · skip
    refine lv_iload_n hx hb dX11_digit_4 rfl (lv_at hl 2 rfl) ?_
    refine lv_bipush (v := nI 15) hx hb dX11_digit_5 (by decide) ?_
    refine lv_icmp_le (tgt := 20) hx hb dX11_digit_7 (by decide) (fun c7 => ?_) (fun c7 => ?_)
    · skip
      refine lv_iload_n hx hb dX11_digit_20 rfl (lv_at hl 1 rfl) ?_
      refine lv_iconst (v := nI 0) hx hb dX11_digit_21 (by decide) ?_
      refine lv_ldcw (v := nI 2147483647) hx hb hown (hts (.constant RX11 272 (2147483647)) (List.mem_of_getElem? (i := 3) (by decide +kernel))) dX11_digit_22 ?_
      refine xcv (vx_runS (As := [.int x9, .int (nI 0), .int (nI 2147483647)]) (rest := []) FX (c_X11_needRange l hfl G a ha t9 x9 (nI 0) (nI 2147483647)) (va_cwS 3 hts gX11_digit_X11_needRange rfl rfl rfl (by decide +kernel) ⟨Nat.le_of_ble_eq_true rfl, Nat.le_of_ble_eq_true rfl⟩) (preSX hK hNW trivial (hLow.at hS (fun q9 _ q => q.elim)) (hX.at hS (fun q9 _ q => q.elim))) rfl rfl hl.1 rfl (lv_room (Nat.le_of_ble_eq_true rfl)) dX11_digit_25 ⟨Nat.le_of_ble_eq_true rfl, Nat.le_of_ble_eq_true rfl⟩) hS htab hlocks (fun H1 hk9 => kpF hk9 h_g) (fun E hE9 => XE_2 hE9.1 ((if_pos ⟨c1, c7⟩).trans (if_neg hE9.2))) (Nat.le_of_ble_eq_true rfl) (Nat.le_of_ble_eq_true rfl) (fun q1 H locs hk1 hS => ?_)
      have h_g : PP G ([(a 0, .inr (11, [.ref (a 1), .ref (a 2), .ref (a 4), .ref (a 6), .ref (a 21), .ref (a 28), .ref (a 31), .ref (a 36), .ref (a 41), .ref (a 42), .ref (a 45), .ref (a 48)]))]) H := kpF hk1 h_g
      obtain ⟨ek, lk, lk2⟩ := rg_ix (x := k9) (lo := 0) (hi := 15) c1 c7 (by omega) (by omega)
      rw [ek] at hl
      refine lv_iconst (v := nI 2) hx hb dX11_digit_28 (by decide) ?_
      refine lv_iload_n hx hb dX11_digit_29 rfl (lv_at hl 2 rfl) ?_
      refine lv_imul hx hb dX11_digit_30 ?_
      refine lv_as (pk_mul _ _) ?_
      refine lv_istore_n (lv' := [(3, .int (nI (2 * (ix k9)))), (0, .ref (a 0)), (1, .int x9), (2, .int (nI (ix k9)))]) hx hb dX11_digit_31 rfl hl (by decide) rfl (fun ls hl => ?_)
      refine lv_iload_n hx hb dX11_digit_32 rfl (lv_at hl 0 rfl) ?_
      refine lv_if_ne (tgt := 40) hx hb dX11_digit_33 (by decide) (fun c33 => ?_) (fun c33 => ?_)
      · skip
        have c33 := cv_ne (by omega) (by omega) (show ¬ nI (2 * (ix k9)) = nI 0 from c33)
        refine lv_iload_n hx hb dX11_digit_40 rfl (lv_at hl 2 rfl) ?_
        refine lv_iload_n hx hb dX11_digit_41 rfl (lv_at hl 0 rfl) ?_
        refine lv_iconst (v := nI 1) hx hb dX11_digit_42 (by decide) ?_
        refine lv_isub hx hb dX11_digit_43 ?_
        refine lv_as (pk_sub (by omega)) ?_
        refine lv_ishr hx hb dX11_digit_44 ?_
        refine lv_iconst (v := nI 1) hx hb dX11_digit_45 (by decide) ?_
        refine lv_iand hx hb dX11_digit_46 ?_
        refine lv_istore (lv' := [(4, .int ((x9 >>> ((nI ((2 * (ix k9)) - 1)) &&& 31)) &&& (nI 1))), (3, .int (nI (2 * (ix k9)))), (0, .ref (a 0)), (1, .int x9), (2, .int (nI (ix k9)))]) hx hb dX11_digit_47 hl (by decide) rfl (fun ls hl => ?_)
        refine lv_iload_n hx hb dX11_digit_49 rfl (lv_at hl 3 rfl) ?_
        refine lv_iload_n hx hb dX11_digit_50 rfl (lv_at hl 1 rfl) ?_
        refine lv_ishr hx hb dX11_digit_51 ?_
        refine lv_iconst (v := nI 1) hx hb dX11_digit_52 (by decide) ?_
        refine lv_iand hx hb dX11_digit_53 ?_
        refine lv_iload hx hb dX11_digit_54 (lv_at hl 0 rfl) ?_
        refine lv_iadd hx hb dX11_digit_56 ?_
        refine lv_iconst (v := nI 2) hx hb dX11_digit_57 (by decide) ?_
        refine lv_iload_n hx hb dX11_digit_58 rfl (lv_at hl 3 rfl) ?_
        refine lv_iload_n hx hb dX11_digit_59 rfl (lv_at hl 1 rfl) ?_
        refine lv_iconst (v := nI 1) hx hb dX11_digit_60 (by decide) ?_
        refine lv_iadd hx hb dX11_digit_61 ?_
        refine lv_as (nI_add _ _) ?_
        refine lv_ishr hx hb dX11_digit_62 ?_
        refine lv_iconst (v := nI 1) hx hb dX11_digit_63 (by decide) ?_
        refine lv_iand hx hb dX11_digit_64 ?_
        refine lv_imul hx hb dX11_digit_65 ?_
        refine lv_isub hx hb dX11_digit_66 ?_
        refine retw (Nat.le_of_ble_eq_true rfl) (Nat.le_of_ble_eq_true rfl) ?_
        exact en_wi () hx hb hr hlocks hS (⟨((if_pos ⟨c1, c7⟩).trans (if_pos q1)), by unfold diV; first | rw [if_neg (show ¬ ix k9 = 0 by omega)] | rw [if_pos (show ix k9 = 0 by omega)]⟩) (h_g) dX11_digit_67
      · skip
        have c33 := cv_eq (by omega) (by omega) (show nI (2 * (ix k9)) = nI 0 from c33)
        refine lv_iconst (v := nI 0) hx hb dX11_digit_36 (by decide) ?_
        refine lv_goto (tgt := 47) hx hb dX11_digit_37 (by decide) ?_
        refine lv_istore (lv' := [(4, .int (nI 0)), (3, .int (nI (2 * (ix k9)))), (0, .ref (a 0)), (1, .int x9), (2, .int (nI (ix k9)))]) hx hb dX11_digit_47 hl (by decide) rfl (fun ls hl => ?_)
        refine lv_iload_n hx hb dX11_digit_49 rfl (lv_at hl 3 rfl) ?_
        refine lv_iload_n hx hb dX11_digit_50 rfl (lv_at hl 1 rfl) ?_
        refine lv_ishr hx hb dX11_digit_51 ?_
        refine lv_iconst (v := nI 1) hx hb dX11_digit_52 (by decide) ?_
        refine lv_iand hx hb dX11_digit_53 ?_
        refine lv_iload hx hb dX11_digit_54 (lv_at hl 0 rfl) ?_
        refine lv_iadd hx hb dX11_digit_56 ?_
        refine lv_iconst (v := nI 2) hx hb dX11_digit_57 (by decide) ?_
        refine lv_iload_n hx hb dX11_digit_58 rfl (lv_at hl 3 rfl) ?_
        refine lv_iload_n hx hb dX11_digit_59 rfl (lv_at hl 1 rfl) ?_
        refine lv_iconst (v := nI 1) hx hb dX11_digit_60 (by decide) ?_
        refine lv_iadd hx hb dX11_digit_61 ?_
        refine lv_as (nI_add _ _) ?_
        refine lv_ishr hx hb dX11_digit_62 ?_
        refine lv_iconst (v := nI 1) hx hb dX11_digit_63 (by decide) ?_
        refine lv_iand hx hb dX11_digit_64 ?_
        refine lv_imul hx hb dX11_digit_65 ?_
        refine lv_isub hx hb dX11_digit_66 ?_
        refine retw (Nat.le_of_ble_eq_true rfl) (Nat.le_of_ble_eq_true rfl) ?_
        exact en_wi () hx hb hr hlocks hS (⟨((if_pos ⟨c1, c7⟩).trans (if_pos q1)), by unfold diV; first | rw [if_neg (show ¬ ix k9 = 0 by omega)] | rw [if_pos (show ix k9 = 0 by omega)]⟩) (h_g) dX11_digit_67
    · skip
      exact thS (a := a) (cls := IOB) (text := "no such place") (is := 208) hx hb hfl hown (by decide +kernel) (hts (.classLink RX11 206 "java/lang/IndexOutOfBoundsException") (List.mem_of_getElem? (i := 1) (by decide +kernel))) (hts (.initialized "java/lang/IndexOutOfBoundsException") (List.mem_of_getElem? (i := 2) (by decide +kernel))) hX (by decide +kernel) (ht_IOB (fun w h => hts w (List.mem_cons_of_mem _ (List.mem_append_left _ (List.mem_append_right _ h)))) hX.2.1) hg_IOB (fun _ h => h.elim) hS (hl.1.trans hml.symm) dX11_digit_10 dX11_digit_13 dX11_digit_14 dX11_digit_16 dX11_digit_19 htab (Nat.le_of_ble_eq_true rfl) (Nat.le_of_ble_eq_true rfl) (Nat.le_of_ble_eq_true rfl) (Nat.le_of_ble_eq_true rfl) hlocks (XE_1 rfl (if_neg (fun q => c7 q.2))) (fun H1 hk9 => kpF hk9 h_g) (Nat.le_of_ble_eq_true rfl) (Nat.le_of_ble_eq_true rfl)
