set_option maxRecDepth 20000 in
theorem inX11_unlike_11 : ∀ w ∈ u_ws RX11 TX11 12, w ∈ wsX11_unlike := by decide +kernel
set_option maxHeartbeats 4000000 in
set_option maxRecDepth 100000 in
/-- unlike -/
theorem c_X11_unlike (l : Launch) (hfl : l.stackTraces = false) (G : GG) (a : Nat → Nat) (ha : Inj a) (t9 : Nat) (Ns : Nat → NT) (w0 o0 w1 o1 : Nat → Int64) (p9 v9 : Int32) (hW : ∀ z, z < 4 → WF (Ns z))  : vx_Met l yX11_unlike wsX11_unlike ({ frames := 7, cells := 3, slots := 18, locals := 103 } : Room) (PcX G a t9 [.ref (a 0), .int p9, .int v9] (fun H => PP G ([(a 0, .inr (11, [.ref (a 1), .ref (a 2), .ref (a 4), .ref (a 6), .ref (a 21), .ref (a 28), .ref (a 31), .ref (a 36), .ref (a 41), .ref (a 42), .ref (a 45), .ref (a 48)]))]) H ∧ PP G ([(a 1, .inl (gQ G, 4, .inr (.inr (.inr (.inr (fun z => some (a (49 + 11 * z))))))))]) H ∧ PP G (lanW G a 31 w0 o0) H ∧ PP G (lanW G a 36 w1 o1) H ∧ NSP G a Ns H)) (QI (fun (r : Int32) (_ : ((Nat → Int64) × (Nat → Int64)) × ((Nat → Int64) × (Nat → Int64))) => cUn Ns p9 v9 = 0 ∧ unS (Ns (ix p9)) (Ns (ix v9)) (2 ^ nIn (Ns (ix p9))) r) (fun u H => PP G ([(a 0, .inr (11, [.ref (a 1), .ref (a 2), .ref (a 4), .ref (a 6), .ref (a 21), .ref (a 28), .ref (a 31), .ref (a 36), .ref (a 41), .ref (a 42), .ref (a 45), .ref (a 48)]))]) H ∧ PP G ([(a 1, .inl (gQ G, 4, .inr (.inr (.inr (.inr (fun z => some (a (49 + 11 * z))))))))]) H ∧ PP G (lanW G a 31 u.1.1 u.1.2) H ∧ PP G (lanW G a 36 u.2.1 u.2.2) H ∧ NSP G a Ns H) (rng a 31 10)) (XQ (XE (cUn Ns p9 v9)) (fun H => PP G ([(a 0, .inr (11, [.ref (a 1), .ref (a 2), .ref (a 4), .ref (a 6), .ref (a 21), .ref (a 28), .ref (a 31), .ref (a 36), .ref (a 41), .ref (a 42), .ref (a 45), .ref (a 48)]))]) H ∧ PP G ([(a 1, .inl (gQ G, 4, .inr (.inr (.inr (.inr (fun z => some (a (49 + 11 * z))))))))]) H ∧ PP G (lanW G a 31 w0 o0) H ∧ PP G (lanW G a 36 w1 o1) H ∧ NSP G a Ns H) (rng a 31 10)) 3 18 (rng a 31 10) := by
  refine vx_ofW (cc := cX11_unlike) (maxL := 8) (ret := (some .int)) (by decide) rfl ?_
  intro p e s m args below meth c s₁ B hml htab hv
  obtain ⟨⟨⟨rfl, hB, hK, hNW⟩, hLow⟩, hX⟩ := hv
  have hx := B.exec
  have hb := B.bytes
  have hr := B.returns
  have hts := atoms_spec (ws := wsX11_unlike) B.pre
  have hown : s.vm.findClass RX11 = some m.cls := findClass_of_methodNamed B.named
  have hlocks := B.notSynchronized
  have FX : CallFix p m c cX11_unlike 8 s ([.ref (a 0), .int p9, .int v9] : List Value).toArray wsX11_unlike RX11 := ⟨hx, hb, hml, hown, hts⟩
  have hl := lv_entry ([.ref (a 0), .int p9, .int v9]) (n := 8) (Nat.le_of_ble_eq_true rfl)
  rw [lg_entry_eq]
  generalize (lg_sl ([.ref (a 0), .int p9, .int v9]) ++ List.replicate (8 - (lg_sl ([.ref (a 0), .int p9, .int v9])).length) Slot.unset).toArray = ls at hl ⊢
  have hl : lv_has ls 8 [(0, .ref (a 0)), (1, .int p9), (2, .int v9)] := hl
  obtain ⟨h_g, h_arr, h_l, h_l2, hns⟩ := hB
  have hS : va_S (rng a 31 10) s.heap s.heap [] := va_S.rf
  refine lv_aload_n hx hb dX11_unlike_0 rfl (lv_at hl 0 rfl) ?_
  refine lv_iload_n hx hb dX11_unlike_1 rfl (lv_at hl 1 rfl) ?_
  refine xcr (vx_runV (As := [.int p9]) (rest := []) FX (c_X11_netAt l hfl G a ha t9 p9) (cwV 1 hts gX11_unlike_X11_netAt rfl rfl rfl (by decide +kernel) ⟨Nat.le_of_ble_eq_true rfl, Nat.le_of_ble_eq_true rfl⟩) (preVX hK hNW (⟨h_g, h_arr⟩) (hLow.at hS (fun q9 _ q => rng_M q9 q)) (hX.at hS (fun q9 _ q => rng_M q9 q)) (va_recv hK h_g (ci := 11) (q0 := 0) rfl rfl)) rfl rfl hl.1 rfl (lv_room (Nat.le_of_ble_eq_true rfl)) dX11_unlike_2 ⟨Nat.le_of_ble_eq_true rfl, Nat.le_of_ble_eq_true rfl⟩) hS htab hlocks (fun H1 hk9 => ⟨kpF hk9 h_g, kpF hk9 h_arr, kpF hk9 h_l, kpF hk9 h_l2, fun z hz => kpF hk9 (hns z hz)⟩) (fun E hE9 => XE_1 hE9.1 (if_neg hE9.2)) (Nat.le_of_ble_eq_true rfl) (Nat.le_of_ble_eq_true rfl) (fun _ hc0 H locs hk1 hS => ?_)
  have h_g : PP G ([(a 0, .inr (11, [.ref (a 1), .ref (a 2), .ref (a 4), .ref (a 6), .ref (a 21), .ref (a 28), .ref (a 31), .ref (a 36), .ref (a 41), .ref (a 42), .ref (a 45), .ref (a 48)]))]) H := kpF hk1 h_g
  have h_arr : PP G ([(a 1, .inl (gQ G, 4, .inr (.inr (.inr (.inr (fun z => some (a (49 + 11 * z))))))))]) H := kpF hk1 h_arr
  have h_l : PP G (lanW G a 31 w0 o0) H := kpF hk1 h_l
  have h_l2 : PP G (lanW G a 36 w1 o1) H := kpF hk1 h_l2
  have hns : NSP G a Ns H := fun z hz => kpF hk1 (hns z hz)
  have hk4 := ix_lt hc0 (by omega)
  have h_f : PP G (famW G a Ns (ix p9)) H := fam_split hns
  have h_n : PP G (netW G a (49 + 11 * ix p9) (Ns (ix p9))) H := hns _ hk4
  have hN := hW _ hk4
  have hg9 := hN.g
  have ho9 := hN.o
  have hi9 := hN.2.1
  refine lv_astore_n (lv' := [(3, .ref (a (49 + 11 * ix p9))), (0, .ref (a 0)), (1, .int p9), (2, .int v9)]) hx hb dX11_unlike_5 rfl hl (by decide) rfl (fun ls hl => ?_)
  refine lv_aload_n hx hb dX11_unlike_6 rfl (lv_at hl 1 rfl) ?_
  refine lv_iload_n hx hb dX11_unlike_7 rfl (lv_at hl 3 rfl) ?_
  refine xcr (vx_runV (As := [.int v9]) (rest := []) FX (c_X11_netAt l hfl G a ha t9 v9) (cwV 1 hts gX11_unlike_X11_netAt rfl rfl rfl (by decide +kernel) ⟨Nat.le_of_ble_eq_true rfl, Nat.le_of_ble_eq_true rfl⟩) (preVX hK hNW (⟨h_g, h_arr⟩) (hLow.at hS (fun q9 _ q => rng_M q9 q)) (hX.at hS (fun q9 _ q => rng_M q9 q)) (va_recv hK h_g (ci := 11) (q0 := 0) rfl rfl)) rfl rfl hl.1 rfl (lv_room (Nat.le_of_ble_eq_true rfl)) dX11_unlike_8 ⟨Nat.le_of_ble_eq_true rfl, Nat.le_of_ble_eq_true rfl⟩) hS htab hlocks (fun H1 hk9 => ⟨kpF hk9 h_g, kpF hk9 h_arr, kpF hk9 h_l, kpF hk9 h_l2, fam_back (kpF hk9 h_f) (kpF hk9 h_n)⟩) (fun E hE9 => XE_1 hE9.1 ((if_pos hc0).trans (if_neg hE9.2))) (Nat.le_of_ble_eq_true rfl) (Nat.le_of_ble_eq_true rfl) (fun _ hc1 H locs hk2 hS => ?_)
  have h_g : PP G ([(a 0, .inr (11, [.ref (a 1), .ref (a 2), .ref (a 4), .ref (a 6), .ref (a 21), .ref (a 28), .ref (a 31), .ref (a 36), .ref (a 41), .ref (a 42), .ref (a 45), .ref (a 48)]))]) H := kpF hk2 h_g
  have h_arr : PP G ([(a 1, .inl (gQ G, 4, .inr (.inr (.inr (.inr (fun z => some (a (49 + 11 * z))))))))]) H := kpF hk2 h_arr
  have h_l : PP G (lanW G a 31 w0 o0) H := kpF hk2 h_l
  have h_l2 : PP G (lanW G a 36 w1 o1) H := kpF hk2 h_l2
  have h_f : PP G (famW G a Ns (ix p9)) H := kpF hk2 h_f
  have h_n : PP G (netW G a (49 + 11 * ix p9) (Ns (ix p9))) H := kpF hk2 h_n
  have hv4 := ix_lt hc1 (by omega)
  have h_n2 : PP G (netW G a (49 + 11 * ix v9) (Ns (ix v9))) H := fam_back h_f h_n _ hv4
  have hM := hW _ hv4
  have hj9 := hM.2.1
  refine lv_astore (lv' := [(4, .ref (a (49 + 11 * ix v9))), (3, .ref (a (49 + 11 * ix p9))), (0, .ref (a 0)), (1, .int p9), (2, .int v9)]) hx hb dX11_unlike_11 hl (by decide) rfl (fun ls hl => ?_)
  refine lv_aload_n hx hb dX11_unlike_13 rfl (lv_at hl 1 rfl) ?_
  refine ro_i (va_runV (As := []) (rest := []) FX (c_X3_inputCount l G a (49 + 11 * ix p9) (Ns (ix p9)) ) (cwV 0 hts gX11_unlike_X3_inputCount rfl rfl rfl (by decide +kernel) ⟨Nat.le_of_ble_eq_true rfl, Nat.le_of_ble_eq_true rfl⟩) (preV hK hNW h_n (va_recv hK h_n (ci := 3) (q0 := 0) rfl rfl)) rfl rfl hl.1 rfl (lv_room (Nat.le_of_ble_eq_true rfl)) dX11_unlike_14 ⟨Nat.le_of_ble_eq_true rfl, Nat.le_of_ble_eq_true rfl⟩) ?_
  refine lv_aload hx hb dX11_unlike_17 (lv_at hl 0 rfl) ?_
  refine ro_i (va_runV (As := []) (rest := [.int (nI (nIn (Ns (ix p9))))]) FX (c_X3_inputCount l G a (49 + 11 * ix v9) (Ns (ix v9))) (cwV 0 hts gX11_unlike_X3_inputCount rfl rfl rfl (by decide +kernel) ⟨Nat.le_of_ble_eq_true rfl, Nat.le_of_ble_eq_true rfl⟩) (preV hK hNW h_n2 (va_recv hK h_n2 (ci := 3) (q0 := 0) rfl rfl)) rfl rfl hl.1 rfl (lv_room (Nat.le_of_ble_eq_true rfl)) dX11_unlike_19 ⟨Nat.le_of_ble_eq_true rfl, Nat.le_of_ble_eq_true rfl⟩) ?_
  refine lv_icmp_ne (tgt := 34) hx hb dX11_unlike_22 (by decide) (fun c22 => ?_) (fun c22 => ?_)
  · skip
    have c22 := cv_ne (by omega) (by omega) c22
    exact thW (a := a) (cls := ISE) (text := "the inputs of the nets do not allow it") (is := 257) hx hb hfl hown (by decide +kernel) (hts (.classLink RX11 103 "java/lang/IllegalStateException") (List.mem_of_getElem? (i := 1) (by decide +kernel))) (hts (.initialized "java/lang/IllegalStateException") (List.mem_of_getElem? (i := 2) (by decide +kernel))) hX (by decide +kernel) (ht_ISE (fun w h => hts w (List.mem_cons_of_mem _ (List.mem_append_left _ (List.mem_append_right _ h)))) hX.2.1) hg_ISE (fun q9 q => rng_M q9 q) hS (hl.1.trans hml.symm) dX11_unlike_34 dX11_unlike_37 dX11_unlike_38 dX11_unlike_41 dX11_unlike_44 htab (Nat.le_of_ble_eq_true rfl) (Nat.le_of_ble_eq_true rfl) (Nat.le_of_ble_eq_true rfl) (Nat.le_of_ble_eq_true rfl) hlocks (XE_3 rfl ((if_pos hc0).trans ((if_pos hc1).trans (if_neg (fun q => by omega))))) (fun H1 hk9 => ⟨kpF hk9 h_g, kpF hk9 h_arr, kpF hk9 h_l, kpF hk9 h_l2, fam_back (kpF hk9 h_f) (kpF hk9 h_n)⟩) (Nat.le_of_ble_eq_true rfl) (Nat.le_of_ble_eq_true rfl)
  · skip
    have c22 := cv_eq (by omega) (by omega) c22
    refine lv_aload_n hx hb dX11_unlike_25 rfl (lv_at hl 1 rfl) ?_
    refine ro_i (va_runV (As := []) (rest := []) FX (c_X3_inputCount l G a (49 + 11 * ix p9) (Ns (ix p9)) ) (cwV 0 hts gX11_unlike_X3_inputCount rfl rfl rfl (by decide +kernel) ⟨Nat.le_of_ble_eq_true rfl, Nat.le_of_ble_eq_true rfl⟩) (preV hK hNW h_n (va_recv hK h_n (ci := 3) (q0 := 0) rfl rfl)) rfl rfl hl.1 rfl (lv_room (Nat.le_of_ble_eq_true rfl)) dX11_unlike_26 ⟨Nat.le_of_ble_eq_true rfl, Nat.le_of_ble_eq_true rfl⟩) ?_
    refine lv_bipush (v := nI 12) hx hb dX11_unlike_29 (by decide) ?_
    refine lv_icmp_le (tgt := 45) hx hb dX11_unlike_31 (by decide) (fun c31 => ?_) (fun c31 => ?_)
    · skip
      have c31 := cv_le (by omega) (by omega) c31
      obtain ⟨K9, hKe⟩ : ∃ K, K = 2 ^ nIn (Ns (ix p9)) := ⟨_, rfl⟩
      have hK9 : K9 ≤ 4096 := by rw [hKe]; exact Nat.pow_le_pow_right (by omega) (show nIn (Ns (ix p9)) ≤ 12 by omega)
      refine lv_iconst (v := nI 1) hx hb dX11_unlike_45 (by decide) ?_
      refine lv_aload_n hx hb dX11_unlike_46 rfl (lv_at hl 1 rfl) ?_
      refine ro_i (va_runV (As := []) (rest := [.int (nI 1)]) FX (c_X3_inputCount l G a (49 + 11 * ix p9) (Ns (ix p9)) ) (cwV 0 hts gX11_unlike_X3_inputCount rfl rfl rfl (by decide +kernel) ⟨Nat.le_of_ble_eq_true rfl, Nat.le_of_ble_eq_true rfl⟩) (preV hK hNW h_n (va_recv hK h_n (ci := 3) (q0 := 0) rfl rfl)) rfl rfl hl.1 rfl (lv_room (Nat.le_of_ble_eq_true rfl)) dX11_unlike_47 ⟨Nat.le_of_ble_eq_true rfl, Nat.le_of_ble_eq_true rfl⟩) ?_
      refine lv_ishl hx hb dX11_unlike_50 ?_
      refine lv_as (y := nI K9) (by rw [hKe]; exact shl1 (by omega)) ?_
      refine lv_istore (lv' := [(5, .int (nI K9)), (4, .ref (a (49 + 11 * ix v9))), (3, .ref (a (49 + 11 * ix p9))), (0, .ref (a 0)), (1, .int p9), (2, .int v9)]) hx hb dX11_unlike_51 hl (by decide) rfl (fun ls hl => ?_)
      refine lv_iconst (v := nI 0) hx hb dX11_unlike_53 (by decide) ?_
      refine lv_istore (lv' := [(6, .int (nI 0)), (5, .int (nI K9)), (4, .ref (a (49 + 11 * ix v9))), (3, .ref (a (49 + 11 * ix p9))), (0, .ref (a 0)), (1, .int p9), (2, .int v9)]) hx hb dX11_unlike_54 hl (by decide) rfl (fun ls hl => ?_)
      refine lv_loop5 56 (fun (b : Nat) (w : Nat → Int64) (o : Nat → Int64) (w2 : Nat → Int64) (o2 : Nat → Int64) => K9 + 64 - b) (fun (b : Nat) (w : Nat → Int64) (o : Nat → Int64) (w2 : Nat → Int64) (o2 : Nat → Int64) (H : Heap) (locs : List Loc) (ls : Array Slot) => (PP G ([(a 0, .inr (11, [.ref (a 1), .ref (a 2), .ref (a 4), .ref (a 6), .ref (a 21), .ref (a 28), .ref (a 31), .ref (a 36), .ref (a 41), .ref (a 42), .ref (a 45), .ref (a 48)]))]) H) ∧ (PP G ([(a 1, .inl (gQ G, 4, .inr (.inr (.inr (.inr (fun z => some (a (49 + 11 * z))))))))]) H) ∧ (PP G (lanW G a 31 w o) H) ∧ (PP G (lanW G a 36 w2 o2) H) ∧ (PP G (famW G a Ns (ix p9)) H) ∧ (PP G (netW G a (49 + 11 * ix p9) (Ns (ix p9))) H) ∧ (PP G (netW G a (49 + 11 * ix v9) (Ns (ix v9))) H) ∧ (va_S (rng a 31 10) s.heap H locs) ∧ (lv_has ls 8 [(0, .ref (a 0)), (1, .int p9), (2, .int v9), (3, .ref (a (49 + 11 * ix p9))), (4, .ref (a (49 + 11 * ix v9))), (5, .int (nI K9)), (6, .int (nI b))]) ∧ (b % 64 = 0) ∧ (b ≤ 4160) ∧ (∀ z, z < b → z < K9 → dfT (Ns (ix p9)) (Ns (ix v9)) z 16 = false)) (fun _ _ _ _ _ => []) (fun b w o w2 o2 H locs ls hI ih => ?_) 0 w0 o0 w1 o1 ⟨h_g, h_arr, h_l, h_l2, h_f, h_n, h_n2, hS, lv_sub hl [4, 5, 6, 3, 2, 1, 0] rfl, by omega, by omega, fun z h => absurd h (Nat.not_lt_zero _)⟩ rfl
      obtain ⟨h_g, h_arr, h_l, h_l2, h_f, h_n, h_n2, hS, hl, hb64, hbl, hdf⟩ := hI
      have ih3 := @ih
      clear ih
      refine lv_iload hx hb dX11_unlike_56 (lv_at hl 6 rfl) ?_
      refine lv_iload hx hb dX11_unlike_58 (lv_at hl 5 rfl) ?_
      refine lv_icmp_ge (tgt := 125) hx hb dX11_unlike_60 (by decide) (fun c60 => ?_) (fun c60 => ?_)
      · skip
        have c60 := cv_le (by omega) (by omega) c60
        refine lv_iconst (v := -1) hx hb dX11_unlike_125 (by decide) ?_
        refine retw (Nat.le_of_ble_eq_true rfl) (Nat.le_of_ble_eq_true rfl) ?_
        exact en_wi ((w, o), (w2, o2)) hx hb hr hlocks hS (⟨((if_pos hc0).trans ((if_pos hc1).trans (if_pos ⟨by omega, by omega⟩))), Or.inl ⟨rfl, fun n hn => hdf n (by omega) (by omega)⟩⟩) (⟨h_g, h_arr, h_l, h_l2, fam_back h_f h_n⟩) dX11_unlike_126
      · skip
        have c60 := cv_nle (by omega) (by omega) c60
        refine lv_aload_n hx hb dX11_unlike_63 rfl (lv_at hl 0 rfl) ?_
        refine va_get (D := G.1) (ci := 11) (v := .ref (a 31)) (C := RX11) (T := TX11) (N := 12) hx hb hts inX11_unlike_11 hown hK h_g 0 rfl rfl 6 (by decide) (hts (.fieldLink RX11 51 "GateLedger" "lanes" "LGateLedger$Lanes;") (List.mem_of_getElem? (i := 3) (by decide +kernel))) (fun _ h9 => h9) rfl dX11_unlike_64 ?_
        refine lv_aload_n hx hb dX11_unlike_67 rfl (lv_at hl 3 rfl) ?_
        refine lv_iload hx hb dX11_unlike_68 (lv_at hl 6 rfl) ?_
        refine wr_v (va_runV (As := [.ref (a (49 + 11 * ix p9)), .int (nI b)]) (rest := []) FX (c_X1_fillFrom l G a ha 31 (49 + 11 * ix p9) t9 (by omega) w o (Ns (ix p9)) hN b) (cwV 2 hts gX11_unlike_X1_fillFrom rfl rfl rfl (by decide +kernel) ⟨Nat.le_of_ble_eq_true rfl, Nat.le_of_ble_eq_true rfl⟩) (preVL hK hNW (⟨h_l, h_n⟩) (hLow.at hS (fun q9 _ q => rng_M q9 q)) (va_recv hK h_l (ci := 1) (q0 := 0) rfl rfl)) rfl rfl hl.1 rfl (lv_room (Nat.le_of_ble_eq_true rfl)) dX11_unlike_70 ⟨Nat.le_of_ble_eq_true rfl, Nat.le_of_ble_eq_true rfl⟩) hS (rng_sub (by omega)) (fun v8 H locs hv8 hP9 hk4 hS => ?_)
        have h_l : PP G (lanW G a 31 v8.1 v8.2) H := hP9
        have h_g : PP G ([(a 0, .inr (11, [.ref (a 1), .ref (a 2), .ref (a 4), .ref (a 6), .ref (a 21), .ref (a 28), .ref (a 31), .ref (a 36), .ref (a 41), .ref (a 42), .ref (a 45), .ref (a 48)]))]) H := kp hk4 h_g (dj_cons (rng_no ha (by omega)) (dj_nil))
        have h_arr : PP G ([(a 1, .inl (gQ G, 4, .inr (.inr (.inr (.inr (fun z => some (a (49 + 11 * z))))))))]) H := kp hk4 h_arr (dj_cons (rng_no ha (by omega)) (dj_nil))
        have h_l2 : PP G (lanW G a 36 w2 o2) H := kp hk4 h_l2 (dj_rng ha (lanW_in (G := G) (a := a) (i := 36) (w := w2) (o := o2)) (by omega))
        have h_f : PP G (famW G a Ns (ix p9)) H := kp hk4 h_f (dj_famo ha (by omega))
        have h_n : PP G (netW G a (49 + 11 * ix p9) (Ns (ix p9))) H := kp hk4 h_n (dj_rng ha (netW_in (G := G) (a := a) (j := (49 + 11 * ix p9)) (N := (Ns (ix p9)))) (by omega))
        have h_n2 : PP G (netW G a (49 + 11 * ix v9) (Ns (ix v9))) H := kp hk4 h_n2 (dj_rng ha (netW_in (G := G) (a := a) (j := (49 + 11 * ix v9)) (N := (Ns (ix v9)))) (by omega))
        refine lv_aload_n hx hb dX11_unlike_73 rfl (lv_at hl 0 rfl) ?_
        refine va_get (D := G.1) (ci := 11) (v := .ref (a 36)) (C := RX11) (T := TX11) (N := 12) hx hb hts inX11_unlike_11 hown hK h_g 0 rfl rfl 7 (by decide) (hts (.fieldLink RX11 55 "GateLedger" "otherLanes" "LGateLedger$Lanes;") (List.mem_of_getElem? (i := 4) (by decide +kernel))) (fun _ h9 => h9) rfl dX11_unlike_74 ?_
        refine lv_aload hx hb dX11_unlike_77 (lv_at hl 4 rfl) ?_
        refine lv_iload hx hb dX11_unlike_79 (lv_at hl 6 rfl) ?_
        refine wr_v (va_runV (As := [.ref (a (49 + 11 * ix v9)), .int (nI b)]) (rest := []) FX (c_X1_fillFrom l G a ha 36 (49 + 11 * ix v9) t9 (by omega) w2 o2 (Ns (ix v9)) hM b) (cwV 2 hts gX11_unlike_X1_fillFrom rfl rfl rfl (by decide +kernel) ⟨Nat.le_of_ble_eq_true rfl, Nat.le_of_ble_eq_true rfl⟩) (preVL hK hNW (⟨h_l2, h_n2⟩) (hLow.at hS (fun q9 _ q => rng_M q9 q)) (va_recv hK h_l2 (ci := 1) (q0 := 0) rfl rfl)) rfl rfl hl.1 rfl (lv_room (Nat.le_of_ble_eq_true rfl)) dX11_unlike_81 ⟨Nat.le_of_ble_eq_true rfl, Nat.le_of_ble_eq_true rfl⟩) hS (rng_sub (by omega)) (fun w8 H locs hw8 hP9 hk6 hS => ?_)
        have h_l2 : PP G (lanW G a 36 w8.1 w8.2) H := hP9
        have h_g : PP G ([(a 0, .inr (11, [.ref (a 1), .ref (a 2), .ref (a 4), .ref (a 6), .ref (a 21), .ref (a 28), .ref (a 31), .ref (a 36), .ref (a 41), .ref (a 42), .ref (a 45), .ref (a 48)]))]) H := kp hk6 h_g (dj_cons (rng_no ha (by omega)) (dj_nil))
        have h_arr : PP G ([(a 1, .inl (gQ G, 4, .inr (.inr (.inr (.inr (fun z => some (a (49 + 11 * z))))))))]) H := kp hk6 h_arr (dj_cons (rng_no ha (by omega)) (dj_nil))
        have h_l : PP G (lanW G a 31 v8.1 v8.2) H := kp hk6 h_l (dj_rng ha (lanW_in (G := G) (a := a) (i := 31) (w := v8.1) (o := v8.2)) (by omega))
        have h_f : PP G (famW G a Ns (ix p9)) H := kp hk6 h_f (dj_famo ha (by omega))
        have h_n : PP G (netW G a (49 + 11 * ix p9) (Ns (ix p9))) H := kp hk6 h_n (dj_rng ha (netW_in (G := G) (a := a) (j := (49 + 11 * ix p9)) (N := (Ns (ix p9)))) (by omega))
        have h_n2 : PP G (netW G a (49 + 11 * ix v9) (Ns (ix v9))) H := kp hk6 h_n2 (dj_rng ha (netW_in (G := G) (a := a) (j := (49 + 11 * ix v9)) (N := (Ns (ix v9)))) (by omega))
        have hA1 := fun i (hi : i < 64) => lb_o hN hb64 (by omega) hi hv8.2
        have hA2 := fun i (hi : i < 64) => lb_o hM hb64 (by omega) hi hw8.2
        refine lv_aload_n hx hb dX11_unlike_84 rfl (lv_at hl 0 rfl) ?_
        refine va_get (D := G.1) (ci := 11) (v := .ref (a 31)) (C := RX11) (T := TX11) (N := 12) hx hb hts inX11_unlike_11 hown hK h_g 0 rfl rfl 6 (by decide) (hts (.fieldLink RX11 51 "GateLedger" "lanes" "LGateLedger$Lanes;") (List.mem_of_getElem? (i := 3) (by decide +kernel))) (fun _ h9 => h9) rfl dX11_unlike_85 ?_
        refine lv_aload_n hx hb dX11_unlike_88 rfl (lv_at hl 0 rfl) ?_
        refine va_get (D := G.1) (ci := 11) (v := .ref (a 36)) (C := RX11) (T := TX11) (N := 12) hx hb hts inX11_unlike_11 hown hK h_g 0 rfl rfl 7 (by decide) (hts (.fieldLink RX11 55 "GateLedger" "otherLanes" "LGateLedger$Lanes;") (List.mem_of_getElem? (i := 4) (by decide +kernel))) (fun _ h9 => h9) rfl dX11_unlike_89 ?_
        refine lv_bipush (v := nI 64) hx hb dX11_unlike_92 (by decide) ?_
        refine lv_iload hx hb dX11_unlike_94 (lv_at hl 5 rfl) ?_
        refine lv_iload hx hb dX11_unlike_96 (lv_at hl 6 rfl) ?_
        refine lv_isub hx hb dX11_unlike_98 ?_
        refine lv_as (pk_sub (by omega)) ?_
        refine va_mmin hx hb (hml.trans hl.1.symm) hown (hts (.methodLink RX11 262 Lib.Math.min.name) (List.mem_of_getElem? (i := 5) (by decide +kernel))) (hts (.static Lib.Math.min.name) (List.mem_of_getElem? (i := 6) (by decide +kernel))) (hts (.initialized "java/lang/Math") (List.mem_of_getElem? (i := 7) (by decide +kernel))) (hts (.code Lib.Math.min.name Lib.Math.min.code 2 (some .int)) (List.mem_of_getElem? (i := 8) (by decide +kernel))) (Nat.le_of_ble_eq_true rfl) (Nat.le_of_ble_eq_true rfl) (Nat.le_of_ble_eq_true rfl) (Nat.le_of_ble_eq_true rfl) dX11_unlike_99 ?_
        refine lv_as (y := nI (min 64 (K9 - b))) (mmin_nat (by omega) (by omega)) ?_
        refine ro_i (va_runV (As := [.ref (a 36), .int (nI (min 64 (K9 - b)))]) (rest := []) FX (c_X1_firstUnlike l G a 31 36 v8.1 v8.2 w8.1 w8.2 (min 64 (K9 - b)) (by omega)) (cwV 2 hts gX11_unlike_X1_firstUnlike rfl rfl rfl (by decide +kernel) ⟨Nat.le_of_ble_eq_true rfl, Nat.le_of_ble_eq_true rfl⟩) (preV hK hNW (⟨h_l, h_l2⟩) (va_recv hK h_l (ci := 1) (q0 := 0) rfl rfl)) rfl rfl hl.1 rfl (lv_room (Nat.le_of_ble_eq_true rfl)) dX11_unlike_102 ⟨Nat.le_of_ble_eq_true rfl, Nat.le_of_ble_eq_true rfl⟩) ?_
        refine lv_istore (lv' := [(7, .int (oI (fuW (unW v8.2 w8.2 16) (min 64 (K9 - b))))), (0, .ref (a 0)), (1, .int p9), (2, .int v9), (3, .ref (a (49 + 11 * ix p9))), (4, .ref (a (49 + 11 * ix v9))), (5, .int (nI K9)), (6, .int (nI b))]) hx hb dX11_unlike_105 hl (by decide) rfl (fun ls hl => ?_)
        refine lv_iload hx hb dX11_unlike_107 (lv_at hl 0 rfl) ?_
        refine lv_iconst (v := -1) hx hb dX11_unlike_109 (by decide) ?_
        refine lv_icmp_eq (tgt := 119) hx hb dX11_unlike_110 (by decide) (fun c110 => ?_) (fun c110 => ?_)
        · skip
          have en := oI_none (fun g h => by have := (un_some hA1 hA2 h hdf).1; omega) c110
          refine lv_iinc (v := nI (b + 64)) (lv' := [(6, .int (nI (b + 64))), (7, .int (oI (fuW (unW v8.2 w8.2 16) (min 64 (K9 - b))))), (0, .ref (a 0)), (1, .int p9), (2, .int v9), (3, .ref (a (49 + 11 * ix p9))), (4, .ref (a (49 + 11 * ix v9))), (5, .int (nI K9))]) hx hb dX11_unlike_119 hl (k := 7) rfl (by first | exact nI_add _ 64 | decide) (by decide) rfl (fun ls hl => ?_)
          refine lv_goto (tgt := 56) hx hb dX11_unlike_122 (by decide) ?_
          exact ih3 (b + 64) v8.1 v8.2 w8.1 w8.2 _ _ _ ⟨h_g, h_arr, h_l, h_l2, h_f, h_n, h_n2, hS, lv_sub hl [2, 3, 4, 5, 6, 7, 0] rfl, by omega, by omega, un_none hA1 hA2 en hdf⟩ (by show K9 + 64 - (b + 64) < K9 + 64 - b; omega)
        · skip
          obtain ⟨rr, er⟩ := oI_some c110
          have hsm := un_some hA1 hA2 er hdf
          have eoi : oI (fuW (unW v8.2 w8.2 16) (min 64 (K9 - b))) = nI rr := congrArg oI er
          rw [eoi] at hl
          refine lv_iload hx hb dX11_unlike_113 (lv_at hl 7 rfl) ?_
          refine lv_iload hx hb dX11_unlike_115 (lv_at hl 0 rfl) ?_
          refine lv_iadd hx hb dX11_unlike_117 ?_
          refine lv_as (nI_add _ _) ?_
          refine retw (Nat.le_of_ble_eq_true rfl) (Nat.le_of_ble_eq_true rfl) ?_
          exact en_wi (v8, w8) hx hb hr hlocks hS (⟨((if_pos hc0).trans ((if_pos hc1).trans (if_pos ⟨by omega, by omega⟩))), by rw [← hKe]; exact hsm.2.2⟩) (⟨h_g, h_arr, h_l, h_l2, fam_back h_f h_n⟩) dX11_unlike_118
    · skip
      have c31 := cv_nle (by omega) (by omega) c31
      exact thW (a := a) (cls := ISE) (text := "the inputs of the nets do not allow it") (is := 257) hx hb hfl hown (by decide +kernel) (hts (.classLink RX11 103 "java/lang/IllegalStateException") (List.mem_of_getElem? (i := 1) (by decide +kernel))) (hts (.initialized "java/lang/IllegalStateException") (List.mem_of_getElem? (i := 2) (by decide +kernel))) hX (by decide +kernel) (ht_ISE (fun w h => hts w (List.mem_cons_of_mem _ (List.mem_append_left _ (List.mem_append_right _ h)))) hX.2.1) hg_ISE (fun q9 q => rng_M q9 q) hS (hl.1.trans hml.symm) dX11_unlike_34 dX11_unlike_37 dX11_unlike_38 dX11_unlike_41 dX11_unlike_44 htab (Nat.le_of_ble_eq_true rfl) (Nat.le_of_ble_eq_true rfl) (Nat.le_of_ble_eq_true rfl) (Nat.le_of_ble_eq_true rfl) hlocks (XE_3 rfl ((if_pos hc0).trans ((if_pos hc1).trans (if_neg (fun q => by omega))))) (fun H1 hk9 => ⟨kpF hk9 h_g, kpF hk9 h_arr, kpF hk9 h_l, kpF hk9 h_l2, fam_back (kpF hk9 h_f) (kpF hk9 h_n)⟩) (Nat.le_of_ble_eq_true rfl) (Nat.le_of_ble_eq_true rfl)
