set_option maxHeartbeats 4000000 in
set_option maxRecDepth 100000 in
/-- follows -/
theorem c_X12_follows (l : Launch) (G : GG) (kd : Nat) (b1 b2 : Bool) (hkd : kd < 2 ^ 30) : Met l yX12_follows wsX12_follows ({ frames := 0, cells := 0, slots := 0, locals := 0 } : Room) (PcB G [.int (nI kd), .int (bi (b1)), .int (bi (b2))] (fun H => True)) (vp_Si (fun r => r = bi (jn kd b1 b2))) 0 0 (fun _ => False) := by
  refine Met.ofW (cc := cX12_follows) (maxL := 3) (ret := (some .int)) (by decide) rfl ?_
  intro p e s m args below meth c s₁ B hml hv
  obtain ⟨rfl, hB, hK, hNW⟩ := hv
  have hx := B.exec
  have hb := B.bytes
  have hr := B.returns
  have hts := atoms_spec (ws := wsX12_follows) B.pre
  have hown : s.vm.findClass RX12 = some m.cls := findClass_of_methodNamed B.named
  have hlocks := B.notSynchronized
  have FX : CallFix p m c cX12_follows 3 s ([.int (nI kd), .int (bi (b1)), .int (bi (b2))] : List Value).toArray wsX12_follows RX12 := ⟨hx, hb, hml, hown, hts⟩
  have hl := lv_entry ([.int (nI kd), .int (bi (b1)), .int (bi (b2))]) (n := 3) (Nat.le_of_ble_eq_true rfl)
  rw [lg_entry_eq]
  generalize (lg_sl ([.int (nI kd), .int (bi (b1)), .int (bi (b2))]) ++ List.replicate (3 - (lg_sl ([.int (nI kd), .int (bi (b1)), .int (bi (b2))])).length) Slot.unset).toArray = ls at hl ⊢
  have hl : lv_has ls 3 [(0, .int (nI kd)), (1, .int (bi (b1))), (2, .int (bi (b2)))] := hl
  refine lv_iload_n hx hb dX12_follows_0 rfl (lv_at hl 0 rfl) ?_
  refine lv_if_ne (tgt := 10) hx hb dX12_follows_1 (by decide) (fun c1 => ?_) (fun c1 => ?_)
  · skip
    have c1 := cv_ne (by omega) (by omega) (show ¬ nI kd = nI 0 from c1)
    refine lv_iload_n hx hb dX12_follows_10 rfl (lv_at hl 0 rfl) ?_
    refine lv_iconst (v := nI 1) hx hb dX12_follows_11 (by decide) ?_
    refine lv_icmp_ne (tgt := 21) hx hb dX12_follows_12 (by decide) (fun c12 => ?_) (fun c12 => ?_)
    · skip
      have c12 := cv_ne (by omega) (by omega) c12
      refine lv_iload_n hx hb dX12_follows_21 rfl (lv_at hl 0 rfl) ?_
      refine lv_iconst (v := nI 2) hx hb dX12_follows_22 (by decide) ?_
      refine lv_icmp_ne (tgt := 32) hx hb dX12_follows_23 (by decide) (fun c23 => ?_) (fun c23 => ?_)
      · skip
        have c23 := cv_ne (by omega) (by omega) c23
        refine lv_iconst (v := nI 1) hx hb dX12_follows_32 (by decide) ?_
        refine lv_iload_n hx hb dX12_follows_33 rfl (lv_at hl 1 rfl) ?_
        refine lv_isub hx hb dX12_follows_34 ?_
        exact en_i hx hb hr hlocks (by first | (rw [jn_0 c1]; exact jn_and) | (rw [jn_1 c1 c12]; exact jn_or) | (rw [jn_2 c1 c12 c23]; exact jn_xor) | (rw [jn_3 c1 c12 c23]; exact jn_not)) dX12_follows_35
      · skip
        have c23 := cv_eq (by omega) (by omega) c23
        refine lv_iload_n hx hb dX12_follows_26 rfl (lv_at hl 1 rfl) ?_
        refine lv_iload_n hx hb dX12_follows_27 rfl (lv_at hl 2 rfl) ?_
        refine lv_ixor hx hb dX12_follows_28 ?_
        refine lv_goto (tgt := 35) hx hb dX12_follows_29 (by decide) ?_
        exact en_i hx hb hr hlocks (by first | (rw [jn_0 c1]; exact jn_and) | (rw [jn_1 c1 c12]; exact jn_or) | (rw [jn_2 c1 c12 c23]; exact jn_xor) | (rw [jn_3 c1 c12 c23]; exact jn_not)) dX12_follows_35
    · skip
      have c12 := cv_eq (by omega) (by omega) c12
      refine lv_iload_n hx hb dX12_follows_15 rfl (lv_at hl 1 rfl) ?_
      refine lv_iload_n hx hb dX12_follows_16 rfl (lv_at hl 2 rfl) ?_
      refine lv_ior hx hb dX12_follows_17 ?_
      refine lv_goto (tgt := 35) hx hb dX12_follows_18 (by decide) ?_
      exact en_i hx hb hr hlocks (by first | (rw [jn_0 c1]; exact jn_and) | (rw [jn_1 c1 c12]; exact jn_or) | (rw [jn_2 c1 c12 c23]; exact jn_xor) | (rw [jn_3 c1 c12 c23]; exact jn_not)) dX12_follows_35
  · skip
    have c1 := cv_eq (by omega) (by omega) (show nI kd = nI 0 from c1)
    refine lv_iload_n hx hb dX12_follows_4 rfl (lv_at hl 1 rfl) ?_
    refine lv_iload_n hx hb dX12_follows_5 rfl (lv_at hl 2 rfl) ?_
    refine lv_iand hx hb dX12_follows_6 ?_
    refine lv_goto (tgt := 35) hx hb dX12_follows_7 (by decide) ?_
    exact en_i hx hb hr hlocks (by first | (rw [jn_0 c1]; exact jn_and) | (rw [jn_1 c1 c12]; exact jn_or) | (rw [jn_2 c1 c12 c23]; exact jn_xor) | (rw [jn_3 c1 c12 c23]; exact jn_not)) dX12_follows_35
set_option maxRecDepth 20000 in
theorem inX12_findsBits_12 : ∀ w ∈ u_ws RX12 TX12 23, w ∈ wsX12_findsBits := by decide +kernel
set_option maxHeartbeats 4000000 in
set_option maxRecDepth 100000 in
/-- findsBits -/
theorem c_X12_findsBits (l : Launch) (G : GG) (a : Nat → Nat) (ha : Inj a) (cy th : Int32) (Ns : Nat → NT) (z : Nat) (fs sc : FN) (b0 : FN) (num : Nat) (hz : z < 4) (hN : WF (Ns z)) (hFS : FS Ns fs sc) (hnum : num < 2 ^ 31)  : Met l yX12_findsBits wsX12_findsBits ({ frames := 1, cells := 0, slots := 0, locals := 22 } : Room) (PcB G [.ref (a 93), .int (nI z), .int (nI num)] (fun H => PP G (modO a cy th) H ∧ PP G (sixW G a Ns fs sc) H ∧ PP G (ar1 G a 104 120 b0) H)) (QV (fun u : FN => ∀ r, r < nG (Ns z) → u r = bi (bt (Ns z) num r)) (fun u H => PP G (ar1 G a 104 120 u) H) (rng a 104 1)) 0 0 (rng a 104 1) := by
  refine Met.ofW (cc := cX12_findsBits) (maxL := 8) (ret := none) (by decide) rfl ?_
  intro p e s m args below meth c s₁ B hml hv
  obtain ⟨rfl, hB, hK, hNW⟩ := hv
  have hx := B.exec
  have hb := B.bytes
  have hr := B.returns
  have hts := atoms_spec (ws := wsX12_findsBits) B.pre
  have hown : s.vm.findClass RX12 = some m.cls := findClass_of_methodNamed B.named
  have hlocks := B.notSynchronized
  have FX : CallFix p m c cX12_findsBits 8 s ([.ref (a 93), .int (nI z), .int (nI num)] : List Value).toArray wsX12_findsBits RX12 := ⟨hx, hb, hml, hown, hts⟩
  have hl := lv_entry ([.ref (a 93), .int (nI z), .int (nI num)]) (n := 8) (Nat.le_of_ble_eq_true rfl)
  rw [lg_entry_eq]
  generalize (lg_sl ([.ref (a 93), .int (nI z), .int (nI num)]) ++ List.replicate (8 - (lg_sl ([.ref (a 93), .int (nI z), .int (nI num)])).length) Slot.unset).toArray = ls at hl ⊢
  have hl : lv_has ls 8 [(0, .ref (a 93)), (1, .int (nI z)), (2, .int (nI num))] := hl
  obtain ⟨h_o, h_x, h_bits⟩ := hB
  have hS : va_S (rng a 104 1) s.heap s.heap [] := va_S.rf
  have hg9 := hN.g
  have ho9 := hN.o
  have hi9 := hN.2.1
  refine lv_iload_n hx hb dX12_findsBits_0 rfl (lv_at hl 2 rfl) ?_
  refine lv_istore_n (lv' := [(3, .int (nI num)), (0, .ref (a 93)), (1, .int (nI z)), (2, .int (nI num))]) hx hb dX12_findsBits_1 rfl hl (by decide) rfl (fun ls hl => ?_)
  refine lv_iconst (v := nI 0) hx hb dX12_findsBits_2 (by decide) ?_
  refine lv_istore (lv' := [(4, .int (nI 0)), (3, .int (nI num)), (0, .ref (a 93)), (1, .int (nI z)), (2, .int (nI num))]) hx hb dX12_findsBits_3 hl (by decide) rfl (fun ls hl => ?_)
  refine lv_loop2 5 (fun (k : Nat) (b : FN) => nG (Ns z) - k) (fun (k : Nat) (b : FN) (H : Heap) (locs : List Loc) (ls : Array Slot) => (PP G (ar1 G a 104 120 b) H) ∧ (va_S (rng a 104 1) s.heap H locs) ∧ (lv_has ls 8 [(0, .ref (a 93)), (1, .int (nI z)), (2, .int (nI num)), (3, .int (nI (num / 2 ^ inC (Ns z) k))), (4, .int (nI k))]) ∧ (k ≤ nG (Ns z)) ∧ (∀ r, r < k → b r = bi (bt (Ns z) num r))) (fun _ _ => []) (fun k b H locs ls hI ih => ?_) 0 b0 ⟨h_bits, hS, (by rw [show num / 2 ^ inC (Ns z) 0 = num from Nat.div_one num]; exact lv_sub hl [2, 3, 4, 1, 0] rfl), by omega, fun r h => absurd h (Nat.not_lt_zero r)⟩ rfl
  obtain ⟨h_bits, hS, hl, hk, hbt⟩ := hI
  have ih1 := @ih
  clear ih
  refine lv_iload hx hb dX12_findsBits_5 (lv_at hl 4 rfl) ?_
  refine lv_aload_n hx hb dX12_findsBits_7 rfl (lv_at hl 0 rfl) ?_
  refine va_get (D := G.1) (ci := 12) (v := .ref (a 98)) (C := RX12) (T := TX12) (N := 23) hx hb hts inX12_findsBits_12 hown hK (ro hS h_o (dj_cons (rng_no ha (by omega)) (dj_nil))) 0 rfl rfl 4 (by decide) (hts (.fieldLink RX12 22 "GateLedgerModel" "many" "[I") (List.mem_of_getElem? (i := 1) (by decide +kernel))) (fun _ h9 => h9) rfl dX12_findsBits_8 ?_
  refine lv_iload_n hx hb dX12_findsBits_11 rfl (lv_at hl 1 rfl) ?_
  refine pp_iald hx hb hK (ro hS h_x (dj_cons (rng_no ha (by omega)) (dj_cons (rng_no ha (by omega)) (dj_cons (rng_no ha (by omega)) (dj_cons (rng_no ha (by omega)) (dj_cons (rng_no ha (by omega)) (dj_cons (rng_no ha (by omega)) (dj_nil)))))))) 4 rfl (vp_in_nI (by omega) (by omega)) dX12_findsBits_12 ?_
  refine lv_as (congrArg (MF Ns) (nI_clamp (by omega))) ?_
  refine lv_as (y := nI (nG (Ns z))) rfl ?_
  refine lv_icmp_ge (tgt := 139) hx hb dX12_findsBits_13 (by decide) (fun c13 => ?_) (fun c13 => ?_)
  · skip
    have c13 := cv_le (by omega) (by omega) c13
    exact en_wv b hx hb hr hlocks hS (fun r h => hbt r (by omega)) (h_bits) dX12_findsBits_139
  · skip
    have c13 := cv_nle (by omega) (by omega) c13
    have hk4 := hN.k c13
    have hi30 := inC_lt hN (Nat.le_of_lt c13)
    refine lv_bipush (v := nI 120) hx hb dX12_findsBits_16 (by decide) ?_
    refine lv_iload_n hx hb dX12_findsBits_18 rfl (lv_at hl 1 rfl) ?_
    refine lv_imul hx hb dX12_findsBits_19 ?_
    refine lv_as (pk_mul _ _) ?_
    refine lv_iload hx hb dX12_findsBits_20 (lv_at hl 4 rfl) ?_
    refine lv_iadd hx hb dX12_findsBits_22 ?_
    refine lv_as (nI_add _ _) ?_
    refine lv_istore (lv' := [(5, .int (nI ((120 * z) + k))), (0, .ref (a 93)), (1, .int (nI z)), (2, .int (nI num)), (3, .int (nI (num / 2 ^ inC (Ns z) k))), (4, .int (nI k))]) hx hb dX12_findsBits_23 hl (by decide) rfl (fun ls hl => ?_)
    refine lv_aload_n hx hb dX12_findsBits_25 rfl (lv_at hl 1 rfl) ?_
    refine va_get (D := G.1) (ci := 12) (v := .ref (a 94)) (C := RX12) (T := TX12) (N := 23) hx hb hts inX12_findsBits_12 hown hK (ro hS h_o (dj_cons (rng_no ha (by omega)) (dj_nil))) 0 rfl rfl 0 (by decide) (hts (.fieldLink RX12 7 "GateLedgerModel" "kind" "[I") (List.mem_of_getElem? (i := 2) (by decide +kernel))) (fun _ h9 => h9) rfl dX12_findsBits_26 ?_
    refine lv_iload hx hb dX12_findsBits_29 (lv_at hl 0 rfl) ?_
    refine pp_iald hx hb hK (ro hS h_x (dj_cons (rng_no ha (by omega)) (dj_cons (rng_no ha (by omega)) (dj_cons (rng_no ha (by omega)) (dj_cons (rng_no ha (by omega)) (dj_cons (rng_no ha (by omega)) (dj_cons (rng_no ha (by omega)) (dj_nil)))))))) 0 rfl (vp_in_nI (by omega) (by omega)) dX12_findsBits_31 ?_
    refine lv_as (congrArg (KF Ns) (nI_clamp (by omega))) ?_
    refine lv_as (y := nI (nK (Ns z) k)) (KF_at (by omega)) ?_
    refine lv_iconst (v := nI 4) hx hb dX12_findsBits_32 (by decide) ?_
    refine lv_icmp_ne (tgt := 40) hx hb dX12_findsBits_33 (by decide) (fun c33 => ?_) (fun c33 => ?_)
    · skip
      have c33 := cv_ne (by omega) (by omega) c33
      have hfs := hN.fs c13 c33
      refine lv_iconst (v := nI 0) hx hb dX12_findsBits_40 (by decide) ?_
      refine lv_istore (lv' := [(6, .int (nI 0)), (5, .int (nI ((120 * z) + k))), (0, .ref (a 93)), (1, .int (nI z)), (2, .int (nI num)), (3, .int (nI (num / 2 ^ inC (Ns z) k))), (4, .int (nI k))]) hx hb dX12_findsBits_41 hl (by decide) rfl (fun ls hl => ?_)
      refine lv_iload hx hb dX12_findsBits_43 (lv_at hl 0 rfl) ?_
      refine lv_if_eq (tgt := 54) hx hb dX12_findsBits_45 (by decide) (fun c45 => ?_) (fun c45 => ?_)
      · skip
        refine lv_aload_n hx hb dX12_findsBits_54 rfl (lv_at hl 2 rfl) ?_
        refine va_get (D := G.1) (ci := 12) (v := .ref (a 94)) (C := RX12) (T := TX12) (N := 23) hx hb hts inX12_findsBits_12 hown hK (ro hS h_o (dj_cons (rng_no ha (by omega)) (dj_nil))) 0 rfl rfl 0 (by decide) (hts (.fieldLink RX12 7 "GateLedgerModel" "kind" "[I") (List.mem_of_getElem? (i := 2) (by decide +kernel))) (fun _ h9 => h9) rfl dX12_findsBits_55 ?_
        refine lv_iload hx hb dX12_findsBits_58 (lv_at hl 1 rfl) ?_
        refine pp_iald hx hb hK (ro hS h_x (dj_cons (rng_no ha (by omega)) (dj_cons (rng_no ha (by omega)) (dj_cons (rng_no ha (by omega)) (dj_cons (rng_no ha (by omega)) (dj_cons (rng_no ha (by omega)) (dj_cons (rng_no ha (by omega)) (dj_nil)))))))) 0 rfl (vp_in_nI (by omega) (by omega)) dX12_findsBits_60 ?_
        refine lv_as (congrArg (KF Ns) (nI_clamp (by omega))) ?_
        refine lv_as (y := nI (nK (Ns z) k)) (KF_at (by omega)) ?_
        refine lv_aload_n hx hb dX12_findsBits_61 rfl (lv_at hl 2 rfl) ?_
        refine va_get (D := G.1) (ci := 12) (v := .ref (a 104)) (C := RX12) (T := TX12) (N := 23) hx hb hts inX12_findsBits_12 hown hK (ro hS h_o (dj_cons (rng_no ha (by omega)) (dj_nil))) 0 rfl rfl 10 (by decide) (hts (.fieldLink RX12 40 "GateLedgerModel" "bits" "[I") (List.mem_of_getElem? (i := 3) (by decide +kernel))) (fun _ h9 => h9) rfl dX12_findsBits_62 ?_
        refine lv_aload_n hx hb dX12_findsBits_65 rfl (lv_at hl 2 rfl) ?_
        refine va_get (D := G.1) (ci := 12) (v := .ref (a 95)) (C := RX12) (T := TX12) (N := 23) hx hb hts inX12_findsBits_12 hown hK (ro hS h_o (dj_cons (rng_no ha (by omega)) (dj_nil))) 0 rfl rfl 1 (by decide) (hts (.fieldLink RX12 13 "GateLedgerModel" "first" "[I") (List.mem_of_getElem? (i := 4) (by decide +kernel))) (fun _ h9 => h9) rfl dX12_findsBits_66 ?_
        refine lv_iload hx hb dX12_findsBits_69 (lv_at hl 1 rfl) ?_
        refine pp_iald hx hb hK (ro hS h_x (dj_cons (rng_no ha (by omega)) (dj_cons (rng_no ha (by omega)) (dj_cons (rng_no ha (by omega)) (dj_cons (rng_no ha (by omega)) (dj_cons (rng_no ha (by omega)) (dj_cons (rng_no ha (by omega)) (dj_nil)))))))) 1 rfl (vp_in_nI (by omega) (by omega)) dX12_findsBits_71 ?_
        refine lv_as (congrArg fs (nI_clamp (by omega))) ?_
        refine lv_as (y := nI (nF (Ns z) k)) ((hFS z hz k (by omega) c13 c33).1) ?_
        refine pp_iald hx hb hK h_bits 0 rfl (vp_in_nI (by omega) (by omega)) dX12_findsBits_72 ?_
        refine lv_as (congrArg b (nI_clamp (by omega))) ?_
        refine lv_as (y := bi (bt (Ns z) num (nF (Ns z) k))) (hbt _ hfs.1) ?_
        refine lv_aload_n hx hb dX12_findsBits_73 rfl (lv_at hl 2 rfl) ?_
        refine va_get (D := G.1) (ci := 12) (v := .ref (a 104)) (C := RX12) (T := TX12) (N := 23) hx hb hts inX12_findsBits_12 hown hK (ro hS h_o (dj_cons (rng_no ha (by omega)) (dj_nil))) 0 rfl rfl 10 (by decide) (hts (.fieldLink RX12 40 "GateLedgerModel" "bits" "[I") (List.mem_of_getElem? (i := 3) (by decide +kernel))) (fun _ h9 => h9) rfl dX12_findsBits_74 ?_
        refine lv_aload_n hx hb dX12_findsBits_77 rfl (lv_at hl 2 rfl) ?_
        refine va_get (D := G.1) (ci := 12) (v := .ref (a 96)) (C := RX12) (T := TX12) (N := 23) hx hb hts inX12_findsBits_12 hown hK (ro hS h_o (dj_cons (rng_no ha (by omega)) (dj_nil))) 0 rfl rfl 2 (by decide) (hts (.fieldLink RX12 16 "GateLedgerModel" "second" "[I") (List.mem_of_getElem? (i := 5) (by decide +kernel))) (fun _ h9 => h9) rfl dX12_findsBits_78 ?_
        refine lv_iload hx hb dX12_findsBits_81 (lv_at hl 1 rfl) ?_
        refine pp_iald hx hb hK (ro hS h_x (dj_cons (rng_no ha (by omega)) (dj_cons (rng_no ha (by omega)) (dj_cons (rng_no ha (by omega)) (dj_cons (rng_no ha (by omega)) (dj_cons (rng_no ha (by omega)) (dj_cons (rng_no ha (by omega)) (dj_nil)))))))) 2 rfl (vp_in_nI (by omega) (by omega)) dX12_findsBits_83 ?_
        refine lv_as (congrArg sc (nI_clamp (by omega))) ?_
        refine lv_as (y := nI (nS (Ns z) k)) ((hFS z hz k (by omega) c13 c33).2) ?_
        refine pp_iald hx hb hK h_bits 0 rfl (vp_in_nI (by omega) (by omega)) dX12_findsBits_84 ?_
        refine lv_as (congrArg b (nI_clamp (by omega))) ?_
        refine lv_as (y := bi (bt (Ns z) num (nS (Ns z) k))) (hbt _ hfs.2) ?_
        refine ro_i (va_runS (As := [.int (nI (nK (Ns z) k)), .int (bi (bt (Ns z) num (nF (Ns z) k))), .int (bi (bt (Ns z) num (nS (Ns z) k)))]) (rest := []) FX (c_X12_follows l G (nK (Ns z) k) (bt (Ns z) num (nF (Ns z) k)) (bt (Ns z) num (nS (Ns z) k)) (by omega)) (va_cwS 3 hts gX12_findsBits_X12_follows rfl rfl rfl (by decide +kernel) ⟨Nat.le_of_ble_eq_true rfl, Nat.le_of_ble_eq_true rfl⟩) (preS hK hNW trivial) rfl rfl hl.1 rfl (lv_room (Nat.le_of_ble_eq_true rfl)) dX12_findsBits_85 ⟨Nat.le_of_ble_eq_true rfl, Nat.le_of_ble_eq_true rfl⟩) ?_
        refine lv_istore (lv' := [(7, .int (bi (jn (nK (Ns z) k) (bt (Ns z) num (nF (Ns z) k)) (bt (Ns z) num (nS (Ns z) k))))), (6, .int (nI 0)), (5, .int (nI ((120 * z) + k))), (0, .ref (a 93)), (1, .int (nI z)), (2, .int (nI num)), (3, .int (nI (num / 2 ^ inC (Ns z) k))), (4, .int (nI k))]) hx hb dX12_findsBits_88 hl (by decide) rfl (fun ls hl => ?_)
        refine lv_iload hx hb dX12_findsBits_90 (lv_at hl 1 rfl) ?_
        refine lv_if_eq (tgt := 101) hx hb dX12_findsBits_92 (by decide) (fun c92 => ?_) (fun c92 => ?_)
        · skip
          refine lv_iload_n hx hb dX12_findsBits_101 rfl (lv_at hl 6 rfl) ?_
          refine lv_istore_n (lv' := [(3, .int (nI (num / 2 ^ inC (Ns z) k))), (7, .int (bi (jn (nK (Ns z) k) (bt (Ns z) num (nF (Ns z) k)) (bt (Ns z) num (nS (Ns z) k))))), (6, .int (nI 0)), (5, .int (nI ((120 * z) + k))), (0, .ref (a 93)), (1, .int (nI z)), (2, .int (nI num)), (4, .int (nI k))]) hx hb dX12_findsBits_102 rfl hl (by decide) rfl (fun ls hl => ?_)
          refine lv_aload_n hx hb dX12_findsBits_103 rfl (lv_at hl 4 rfl) ?_
          refine va_get (D := G.1) (ci := 12) (v := .ref (a 104)) (C := RX12) (T := TX12) (N := 23) hx hb hts inX12_findsBits_12 hown hK (ro hS h_o (dj_cons (rng_no ha (by omega)) (dj_nil))) 0 rfl rfl 10 (by decide) (hts (.fieldLink RX12 40 "GateLedgerModel" "bits" "[I") (List.mem_of_getElem? (i := 3) (by decide +kernel))) (fun _ h9 => h9) rfl dX12_findsBits_104 ?_
          refine lv_iload hx hb dX12_findsBits_107 (lv_at hl 7 rfl) ?_
          refine lv_aload_n hx hb dX12_findsBits_109 rfl (lv_at hl 4 rfl) ?_
          refine va_get (D := G.1) (ci := 12) (v := .ref (a 97)) (C := RX12) (T := TX12) (N := 23) hx hb hts inX12_findsBits_12 hown hK (ro hS h_o (dj_cons (rng_no ha (by omega)) (dj_nil))) 0 rfl rfl 3 (by decide) (hts (.fieldLink RX12 19 "GateLedgerModel" "stuck" "[I") (List.mem_of_getElem? (i := 6) (by decide +kernel))) (fun _ h9 => h9) rfl dX12_findsBits_110 ?_
          refine lv_iload hx hb dX12_findsBits_113 (lv_at hl 3 rfl) ?_
          refine pp_iald hx hb hK (ro hS h_x (dj_cons (rng_no ha (by omega)) (dj_cons (rng_no ha (by omega)) (dj_cons (rng_no ha (by omega)) (dj_cons (rng_no ha (by omega)) (dj_cons (rng_no ha (by omega)) (dj_cons (rng_no ha (by omega)) (dj_nil)))))))) 3 rfl (vp_in_nI (by omega) (by omega)) dX12_findsBits_115 ?_
          refine lv_as (congrArg (TF Ns) (nI_clamp (by omega))) ?_
          refine lv_as (y := nT (Ns z) k) (TF_at (by omega)) ?_
          refine lv_iconst (v := -1) hx hb dX12_findsBits_116 (by decide) ?_
          refine lv_icmp_ne (tgt := 125) hx hb dX12_findsBits_117 (by decide) (fun c117 => ?_) (fun c117 => ?_)
          · skip
            refine lv_aload_n hx hb dX12_findsBits_125 rfl (lv_at hl 4 rfl) ?_
            refine va_get (D := G.1) (ci := 12) (v := .ref (a 97)) (C := RX12) (T := TX12) (N := 23) hx hb hts inX12_findsBits_12 hown hK (ro hS h_o (dj_cons (rng_no ha (by omega)) (dj_nil))) 0 rfl rfl 3 (by decide) (hts (.fieldLink RX12 19 "GateLedgerModel" "stuck" "[I") (List.mem_of_getElem? (i := 6) (by decide +kernel))) (fun _ h9 => h9) rfl dX12_findsBits_126 ?_
            refine lv_iload hx hb dX12_findsBits_129 (lv_at hl 3 rfl) ?_
            refine pp_iald hx hb hK (ro hS h_x (dj_cons (rng_no ha (by omega)) (dj_cons (rng_no ha (by omega)) (dj_cons (rng_no ha (by omega)) (dj_cons (rng_no ha (by omega)) (dj_cons (rng_no ha (by omega)) (dj_cons (rng_no ha (by omega)) (dj_nil)))))))) 3 rfl (vp_in_nI (by omega) (by omega)) dX12_findsBits_131 ?_
            refine lv_as (congrArg (TF Ns) (nI_clamp (by omega))) ?_
            refine lv_as (y := nT (Ns z) k) (TF_at (by omega)) ?_
            refine pp_iast hx hb hK h_bits hS (rng_in (by omega)) (vp_in_nI (by omega) (by omega)) dX12_findsBits_132 (fun H locs hP9 hk2 _ hS => ?_)
            rw [nI_clamp (by omega)] at hP9
            have h_bits : PP G (ar1 G a 104 120 (upd b k (nT (Ns z) k))) H := hP9
            refine lv_iinc (v := nI (k + 1)) (lv' := [(4, .int (nI (k + 1))), (3, .int (nI (num / 2 ^ inC (Ns z) k))), (7, .int (bi (jn (nK (Ns z) k) (bt (Ns z) num (nF (Ns z) k)) (bt (Ns z) num (nS (Ns z) k))))), (6, .int (nI 0)), (5, .int (nI ((120 * z) + k))), (0, .ref (a 93)), (1, .int (nI z)), (2, .int (nI num))]) hx hb dX12_findsBits_133 hl (k := 7) rfl (by first | exact nI_add _ 1 | decide) (by decide) rfl (fun ls hl => ?_)
            refine lv_goto (tgt := 5) hx hb dX12_findsBits_136 (by decide) ?_
            exact ih1 (k + 1) (upd b k (nT (Ns z) k)) _ _ _ ⟨h_bits, hS, by first | (rw [inC_in c33]; exact lv_sub hl [5, 6, 7, 1, 0] rfl) | (rw [inC_ni c33]; exact lv_sub hl [5, 6, 7, 1, 0] rfl), by omega, upd_fill (v := fun r => bi (bt (Ns z) num r)) hbt (by first | exact bi_bt hN c13 c117 | (rw [bt_in c117 c33]) | (rw [bt_gt hN c13 c117 c33]))⟩ (by show nG (Ns z) - (k + 1) < nG (Ns z) - k; omega)
          · skip
            refine lv_iload hx hb dX12_findsBits_120 (lv_at hl 1 rfl) ?_
            refine lv_goto (tgt := 132) hx hb dX12_findsBits_122 (by decide) ?_
            refine pp_iast hx hb hK h_bits hS (rng_in (by omega)) (vp_in_nI (by omega) (by omega)) dX12_findsBits_132 (fun H locs hP9 hk3 _ hS => ?_)
            rw [nI_clamp (by omega)] at hP9
            have h_bits : PP G (ar1 G a 104 120 (upd b k (bi (jn (nK (Ns z) k) (bt (Ns z) num (nF (Ns z) k)) (bt (Ns z) num (nS (Ns z) k)))))) H := hP9
            refine lv_iinc (v := nI (k + 1)) (lv' := [(4, .int (nI (k + 1))), (3, .int (nI (num / 2 ^ inC (Ns z) k))), (7, .int (bi (jn (nK (Ns z) k) (bt (Ns z) num (nF (Ns z) k)) (bt (Ns z) num (nS (Ns z) k))))), (6, .int (nI 0)), (5, .int (nI ((120 * z) + k))), (0, .ref (a 93)), (1, .int (nI z)), (2, .int (nI num))]) hx hb dX12_findsBits_133 hl (k := 7) rfl (by first | exact nI_add _ 1 | decide) (by decide) rfl (fun ls hl => ?_)
            refine lv_goto (tgt := 5) hx hb dX12_findsBits_136 (by decide) ?_
            exact ih1 (k + 1) (upd b k (bi (jn (nK (Ns z) k) (bt (Ns z) num (nF (Ns z) k)) (bt (Ns z) num (nS (Ns z) k))))) _ _ _ ⟨h_bits, hS, by first | (rw [inC_in c33]; exact lv_sub hl [5, 6, 7, 1, 0] rfl) | (rw [inC_ni c33]; exact lv_sub hl [5, 6, 7, 1, 0] rfl), by omega, upd_fill (v := fun r => bi (bt (Ns z) num r)) hbt (by first | exact bi_bt hN c13 c117 | (rw [bt_in c117 c33]) | (rw [bt_gt hN c13 c117 c33]))⟩ (by show nG (Ns z) - (k + 1) < nG (Ns z) - k; omega)
        · exact absurd c92 (by decide)
      · exact absurd c45 (by decide)
    · skip
      have c33 := cv_eq (by omega) (by omega) c33
      refine lv_iconst (v := nI 1) hx hb dX12_findsBits_36 (by decide) ?_
      refine lv_goto (tgt := 41) hx hb dX12_findsBits_37 (by decide) ?_
      refine lv_istore (lv' := [(6, .int (nI 1)), (5, .int (nI ((120 * z) + k))), (0, .ref (a 93)), (1, .int (nI z)), (2, .int (nI num)), (3, .int (nI (num / 2 ^ inC (Ns z) k))), (4, .int (nI k))]) hx hb dX12_findsBits_41 hl (by decide) rfl (fun ls hl => ?_)
      refine lv_iload hx hb dX12_findsBits_43 (lv_at hl 0 rfl) ?_
      refine lv_if_eq (tgt := 54) hx hb dX12_findsBits_45 (by decide) (fun c45 => ?_) (fun c45 => ?_)
      · exact absurd c45 (by decide)
      · skip
        refine lv_iload_n hx hb dX12_findsBits_48 rfl (lv_at hl 5 rfl) ?_
        refine lv_iconst (v := nI 1) hx hb dX12_findsBits_49 (by decide) ?_
        refine lv_iand hx hb dX12_findsBits_50 ?_
        refine lv_as (y := bi (num.testBit (inC (Ns z) k))) (and_bit hnum (by omega)) ?_
        refine lv_goto (tgt := 88) hx hb dX12_findsBits_51 (by decide) ?_
        refine lv_istore (lv' := [(7, .int (bi (num.testBit (inC (Ns z) k)))), (6, .int (nI 1)), (5, .int (nI ((120 * z) + k))), (0, .ref (a 93)), (1, .int (nI z)), (2, .int (nI num)), (3, .int (nI (num / 2 ^ inC (Ns z) k))), (4, .int (nI k))]) hx hb dX12_findsBits_88 hl (by decide) rfl (fun ls hl => ?_)
        refine lv_iload hx hb dX12_findsBits_90 (lv_at hl 1 rfl) ?_
        refine lv_if_eq (tgt := 101) hx hb dX12_findsBits_92 (by decide) (fun c92 => ?_) (fun c92 => ?_)
        · exact absurd c92 (by decide)
        · skip
          refine lv_iload_n hx hb dX12_findsBits_95 rfl (lv_at hl 6 rfl) ?_
          refine lv_iconst (v := nI 1) hx hb dX12_findsBits_96 (by decide) ?_
          refine lv_ishr hx hb dX12_findsBits_97 ?_
          refine lv_as (y := nI (num / 2 ^ (inC (Ns z) k + 1))) (shr_1 hnum) ?_
          refine lv_goto (tgt := 102) hx hb dX12_findsBits_98 (by decide) ?_
          refine lv_istore_n (lv' := [(3, .int (nI (num / 2 ^ (inC (Ns z) k + 1)))), (7, .int (bi (num.testBit (inC (Ns z) k)))), (6, .int (nI 1)), (5, .int (nI ((120 * z) + k))), (0, .ref (a 93)), (1, .int (nI z)), (2, .int (nI num)), (4, .int (nI k))]) hx hb dX12_findsBits_102 rfl hl (by decide) rfl (fun ls hl => ?_)
          refine lv_aload_n hx hb dX12_findsBits_103 rfl (lv_at hl 4 rfl) ?_
          refine va_get (D := G.1) (ci := 12) (v := .ref (a 104)) (C := RX12) (T := TX12) (N := 23) hx hb hts inX12_findsBits_12 hown hK (ro hS h_o (dj_cons (rng_no ha (by omega)) (dj_nil))) 0 rfl rfl 10 (by decide) (hts (.fieldLink RX12 40 "GateLedgerModel" "bits" "[I") (List.mem_of_getElem? (i := 3) (by decide +kernel))) (fun _ h9 => h9) rfl dX12_findsBits_104 ?_
          refine lv_iload hx hb dX12_findsBits_107 (lv_at hl 7 rfl) ?_
          refine lv_aload_n hx hb dX12_findsBits_109 rfl (lv_at hl 4 rfl) ?_
          refine va_get (D := G.1) (ci := 12) (v := .ref (a 97)) (C := RX12) (T := TX12) (N := 23) hx hb hts inX12_findsBits_12 hown hK (ro hS h_o (dj_cons (rng_no ha (by omega)) (dj_nil))) 0 rfl rfl 3 (by decide) (hts (.fieldLink RX12 19 "GateLedgerModel" "stuck" "[I") (List.mem_of_getElem? (i := 6) (by decide +kernel))) (fun _ h9 => h9) rfl dX12_findsBits_110 ?_
          refine lv_iload hx hb dX12_findsBits_113 (lv_at hl 3 rfl) ?_
          refine pp_iald hx hb hK (ro hS h_x (dj_cons (rng_no ha (by omega)) (dj_cons (rng_no ha (by omega)) (dj_cons (rng_no ha (by omega)) (dj_cons (rng_no ha (by omega)) (dj_cons (rng_no ha (by omega)) (dj_cons (rng_no ha (by omega)) (dj_nil)))))))) 3 rfl (vp_in_nI (by omega) (by omega)) dX12_findsBits_115 ?_
          refine lv_as (congrArg (TF Ns) (nI_clamp (by omega))) ?_
          refine lv_as (y := nT (Ns z) k) (TF_at (by omega)) ?_
          refine lv_iconst (v := -1) hx hb dX12_findsBits_116 (by decide) ?_
          refine lv_icmp_ne (tgt := 125) hx hb dX12_findsBits_117 (by decide) (fun c117 => ?_) (fun c117 => ?_)
          · skip
            refine lv_aload_n hx hb dX12_findsBits_125 rfl (lv_at hl 4 rfl) ?_
            refine va_get (D := G.1) (ci := 12) (v := .ref (a 97)) (C := RX12) (T := TX12) (N := 23) hx hb hts inX12_findsBits_12 hown hK (ro hS h_o (dj_cons (rng_no ha (by omega)) (dj_nil))) 0 rfl rfl 3 (by decide) (hts (.fieldLink RX12 19 "GateLedgerModel" "stuck" "[I") (List.mem_of_getElem? (i := 6) (by decide +kernel))) (fun _ h9 => h9) rfl dX12_findsBits_126 ?_
            refine lv_iload hx hb dX12_findsBits_129 (lv_at hl 3 rfl) ?_
            refine pp_iald hx hb hK (ro hS h_x (dj_cons (rng_no ha (by omega)) (dj_cons (rng_no ha (by omega)) (dj_cons (rng_no ha (by omega)) (dj_cons (rng_no ha (by omega)) (dj_cons (rng_no ha (by omega)) (dj_cons (rng_no ha (by omega)) (dj_nil)))))))) 3 rfl (vp_in_nI (by omega) (by omega)) dX12_findsBits_131 ?_
            refine lv_as (congrArg (TF Ns) (nI_clamp (by omega))) ?_
            refine lv_as (y := nT (Ns z) k) (TF_at (by omega)) ?_
            refine pp_iast hx hb hK h_bits hS (rng_in (by omega)) (vp_in_nI (by omega) (by omega)) dX12_findsBits_132 (fun H locs hP9 hk4 _ hS => ?_)
            rw [nI_clamp (by omega)] at hP9
            have h_bits : PP G (ar1 G a 104 120 (upd b k (nT (Ns z) k))) H := hP9
            refine lv_iinc (v := nI (k + 1)) (lv' := [(4, .int (nI (k + 1))), (3, .int (nI (num / 2 ^ (inC (Ns z) k + 1)))), (7, .int (bi (num.testBit (inC (Ns z) k)))), (6, .int (nI 1)), (5, .int (nI ((120 * z) + k))), (0, .ref (a 93)), (1, .int (nI z)), (2, .int (nI num))]) hx hb dX12_findsBits_133 hl (k := 7) rfl (by first | exact nI_add _ 1 | decide) (by decide) rfl (fun ls hl => ?_)
            refine lv_goto (tgt := 5) hx hb dX12_findsBits_136 (by decide) ?_
            exact ih1 (k + 1) (upd b k (nT (Ns z) k)) _ _ _ ⟨h_bits, hS, by first | (rw [inC_in c33]; exact lv_sub hl [5, 6, 7, 1, 0] rfl) | (rw [inC_ni c33]; exact lv_sub hl [5, 6, 7, 1, 0] rfl), by omega, upd_fill (v := fun r => bi (bt (Ns z) num r)) hbt (by first | exact bi_bt hN c13 c117 | (rw [bt_in c117 c33]) | (rw [bt_gt hN c13 c117 c33]))⟩ (by show nG (Ns z) - (k + 1) < nG (Ns z) - k; omega)
          · skip
            refine lv_iload hx hb dX12_findsBits_120 (lv_at hl 1 rfl) ?_
            refine lv_goto (tgt := 132) hx hb dX12_findsBits_122 (by decide) ?_
            refine pp_iast hx hb hK h_bits hS (rng_in (by omega)) (vp_in_nI (by omega) (by omega)) dX12_findsBits_132 (fun H locs hP9 hk5 _ hS => ?_)
            rw [nI_clamp (by omega)] at hP9
            have h_bits : PP G (ar1 G a 104 120 (upd b k (bi (num.testBit (inC (Ns z) k))))) H := hP9
            refine lv_iinc (v := nI (k + 1)) (lv' := [(4, .int (nI (k + 1))), (3, .int (nI (num / 2 ^ (inC (Ns z) k + 1)))), (7, .int (bi (num.testBit (inC (Ns z) k)))), (6, .int (nI 1)), (5, .int (nI ((120 * z) + k))), (0, .ref (a 93)), (1, .int (nI z)), (2, .int (nI num))]) hx hb dX12_findsBits_133 hl (k := 7) rfl (by first | exact nI_add _ 1 | decide) (by decide) rfl (fun ls hl => ?_)
            refine lv_goto (tgt := 5) hx hb dX12_findsBits_136 (by decide) ?_
            exact ih1 (k + 1) (upd b k (bi (num.testBit (inC (Ns z) k)))) _ _ _ ⟨h_bits, hS, by first | (rw [inC_in c33]; exact lv_sub hl [5, 6, 7, 1, 0] rfl) | (rw [inC_ni c33]; exact lv_sub hl [5, 6, 7, 1, 0] rfl), by omega, upd_fill (v := fun r => bi (bt (Ns z) num r)) hbt (by first | exact bi_bt hN c13 c117 | (rw [bt_in c117 c33]) | (rw [bt_gt hN c13 c117 c33]))⟩ (by show nG (Ns z) - (k + 1) < nG (Ns z) - k; omega)
set_option maxRecDepth 20000 in
theorem inX12_valueOf_12 : ∀ w ∈ u_ws RX12 TX12 23, w ∈ wsX12_valueOf := by decide +kernel
set_option maxHeartbeats 4000000 in
set_option maxRecDepth 100000 in
/-- valueOf -/
theorem c_X12_valueOf (l : Launch) (G : GG) (a : Nat → Nat) (ha : Inj a) (cy th : Int32) (Ns : Nat → NT) (z : Nat) (fs sc : FN) (b0 : FN) (num : Nat) (hz : z < 4) (hN : WF (Ns z)) (hFS : FS Ns fs sc) (hnum : num < 2 ^ 31)  : Met l yX12_valueOf wsX12_valueOf ({ frames := 2, cells := 0, slots := 0, locals := 49 } : Room) (PcB G [.ref (a 93), .int (nI z), .int (nI num)] (fun H => PP G (modO a cy th) H ∧ PP G (sixW G a Ns fs sc) H ∧ PP G (twoW G a Ns) H ∧ PP G (ar1 G a 104 120 b0) H)) (QI (fun (r : Int32) (u : FN) => r = vl (Ns z) num) (fun u H => PP G (ar1 G a 104 120 u) H) (rng a 104 1)) 0 0 (rng a 104 1) := by
  refine Met.ofW (cc := cX12_valueOf) (maxL := 5) (ret := (some .int)) (by decide) rfl ?_
  intro p e s m args below meth c s₁ B hml hv
  obtain ⟨rfl, hB, hK, hNW⟩ := hv
  have hx := B.exec
  have hb := B.bytes
  have hr := B.returns
  have hts := atoms_spec (ws := wsX12_valueOf) B.pre
  have hown : s.vm.findClass RX12 = some m.cls := findClass_of_methodNamed B.named
  have hlocks := B.notSynchronized
  have FX : CallFix p m c cX12_valueOf 5 s ([.ref (a 93), .int (nI z), .int (nI num)] : List Value).toArray wsX12_valueOf RX12 := ⟨hx, hb, hml, hown, hts⟩
  have hl := lv_entry ([.ref (a 93), .int (nI z), .int (nI num)]) (n := 5) (Nat.le_of_ble_eq_true rfl)
  rw [lg_entry_eq]
  generalize (lg_sl ([.ref (a 93), .int (nI z), .int (nI num)]) ++ List.replicate (5 - (lg_sl ([.ref (a 93), .int (nI z), .int (nI num)])).length) Slot.unset).toArray = ls at hl ⊢
  have hl : lv_has ls 5 [(0, .ref (a 93)), (1, .int (nI z)), (2, .int (nI num))] := hl
  obtain ⟨h_o, h_x, h_y, h_bits⟩ := hB
  have hS : va_S (rng a 104 1) s.heap s.heap [] := va_S.rf
  have hg9 := hN.g
  have ho9 := hN.o
  have hi9 := hN.2.1
  refine lv_aload_n hx hb dX12_valueOf_0 rfl (lv_at hl 0 rfl) ?_
  refine lv_iload_n hx hb dX12_valueOf_1 rfl (lv_at hl 1 rfl) ?_
  refine lv_iload_n hx hb dX12_valueOf_2 rfl (lv_at hl 2 rfl) ?_
  refine wr_v (va_runV (As := [.int (nI z), .int (nI num)]) (rest := []) FX (c_X12_findsBits l G a ha cy th Ns z fs sc b0 num hz hN hFS (by omega)) (cwV 2 hts gX12_valueOf_X12_findsBits rfl rfl rfl (by decide +kernel) ⟨Nat.le_of_ble_eq_true rfl, Nat.le_of_ble_eq_true rfl⟩) (preV hK hNW (⟨(ro hS h_o (dj_cons (rng_no ha (by omega)) (dj_nil))), (ro hS h_x (dj_cons (rng_no ha (by omega)) (dj_cons (rng_no ha (by omega)) (dj_cons (rng_no ha (by omega)) (dj_cons (rng_no ha (by omega)) (dj_cons (rng_no ha (by omega)) (dj_cons (rng_no ha (by omega)) (dj_nil)))))))), h_bits⟩) (va_recv hK (ro hS h_o (dj_cons (rng_no ha (by omega)) (dj_nil))) (ci := 12) (q0 := 0) rfl rfl)) rfl rfl hl.1 rfl (lv_room (Nat.le_of_ble_eq_true rfl)) dX12_valueOf_3 ⟨Nat.le_of_ble_eq_true rfl, Nat.le_of_ble_eq_true rfl⟩) hS (rng_sub (by omega)) (fun u1 H locs hb2 hP9 hk3 hS => ?_)
  have h_bits : PP G (ar1 G a 104 120 u1) H := hP9
  refine lv_iconst (v := nI 0) hx hb dX12_valueOf_6 (by decide) ?_
  refine lv_istore_n (lv' := [(3, .int (nI 0)), (0, .ref (a 93)), (1, .int (nI z)), (2, .int (nI num))]) hx hb dX12_valueOf_7 rfl hl (by decide) rfl (fun ls hl => ?_)
  refine lv_iconst (v := nI 0) hx hb dX12_valueOf_8 (by decide) ?_
  refine lv_istore (lv' := [(4, .int (nI 0)), (3, .int (nI 0)), (0, .ref (a 93)), (1, .int (nI z)), (2, .int (nI num))]) hx hb dX12_valueOf_9 hl (by decide) rfl (fun ls hl => ?_)
  refine lv_loop1 11 (fun (q : Nat) => nO (Ns z) - q) (fun (q : Nat) (H : Heap) (locs : List Loc) (ls : Array Slot) => (PP G (ar1 G a 104 120 u1) H) ∧ (va_S (rng a 104 1) s.heap H locs) ∧ (lv_has ls 5 [(0, .ref (a 93)), (1, .int (nI z)), (3, .int (vlT (Ns z) (bt (Ns z) num) q)), (4, .int (nI q))]) ∧ (q ≤ nO (Ns z))) (fun _ => []) (fun q H locs ls hI ih => ?_) 0 ⟨h_bits, hS, lv_sub hl [2, 3, 1, 0] rfl, by omega⟩ rfl
  obtain ⟨h_bits, hS, hl, hq⟩ := hI
  have ih5 := @ih
  clear ih
  refine lv_iload hx hb dX12_valueOf_11 (lv_at hl 3 rfl) ?_
  refine lv_aload_n hx hb dX12_valueOf_13 rfl (lv_at hl 0 rfl) ?_
  refine va_get (D := G.1) (ci := 12) (v := .ref (a 101)) (C := RX12) (T := TX12) (N := 23) hx hb hts inX12_valueOf_12 hown hK (ro hS h_o (dj_cons (rng_no ha (by omega)) (dj_nil))) 0 rfl rfl 7 (by decide) (hts (.fieldLink RX12 31 "GateLedgerModel" "outMany" "[I") (List.mem_of_getElem? (i := 1) (by decide +kernel))) (fun _ h9 => h9) rfl dX12_valueOf_14 ?_
  refine lv_iload_n hx hb dX12_valueOf_17 rfl (lv_at hl 1 rfl) ?_
  refine pp_iald hx hb hK (ro hS h_y (dj_cons (rng_no ha (by omega)) (dj_cons (rng_no ha (by omega)) (dj_nil)))) 1 rfl (vp_in_nI (by omega) (by omega)) dX12_valueOf_18 ?_
  refine lv_as (congrArg (OF Ns) (nI_clamp (by omega))) ?_
  refine lv_as (y := nI (nO (Ns z))) rfl ?_
  refine lv_icmp_ge (tgt := 51) hx hb dX12_valueOf_19 (by decide) (fun c19 => ?_) (fun c19 => ?_)
  · skip
    have c19 := cv_le (by omega) (by omega) c19
    refine lv_iload_n hx hb dX12_valueOf_51 rfl (lv_at hl 2 rfl) ?_
    exact en_wi u1 hx hb hr hlocks hS (by unfold vl; rw [show q = nO (Ns z) by omega]) h_bits dX12_valueOf_52
  · skip
    have c19 := cv_nle (by omega) (by omega) c19
    have hu9 := hN.u c19
    refine lv_iload_n hx hb dX12_valueOf_22 rfl (lv_at hl 2 rfl) ?_
    refine lv_aload_n hx hb dX12_valueOf_23 rfl (lv_at hl 0 rfl) ?_
    refine va_get (D := G.1) (ci := 12) (v := .ref (a 104)) (C := RX12) (T := TX12) (N := 23) hx hb hts inX12_valueOf_12 hown hK (ro hS h_o (dj_cons (rng_no ha (by omega)) (dj_nil))) 0 rfl rfl 10 (by decide) (hts (.fieldLink RX12 40 "GateLedgerModel" "bits" "[I") (List.mem_of_getElem? (i := 2) (by decide +kernel))) (fun _ h9 => h9) rfl dX12_valueOf_24 ?_
    refine lv_aload_n hx hb dX12_valueOf_27 rfl (lv_at hl 0 rfl) ?_
    refine va_get (D := G.1) (ci := 12) (v := .ref (a 100)) (C := RX12) (T := TX12) (N := 23) hx hb hts inX12_valueOf_12 hown hK (ro hS h_o (dj_cons (rng_no ha (by omega)) (dj_nil))) 0 rfl rfl 6 (by decide) (hts (.fieldLink RX12 28 "GateLedgerModel" "outs" "[I") (List.mem_of_getElem? (i := 3) (by decide +kernel))) (fun _ h9 => h9) rfl dX12_valueOf_28 ?_
    refine lv_bipush (v := nI 16) hx hb dX12_valueOf_31 (by decide) ?_
    refine lv_iload_n hx hb dX12_valueOf_33 rfl (lv_at hl 1 rfl) ?_
    refine lv_imul hx hb dX12_valueOf_34 ?_
    refine lv_as (pk_mul _ _) ?_
    refine lv_iload hx hb dX12_valueOf_35 (lv_at hl 3 rfl) ?_
    refine lv_iadd hx hb dX12_valueOf_37 ?_
    refine lv_as (nI_add _ _) ?_
    refine pp_iald hx hb hK (ro hS h_y (dj_cons (rng_no ha (by omega)) (dj_cons (rng_no ha (by omega)) (dj_nil)))) 0 rfl (vp_in_nI (by omega) (by omega)) dX12_valueOf_38 ?_
    refine lv_as (congrArg (UF Ns) (nI_clamp (by omega))) ?_
    refine lv_as (y := nI (nU (Ns z) q)) (UF_at (by omega)) ?_
    refine pp_iald hx hb hK h_bits 0 rfl (vp_in_nI (by omega) (by omega)) dX12_valueOf_39 ?_
    refine lv_as (congrArg u1 (nI_clamp (by omega))) ?_
    refine lv_as (y := bi (bt (Ns z) num (nU (Ns z) q))) (hb2 _ hu9) ?_
    refine lv_iload hx hb dX12_valueOf_40 (lv_at hl 3 rfl) ?_
    refine lv_ishl hx hb dX12_valueOf_42 ?_
    refine lv_iadd hx hb dX12_valueOf_43 ?_
    refine lv_istore_n (lv' := [(3, .int ((vlT (Ns z) (bt (Ns z) num) q) + ((bi (bt (Ns z) num (nU (Ns z) q))) <<< ((nI q) &&& 31)))), (0, .ref (a 93)), (1, .int (nI z)), (4, .int (nI q))]) hx hb dX12_valueOf_44 rfl hl (by decide) rfl (fun ls hl => ?_)
    refine lv_iinc (v := nI (q + 1)) (lv' := [(4, .int (nI (q + 1))), (3, .int ((vlT (Ns z) (bt (Ns z) num) q) + ((bi (bt (Ns z) num (nU (Ns z) q))) <<< ((nI q) &&& 31)))), (0, .ref (a 93)), (1, .int (nI z))]) hx hb dX12_valueOf_45 hl (k := 3) rfl (by first | exact nI_add _ 1 | decide) (by decide) rfl (fun ls hl => ?_)
    refine lv_goto (tgt := 11) hx hb dX12_valueOf_48 (by decide) ?_
    exact ih5 (q + 1) _ _ _ ⟨h_bits, hS, lv_sub hl [2, 3, 1, 0] rfl, by omega⟩ (by show nO (Ns z) - (q + 1) < nO (Ns z) - q; omega)
set_option maxRecDepth 20000 in
theorem inX12_bit_12 : ∀ w ∈ u_ws RX12 TX12 23, w ∈ wsX12_bit := by decide +kernel
set_option maxHeartbeats 4000000 in
set_option maxRecDepth 100000 in
/-- bit -/
theorem c_X12_bit (l : Launch) (G : GG) (a : Nat → Nat) (ha : Inj a) (cy th : Int32) (Ns : Nat → NT) (fs sc b0 : FN) (p9 g9 x9 : Int32) (hW : ∀ z, z < 4 → WF (Ns z)) (hFS : FS Ns fs sc)  : Met l yX12_bit wsX12_bit ({ frames := 3, cells := 0, slots := 0, locals := 64 } : Room) (PcB G [.ref (a 93), .int p9, .int g9, .int x9] (fun H => PP G (modO a cy th) H ∧ PP G (sixW G a Ns fs sc) H ∧ PP G (ar1 G a 104 120 b0) H)) (QI (fun (r : Int32) (u : FN) => (cBi Ns p9 g9 x9 = 0 → r = bi (bt (Ns (ix p9)) (ix x9) (ix g9))) ∧ True) (fun u H => PP G (modO a cy (nI (cBi Ns p9 g9 x9))) H ∧ PP G (ar1 G a 104 120 u) H) (orA (rng a 93 1) (rng a 104 1))) 0 0 (orA (rng a 93 1) (rng a 104 1)) := by
  refine Met.ofW (cc := cX12_bit) (maxL := 4) (ret := (some .int)) (by decide) rfl ?_
  intro p e s m args below meth c s₁ B hml hv
  obtain ⟨rfl, hB, hK, hNW⟩ := hv
  have hx := B.exec
  have hb := B.bytes
  have hr := B.returns
  have hts := atoms_spec (ws := wsX12_bit) B.pre
  have hown : s.vm.findClass RX12 = some m.cls := findClass_of_methodNamed B.named
  have hlocks := B.notSynchronized
  have FX : CallFix p m c cX12_bit 4 s ([.ref (a 93), .int p9, .int g9, .int x9] : List Value).toArray wsX12_bit RX12 := ⟨hx, hb, hml, hown, hts⟩
  have hl := lv_entry ([.ref (a 93), .int p9, .int g9, .int x9]) (n := 4) (Nat.le_of_ble_eq_true rfl)
  rw [lg_entry_eq]
  generalize (lg_sl ([.ref (a 93), .int p9, .int g9, .int x9]) ++ List.replicate (4 - (lg_sl ([.ref (a 93), .int p9, .int g9, .int x9])).length) Slot.unset).toArray = ls at hl ⊢
  have hl : lv_has ls 4 [(0, .ref (a 93)), (1, .int p9), (2, .int g9), (3, .int x9)] := hl
  obtain ⟨h_o, h_x, h_bits⟩ := hB
  have hS : va_S (orA (rng a 93 1) (rng a 104 1)) s.heap s.heap [] := va_S.rf
  refine lv_aload_n hx hb dX12_bit_0 rfl (lv_at hl 0 rfl) ?_
  refine lv_aload_n hx hb dX12_bit_1 rfl (lv_at hl 0 rfl) ?_
  refine lv_iload_n hx hb dX12_bit_2 rfl (lv_at hl 1 rfl) ?_
  refine lv_iload_n hx hb dX12_bit_3 rfl (lv_at hl 2 rfl) ?_
  refine ro_i (va_runV (As := [.int p9, .int g9]) (rest := [.ref (a 93)]) FX (c_X12_isGate l G a cy th Ns fs sc p9 g9 (fun z hz => (hW z hz).g)) (cwV 2 hts gX12_bit_X12_isGate rfl rfl rfl (by decide +kernel) ⟨Nat.le_of_ble_eq_true rfl, Nat.le_of_ble_eq_true rfl⟩) (preV hK hNW (⟨h_o, (ro hS h_x (dj_cons (or_no (rng_no ha (by omega)) (rng_no ha (by omega))) (dj_cons (or_no (rng_no ha (by omega)) (rng_no ha (by omega))) (dj_cons (or_no (rng_no ha (by omega)) (rng_no ha (by omega))) (dj_cons (or_no (rng_no ha (by omega)) (rng_no ha (by omega))) (dj_cons (or_no (rng_no ha (by omega)) (rng_no ha (by omega))) (dj_cons (or_no (rng_no ha (by omega)) (rng_no ha (by omega))) (dj_nil))))))))⟩) (va_recv hK h_o (ci := 12) (q0 := 0) rfl rfl)) rfl rfl hl.1 rfl (lv_room (Nat.le_of_ble_eq_true rfl)) dX12_bit_4 ⟨Nat.le_of_ble_eq_true rfl, Nat.le_of_ble_eq_true rfl⟩) ?_
  refine lv_if_ne (tgt := 14) hx hb dX12_bit_7 (by decide) (fun c7 => ?_) (fun c7 => ?_)
  · skip
    have c7 := bI_1 c7
    obtain ⟨c5, cg⟩ := c7
    obtain ⟨z, hz, ez, ep⟩ := inBd_z c5 (by omega)
    rw [ep] at hl
    have hl : lv_has ls 4 [(0, .ref (a 93)), (1, .int (nI z)), (2, .int g9), (3, .int x9)] := hl
    have hN := hW _ hz
    have hg9 := hN.g
    have ho9 := hN.o
    have hi9 := hN.2.1
    have cg0 := cg
    rw [ez] at cg
    obtain ⟨g, hgl, eg, epg⟩ := inBd_z cg (by omega)
    rw [epg] at hl
    have hl : lv_has ls 4 [(0, .ref (a 93)), (1, .int (nI z)), (2, .int (nI g)), (3, .int x9)] := hl
    refine lv_iload_n hx hb dX12_bit_14 rfl (lv_at hl 3 rfl) ?_
    refine ro_i (va_runS (As := [.int x9]) (rest := [.ref (a 93)]) FX (c_X12_isNumber l G x9) (va_cwS 1 hts gX12_bit_X12_isNumber rfl rfl rfl (by decide +kernel) ⟨Nat.le_of_ble_eq_true rfl, Nat.le_of_ble_eq_true rfl⟩) (preS hK hNW trivial) rfl rfl hl.1 rfl (lv_room (Nat.le_of_ble_eq_true rfl)) dX12_bit_15 ⟨Nat.le_of_ble_eq_true rfl, Nat.le_of_ble_eq_true rfl⟩) ?_
    refine lv_if_ne (tgt := 25) hx hb dX12_bit_18 (by decide) (fun c18 => ?_) (fun c18 => ?_)
    · skip
      have c18 := bI_1 c18
      obtain ⟨num, en, epn, hn1, hn2⟩ := rg_z c18 (by omega) (by omega)
      rw [epn] at hl
      have hl : lv_has ls 4 [(0, .ref (a 93)), (1, .int (nI z)), (2, .int (nI g)), (3, .int (nI num))] := hl
      refine lv_iconst (v := nI 0) hx hb dX12_bit_25 (by decide) ?_
      refine pp_put (ci := 12) (v := .int (nI 0)) (ty := .int) (C := RX12) (T := TX12) (N := 23) hx hb hts inX12_bit_12 tyX12 tyX12_ok nmX12 hown hK h_o hS (Or.inl (rng_in (by omega))) rfl 22 (by decide) (hts (.fieldLink RX12 73 "GateLedgerModel" "thrown" "I") (List.mem_of_getElem? (i := 1) (by decide +kernel))) (fun _ h9 => h9) rfl (by decide +kernel) rfl rfl (Nat.le_of_ble_eq_true rfl) dX12_bit_26 (fun H locs hP9 hk1 _ hS => ?_)
      have h_o : PP G (modO a cy (nI 0)) H := hP9
      have h_bits : PP G (ar1 G a 104 120 b0) H := kp hk1 h_bits (dj_cons (ne_a ha (by omega)) (dj_nil))
      refine lv_aload_n hx hb dX12_bit_29 rfl (lv_at hl 0 rfl) ?_
      refine va_get (D := G.1) (ci := 12) (v := .int (nI 0)) (C := RX12) (T := TX12) (N := 23) hx hb hts inX12_bit_12 hown hK h_o 0 rfl rfl 22 (by decide) (hts (.fieldLink RX12 73 "GateLedgerModel" "thrown" "I") (List.mem_of_getElem? (i := 1) (by decide +kernel))) (fun _ h9 => h9) rfl dX12_bit_30 ?_
      refine lv_if_le (tgt := 38) hx hb dX12_bit_33 (by decide) (fun c33 => ?_) (fun c33 => ?_)
      · skip
        refine lv_aload_n hx hb dX12_bit_38 rfl (lv_at hl 0 rfl) ?_
        refine lv_iload_n hx hb dX12_bit_39 rfl (lv_at hl 1 rfl) ?_
        refine lv_iload_n hx hb dX12_bit_40 rfl (lv_at hl 3 rfl) ?_
        refine wr_v (va_runV (As := [.int (nI z), .int (nI num)]) (rest := []) FX (c_X12_findsBits l G a ha cy (nI 0) Ns z fs sc b0 num hz hN hFS (by omega)) (cwV 2 hts gX12_bit_X12_findsBits rfl rfl rfl (by decide +kernel) ⟨Nat.le_of_ble_eq_true rfl, Nat.le_of_ble_eq_true rfl⟩) (preV hK hNW (⟨h_o, (ro hS h_x (dj_cons (or_no (rng_no ha (by omega)) (rng_no ha (by omega))) (dj_cons (or_no (rng_no ha (by omega)) (rng_no ha (by omega))) (dj_cons (or_no (rng_no ha (by omega)) (rng_no ha (by omega))) (dj_cons (or_no (rng_no ha (by omega)) (rng_no ha (by omega))) (dj_cons (or_no (rng_no ha (by omega)) (rng_no ha (by omega))) (dj_cons (or_no (rng_no ha (by omega)) (rng_no ha (by omega))) (dj_nil)))))))), h_bits⟩) (va_recv hK h_o (ci := 12) (q0 := 0) rfl rfl)) rfl rfl hl.1 rfl (lv_room (Nat.le_of_ble_eq_true rfl)) dX12_bit_41 ⟨Nat.le_of_ble_eq_true rfl, Nat.le_of_ble_eq_true rfl⟩) hS (fun q h => Or.inr ((rng_sub (by omega)) q h)) (fun u2 H locs hb3 hP9 hk4 hS => ?_)
        have h_bits : PP G (ar1 G a 104 120 u2) H := hP9
        have h_o : PP G (modO a cy (nI 0)) H := kp hk4 h_o (dj_cons (rng_no ha (by omega)) (dj_nil))
        refine lv_aload_n hx hb dX12_bit_44 rfl (lv_at hl 0 rfl) ?_
        refine va_get (D := G.1) (ci := 12) (v := .ref (a 104)) (C := RX12) (T := TX12) (N := 23) hx hb hts inX12_bit_12 hown hK h_o 0 rfl rfl 10 (by decide) (hts (.fieldLink RX12 40 "GateLedgerModel" "bits" "[I") (List.mem_of_getElem? (i := 2) (by decide +kernel))) (fun _ h9 => h9) rfl dX12_bit_45 ?_
        refine lv_iload_n hx hb dX12_bit_48 rfl (lv_at hl 2 rfl) ?_
        refine pp_iald hx hb hK h_bits 0 rfl (vp_in_nI (by omega) (by omega)) dX12_bit_49 ?_
        refine lv_as (congrArg u2 (nI_clamp (by omega))) ?_
        have e1 : cBi Ns p9 g9 x9 = 0 := (if_pos c5).trans ((if_pos cg0).trans (if_pos c18))
        exact en_wi u2 hx hb hr hlocks hS ⟨fun _ => by rw [ez, eg, en]; exact hb3 _ hgl, trivial⟩ (by rw [e1]; exact ⟨h_o, h_bits⟩) dX12_bit_50
      · exact absurd c33 (by decide)
    · skip
      have c18 := bI_0.mp c18
      refine lv_iconst (v := nI 2) hx hb dX12_bit_21 (by decide) ?_
      refine lv_goto (tgt := 26) hx hb dX12_bit_22 (by decide) ?_
      refine pp_put (ci := 12) (v := .int (nI 2)) (ty := .int) (C := RX12) (T := TX12) (N := 23) hx hb hts inX12_bit_12 tyX12 tyX12_ok nmX12 hown hK h_o hS (Or.inl (rng_in (by omega))) rfl 22 (by decide) (hts (.fieldLink RX12 73 "GateLedgerModel" "thrown" "I") (List.mem_of_getElem? (i := 1) (by decide +kernel))) (fun _ h9 => h9) rfl (by decide +kernel) rfl rfl (Nat.le_of_ble_eq_true rfl) dX12_bit_26 (fun H locs hP9 hk6 _ hS => ?_)
      have h_o : PP G (modO a cy (nI 2)) H := hP9
      have h_bits : PP G (ar1 G a 104 120 b0) H := kp hk6 h_bits (dj_cons (ne_a ha (by omega)) (dj_nil))
      refine lv_aload_n hx hb dX12_bit_29 rfl (lv_at hl 0 rfl) ?_
      refine va_get (D := G.1) (ci := 12) (v := .int (nI 2)) (C := RX12) (T := TX12) (N := 23) hx hb hts inX12_bit_12 hown hK h_o 0 rfl rfl 22 (by decide) (hts (.fieldLink RX12 73 "GateLedgerModel" "thrown" "I") (List.mem_of_getElem? (i := 1) (by decide +kernel))) (fun _ h9 => h9) rfl dX12_bit_30 ?_
      refine lv_if_le (tgt := 38) hx hb dX12_bit_33 (by decide) (fun c33 => ?_) (fun c33 => ?_)
      · exact absurd c33 (by decide)
      · skip
        refine lv_iconst (v := nI 0) hx hb dX12_bit_36 (by decide) ?_
        have e1 : cBi Ns p9 g9 x9 = 2 := (if_pos c5).trans ((if_pos cg0).trans (if_neg c18))
        exact en_wi b0 hx hb hr hlocks hS ⟨fun q => absurd (e1.symm.trans q) (by decide), trivial⟩ (by rw [e1]; exact ⟨h_o, h_bits⟩) dX12_bit_37
  · skip
    have c7 := bI_0.mp c7
    refine lv_iconst (v := nI 1) hx hb dX12_bit_10 (by decide) ?_
    refine lv_goto (tgt := 26) hx hb dX12_bit_11 (by decide) ?_
    refine pp_put (ci := 12) (v := .int (nI 1)) (ty := .int) (C := RX12) (T := TX12) (N := 23) hx hb hts inX12_bit_12 tyX12 tyX12_ok nmX12 hown hK h_o hS (Or.inl (rng_in (by omega))) rfl 22 (by decide) (hts (.fieldLink RX12 73 "GateLedgerModel" "thrown" "I") (List.mem_of_getElem? (i := 1) (by decide +kernel))) (fun _ h9 => h9) rfl (by decide +kernel) rfl rfl (Nat.le_of_ble_eq_true rfl) dX12_bit_26 (fun H locs hP9 hk7 _ hS => ?_)
    have h_o : PP G (modO a cy (nI 1)) H := hP9
    have h_bits : PP G (ar1 G a 104 120 b0) H := kp hk7 h_bits (dj_cons (ne_a ha (by omega)) (dj_nil))
    refine lv_aload_n hx hb dX12_bit_29 rfl (lv_at hl 0 rfl) ?_
    refine va_get (D := G.1) (ci := 12) (v := .int (nI 1)) (C := RX12) (T := TX12) (N := 23) hx hb hts inX12_bit_12 hown hK h_o 0 rfl rfl 22 (by decide) (hts (.fieldLink RX12 73 "GateLedgerModel" "thrown" "I") (List.mem_of_getElem? (i := 1) (by decide +kernel))) (fun _ h9 => h9) rfl dX12_bit_30 ?_
    refine lv_if_le (tgt := 38) hx hb dX12_bit_33 (by decide) (fun c33 => ?_) (fun c33 => ?_)
    · exact absurd c33 (by decide)
    · skip
      refine lv_iconst (v := nI 0) hx hb dX12_bit_36 (by decide) ?_
      have e1 : cBi Ns p9 g9 x9 = 1 := by unfold cBi; by_cases q1 : inBd p9 4; rw [if_pos q1, if_neg (fun q2 => c7 ⟨q1, q2⟩)]; rw [if_neg q1]
      exact en_wi b0 hx hb hr hlocks hS ⟨fun q => absurd (e1.symm.trans q) (by decide), trivial⟩ (by rw [e1]; exact ⟨h_o, h_bits⟩) dX12_bit_37
set_option maxRecDepth 20000 in
theorem inX12_tellsValue_12 : ∀ w ∈ u_ws RX12 TX12 23, w ∈ wsX12_tellsValue := by decide +kernel
set_option maxHeartbeats 4000000 in
set_option maxRecDepth 100000 in
/-- tellsValue -/
theorem c_X12_tellsValue (l : Launch) (G : GG) (a : Nat → Nat) (ha : Inj a) (cy th : Int32) (Ns : Nat → NT) (fs sc b0 : FN) (p9 x9 : Int32) (hW : ∀ z, z < 4 → WF (Ns z)) (hFS : FS Ns fs sc)  : Met l yX12_tellsValue wsX12_tellsValue ({ frames := 3, cells := 0, slots := 0, locals := 73 } : Room) (PcB G [.ref (a 93), .int p9, .int x9] (fun H => PP G (modO a cy th) H ∧ PP G (sixW G a Ns fs sc) H ∧ PP G (twoW G a Ns) H ∧ PP G (ar1 G a 104 120 b0) H)) (QI (fun (r : Int32) (u : FN) => (cVa p9 x9 = 0 → r = vl (Ns (ix p9)) (ix x9)) ∧ True) (fun u H => PP G (modO a cy (nI (cVa p9 x9))) H ∧ PP G (ar1 G a 104 120 u) H) (orA (rng a 93 1) (rng a 104 1))) 0 0 (orA (rng a 93 1) (rng a 104 1)) := by
  refine Met.ofW (cc := cX12_tellsValue) (maxL := 3) (ret := (some .int)) (by decide) rfl ?_
  intro p e s m args below meth c s₁ B hml hv
  obtain ⟨rfl, hB, hK, hNW⟩ := hv
  have hx := B.exec
  have hb := B.bytes
  have hr := B.returns
  have hts := atoms_spec (ws := wsX12_tellsValue) B.pre
  have hown : s.vm.findClass RX12 = some m.cls := findClass_of_methodNamed B.named
  have hlocks := B.notSynchronized
  have FX : CallFix p m c cX12_tellsValue 3 s ([.ref (a 93), .int p9, .int x9] : List Value).toArray wsX12_tellsValue RX12 := ⟨hx, hb, hml, hown, hts⟩
  have hl := lv_entry ([.ref (a 93), .int p9, .int x9]) (n := 3) (Nat.le_of_ble_eq_true rfl)
  rw [lg_entry_eq]
  generalize (lg_sl ([.ref (a 93), .int p9, .int x9]) ++ List.replicate (3 - (lg_sl ([.ref (a 93), .int p9, .int x9])).length) Slot.unset).toArray = ls at hl ⊢
  have hl : lv_has ls 3 [(0, .ref (a 93)), (1, .int p9), (2, .int x9)] := hl
  obtain ⟨h_o, h_x, h_y, h_bits⟩ := hB
  have hS : va_S (orA (rng a 93 1) (rng a 104 1)) s.heap s.heap [] := va_S.rf
  refine lv_aload_n hx hb dX12_tellsValue_0 rfl (lv_at hl 0 rfl) ?_
  refine lv_iload_n hx hb dX12_tellsValue_1 rfl (lv_at hl 1 rfl) ?_
  refine ro_i (va_runS (As := [.int p9]) (rest := [.ref (a 93)]) FX (c_X12_isNet l G p9) (va_cwS 1 hts gX12_tellsValue_X12_isNet rfl rfl rfl (by decide +kernel) ⟨Nat.le_of_ble_eq_true rfl, Nat.le_of_ble_eq_true rfl⟩) (preS hK hNW trivial) rfl rfl hl.1 rfl (lv_room (Nat.le_of_ble_eq_true rfl)) dX12_tellsValue_2 ⟨Nat.le_of_ble_eq_true rfl, Nat.le_of_ble_eq_true rfl⟩) ?_
  refine lv_if_ne (tgt := 12) hx hb dX12_tellsValue_5 (by decide) (fun c5 => ?_) (fun c5 => ?_)
  · skip
    have c5 := bI_1 c5
    obtain ⟨z, hz, ez, ep⟩ := inBd_z c5 (by omega)
    rw [ep] at hl
    have hl : lv_has ls 3 [(0, .ref (a 93)), (1, .int (nI z)), (2, .int x9)] := hl
    have hN := hW _ hz
    have hg9 := hN.g
    have ho9 := hN.o
    have hi9 := hN.2.1
    refine lv_iload_n hx hb dX12_tellsValue_12 rfl (lv_at hl 2 rfl) ?_
    refine ro_i (va_runS (As := [.int x9]) (rest := [.ref (a 93)]) FX (c_X12_isNumber l G x9) (va_cwS 1 hts gX12_tellsValue_X12_isNumber rfl rfl rfl (by decide +kernel) ⟨Nat.le_of_ble_eq_true rfl, Nat.le_of_ble_eq_true rfl⟩) (preS hK hNW trivial) rfl rfl hl.1 rfl (lv_room (Nat.le_of_ble_eq_true rfl)) dX12_tellsValue_13 ⟨Nat.le_of_ble_eq_true rfl, Nat.le_of_ble_eq_true rfl⟩) ?_
    refine lv_if_ne (tgt := 23) hx hb dX12_tellsValue_16 (by decide) (fun c16 => ?_) (fun c16 => ?_)
    · skip
      have c16 := bI_1 c16
      obtain ⟨num, en, epn, hn1, hn2⟩ := rg_z c16 (by omega) (by omega)
      rw [epn] at hl
      have hl : lv_has ls 3 [(0, .ref (a 93)), (1, .int (nI z)), (2, .int (nI num))] := hl
      refine lv_iconst (v := nI 0) hx hb dX12_tellsValue_23 (by decide) ?_
      refine pp_put (ci := 12) (v := .int (nI 0)) (ty := .int) (C := RX12) (T := TX12) (N := 23) hx hb hts inX12_tellsValue_12 tyX12 tyX12_ok nmX12 hown hK h_o hS (Or.inl (rng_in (by omega))) rfl 22 (by decide) (hts (.fieldLink RX12 73 "GateLedgerModel" "thrown" "I") (List.mem_of_getElem? (i := 1) (by decide +kernel))) (fun _ h9 => h9) rfl (by decide +kernel) rfl rfl (Nat.le_of_ble_eq_true rfl) dX12_tellsValue_24 (fun H locs hP9 hk1 _ hS => ?_)
      have h_o : PP G (modO a cy (nI 0)) H := hP9
      have h_bits : PP G (ar1 G a 104 120 b0) H := kp hk1 h_bits (dj_cons (ne_a ha (by omega)) (dj_nil))
      refine lv_aload_n hx hb dX12_tellsValue_27 rfl (lv_at hl 0 rfl) ?_
      refine va_get (D := G.1) (ci := 12) (v := .int (nI 0)) (C := RX12) (T := TX12) (N := 23) hx hb hts inX12_tellsValue_12 hown hK h_o 0 rfl rfl 22 (by decide) (hts (.fieldLink RX12 73 "GateLedgerModel" "thrown" "I") (List.mem_of_getElem? (i := 1) (by decide +kernel))) (fun _ h9 => h9) rfl dX12_tellsValue_28 ?_
      refine lv_if_le (tgt := 38) hx hb dX12_tellsValue_31 (by decide) (fun c31 => ?_) (fun c31 => ?_)
      · skip
        refine lv_aload_n hx hb dX12_tellsValue_38 rfl (lv_at hl 0 rfl) ?_
        refine lv_iload_n hx hb dX12_tellsValue_39 rfl (lv_at hl 1 rfl) ?_
        refine lv_iload_n hx hb dX12_tellsValue_40 rfl (lv_at hl 2 rfl) ?_
        refine wr_i (va_runV (As := [.int (nI z), .int (nI num)]) (rest := []) FX (c_X12_valueOf l G a ha cy (nI 0) Ns z fs sc b0 num hz hN hFS (by omega)) (cwV 2 hts gX12_tellsValue_X12_valueOf rfl rfl rfl (by decide +kernel) ⟨Nat.le_of_ble_eq_true rfl, Nat.le_of_ble_eq_true rfl⟩) (preV hK hNW (⟨h_o, (ro hS h_x (dj_cons (or_no (rng_no ha (by omega)) (rng_no ha (by omega))) (dj_cons (or_no (rng_no ha (by omega)) (rng_no ha (by omega))) (dj_cons (or_no (rng_no ha (by omega)) (rng_no ha (by omega))) (dj_cons (or_no (rng_no ha (by omega)) (rng_no ha (by omega))) (dj_cons (or_no (rng_no ha (by omega)) (rng_no ha (by omega))) (dj_cons (or_no (rng_no ha (by omega)) (rng_no ha (by omega))) (dj_nil)))))))), (ro hS h_y (dj_cons (or_no (rng_no ha (by omega)) (rng_no ha (by omega))) (dj_cons (or_no (rng_no ha (by omega)) (rng_no ha (by omega))) (dj_nil)))), h_bits⟩) (va_recv hK h_o (ci := 12) (q0 := 0) rfl rfl)) rfl rfl hl.1 rfl (lv_room (Nat.le_of_ble_eq_true rfl)) dX12_tellsValue_41 ⟨Nat.le_of_ble_eq_true rfl, Nat.le_of_ble_eq_true rfl⟩) hS (fun q h => Or.inr ((rng_sub (by omega)) q h)) (fun rr u2 H locs er3 hP9 hk4 hS => ?_)
        have h_bits : PP G (ar1 G a 104 120 u2) H := hP9
        have h_o : PP G (modO a cy (nI 0)) H := kp hk4 h_o (dj_cons (rng_no ha (by omega)) (dj_nil))
        refine lv_as (y := vl (Ns z) num) er3 ?_
        have e1 : cVa p9 x9 = 0 := (if_pos c5).trans (if_pos c16)
        exact en_wi u2 hx hb hr hlocks hS ⟨fun _ => by rw [ez, en], trivial⟩ (by rw [e1]; exact ⟨h_o, h_bits⟩) dX12_tellsValue_44
      · exact absurd c31 (by decide)
    · skip
      have c16 := bI_0.mp c16
      refine lv_iconst (v := nI 2) hx hb dX12_tellsValue_19 (by decide) ?_
      refine lv_goto (tgt := 24) hx hb dX12_tellsValue_20 (by decide) ?_
      refine pp_put (ci := 12) (v := .int (nI 2)) (ty := .int) (C := RX12) (T := TX12) (N := 23) hx hb hts inX12_tellsValue_12 tyX12 tyX12_ok nmX12 hown hK h_o hS (Or.inl (rng_in (by omega))) rfl 22 (by decide) (hts (.fieldLink RX12 73 "GateLedgerModel" "thrown" "I") (List.mem_of_getElem? (i := 1) (by decide +kernel))) (fun _ h9 => h9) rfl (by decide +kernel) rfl rfl (Nat.le_of_ble_eq_true rfl) dX12_tellsValue_24 (fun H locs hP9 hk6 _ hS => ?_)
      have h_o : PP G (modO a cy (nI 2)) H := hP9
      have h_bits : PP G (ar1 G a 104 120 b0) H := kp hk6 h_bits (dj_cons (ne_a ha (by omega)) (dj_nil))
      refine lv_aload_n hx hb dX12_tellsValue_27 rfl (lv_at hl 0 rfl) ?_
      refine va_get (D := G.1) (ci := 12) (v := .int (nI 2)) (C := RX12) (T := TX12) (N := 23) hx hb hts inX12_tellsValue_12 hown hK h_o 0 rfl rfl 22 (by decide) (hts (.fieldLink RX12 73 "GateLedgerModel" "thrown" "I") (List.mem_of_getElem? (i := 1) (by decide +kernel))) (fun _ h9 => h9) rfl dX12_tellsValue_28 ?_
      refine lv_if_le (tgt := 38) hx hb dX12_tellsValue_31 (by decide) (fun c31 => ?_) (fun c31 => ?_)
      · exact absurd c31 (by decide)
      · skip
        refine lv_iconst (v := nI 0) hx hb dX12_tellsValue_34 (by decide) ?_
        refine lv_goto (tgt := 44) hx hb dX12_tellsValue_35 (by decide) ?_
        have e1 : cVa p9 x9 = 2 := (if_pos c5).trans (if_neg c16)
        exact en_wi b0 hx hb hr hlocks hS ⟨fun q => absurd (e1.symm.trans q) (by decide), trivial⟩ (by rw [e1]; exact ⟨h_o, h_bits⟩) dX12_tellsValue_44
  · skip
    have c5 := bI_0.mp c5
    refine lv_iconst (v := nI 1) hx hb dX12_tellsValue_8 (by decide) ?_
    refine lv_goto (tgt := 24) hx hb dX12_tellsValue_9 (by decide) ?_
    refine pp_put (ci := 12) (v := .int (nI 1)) (ty := .int) (C := RX12) (T := TX12) (N := 23) hx hb hts inX12_tellsValue_12 tyX12 tyX12_ok nmX12 hown hK h_o hS (Or.inl (rng_in (by omega))) rfl 22 (by decide) (hts (.fieldLink RX12 73 "GateLedgerModel" "thrown" "I") (List.mem_of_getElem? (i := 1) (by decide +kernel))) (fun _ h9 => h9) rfl (by decide +kernel) rfl rfl (Nat.le_of_ble_eq_true rfl) dX12_tellsValue_24 (fun H locs hP9 hk7 _ hS => ?_)
    have h_o : PP G (modO a cy (nI 1)) H := hP9
    have h_bits : PP G (ar1 G a 104 120 b0) H := kp hk7 h_bits (dj_cons (ne_a ha (by omega)) (dj_nil))
    refine lv_aload_n hx hb dX12_tellsValue_27 rfl (lv_at hl 0 rfl) ?_
    refine va_get (D := G.1) (ci := 12) (v := .int (nI 1)) (C := RX12) (T := TX12) (N := 23) hx hb hts inX12_tellsValue_12 hown hK h_o 0 rfl rfl 22 (by decide) (hts (.fieldLink RX12 73 "GateLedgerModel" "thrown" "I") (List.mem_of_getElem? (i := 1) (by decide +kernel))) (fun _ h9 => h9) rfl dX12_tellsValue_28 ?_
    refine lv_if_le (tgt := 38) hx hb dX12_tellsValue_31 (by decide) (fun c31 => ?_) (fun c31 => ?_)
    · exact absurd c31 (by decide)
    · skip
      refine lv_iconst (v := nI 0) hx hb dX12_tellsValue_34 (by decide) ?_
      refine lv_goto (tgt := 44) hx hb dX12_tellsValue_35 (by decide) ?_
      have e1 : cVa p9 x9 = 1 := if_neg c5
      exact en_wi b0 hx hb hr hlocks hS ⟨fun q => absurd (e1.symm.trans q) (by decide), trivial⟩ (by rw [e1]; exact ⟨h_o, h_bits⟩) dX12_tellsValue_44
set_option maxHeartbeats 4000000 in
set_option maxRecDepth 100000 in
/-- X12_value -/
theorem c_X12_value (l : Launch) (G : GG) (a : Nat → Nat) (ha : Inj a) (cy th : Int32) (Ns : Nat → NT) (fs sc b0 : FN) (p9 x9 : Int32) (hW : ∀ z, z < 4 → WF (Ns z)) (hFS : FS Ns fs sc)  : Met l yX12_value wsX12_value ({ frames := 4, cells := 0, slots := 0, locals := 95 } : Room) (PcB G [.ref (a 93), .int p9, .int x9] (fun H => PP G (modO a cy th) H ∧ PP G (sixW G a Ns fs sc) H ∧ PP G (twoW G a Ns) H ∧ PP G (ar1 G a 104 120 b0) H)) (QI (fun (r : Int32) (u : FN) => (cVa p9 x9 = 0 → r = vl (Ns (ix p9)) (ix x9)) ∧ True) (fun u H => PP G (modO a cy (nI (cVa p9 x9))) H ∧ PP G (ar1 G a 104 120 u) H) (orA (rng a 93 1) (rng a 104 1))) 0 0 (orA (rng a 93 1) (rng a 104 1)) := by
  refine Met.ofW (cc := cX12_value) (maxL := 3) (ret := (some .int)) (by decide) rfl ?_
  intro p e s m args below meth c s₁ B hml hv
  obtain ⟨rfl, hB, hK, hNW⟩ := hv
  have hx := B.exec
  have hb := B.bytes
  have hr := B.returns
  have hts := atoms_spec (ws := wsX12_value) B.pre
  have hown : s.vm.findClass RX12 = some m.cls := findClass_of_methodNamed B.named
  have hlocks := B.notSynchronized
  have FX : CallFix p m c cX12_value 3 s ([.ref (a 93), .int p9, .int x9] : List Value).toArray wsX12_value RX12 := ⟨hx, hb, hml, hown, hts⟩
  have hl := lv_entry ([.ref (a 93), .int p9, .int x9]) (n := 3) (Nat.le_of_ble_eq_true rfl)
  rw [lg_entry_eq]
  generalize (lg_sl ([.ref (a 93), .int p9, .int x9]) ++ List.replicate (3 - (lg_sl ([.ref (a 93), .int p9, .int x9])).length) Slot.unset).toArray = ls at hl ⊢
  have hl : lv_has ls 3 [(0, .ref (a 93)), (1, .int p9), (2, .int x9)] := hl
  obtain ⟨h_o, h_x, h_y, h_bits⟩ := hB
  have hS : va_S (orA (rng a 93 1) (rng a 104 1)) s.heap s.heap [] := va_S.rf
  refine lv_aload_n hx hb dX12_value_0 rfl (lv_at hl 0 rfl) ?_
  refine lv_iload_n hx hb dX12_value_1 rfl (lv_at hl 1 rfl) ?_
  refine lv_iload_n hx hb dX12_value_2 rfl (lv_at hl 2 rfl) ?_
  refine wr_i (va_runV (As := [.int p9, .int x9]) (rest := []) FX (c_X12_tellsValue l G a ha cy th Ns fs sc b0 p9 x9 hW hFS) (cwV 2 hts gX12_value_X12_tellsValue rfl rfl rfl (by decide +kernel) ⟨Nat.le_of_ble_eq_true rfl, Nat.le_of_ble_eq_true rfl⟩) (preV hK hNW (⟨h_o, (ro hS h_x (dj_cons (or_no (rng_no ha (by omega)) (rng_no ha (by omega))) (dj_cons (or_no (rng_no ha (by omega)) (rng_no ha (by omega))) (dj_cons (or_no (rng_no ha (by omega)) (rng_no ha (by omega))) (dj_cons (or_no (rng_no ha (by omega)) (rng_no ha (by omega))) (dj_cons (or_no (rng_no ha (by omega)) (rng_no ha (by omega))) (dj_cons (or_no (rng_no ha (by omega)) (rng_no ha (by omega))) (dj_nil)))))))), (ro hS h_y (dj_cons (or_no (rng_no ha (by omega)) (rng_no ha (by omega))) (dj_cons (or_no (rng_no ha (by omega)) (rng_no ha (by omega))) (dj_nil)))), h_bits⟩) (va_recv hK h_o (ci := 12) (q0 := 0) rfl rfl)) rfl rfl hl.1 rfl (lv_room (Nat.le_of_ble_eq_true rfl)) dX12_value_3 ⟨Nat.le_of_ble_eq_true rfl, Nat.le_of_ble_eq_true rfl⟩) hS (fun q h => h.elim ((fun q h => Or.inl ((rng_sub (by omega)) q h)) q) ((fun q h => Or.inr ((rng_sub (by omega)) q h)) q)) (fun rr u9 H locs h9 hP9 hk1 hS => ?_)
  have h_o : PP G (modO a cy (nI (cVa p9 x9))) H := hP9.1
  have h_bits : PP G (ar1 G a 104 120 u9) H := hP9.2
  exact en_wi u9 hx hb hr hlocks hS (h9) (⟨h_o, h_bits⟩) dX12_value_6
set_option maxHeartbeats 4000000 in
set_option maxRecDepth 100000 in
/-- X12_valueAnew -/
theorem c_X12_valueAnew (l : Launch) (G : GG) (a : Nat → Nat) (ha : Inj a) (cy th : Int32) (Ns : Nat → NT) (fs sc b0 : FN) (p9 x9 : Int32) (hW : ∀ z, z < 4 → WF (Ns z)) (hFS : FS Ns fs sc)  : Met l yX12_valueAnew wsX12_valueAnew ({ frames := 4, cells := 0, slots := 0, locals := 95 } : Room) (PcB G [.ref (a 93), .int p9, .int x9] (fun H => PP G (modO a cy th) H ∧ PP G (sixW G a Ns fs sc) H ∧ PP G (twoW G a Ns) H ∧ PP G (ar1 G a 104 120 b0) H)) (QI (fun (r : Int32) (u : FN) => (cVa p9 x9 = 0 → r = vl (Ns (ix p9)) (ix x9)) ∧ True) (fun u H => PP G (modO a cy (nI (cVa p9 x9))) H ∧ PP G (ar1 G a 104 120 u) H) (orA (rng a 93 1) (rng a 104 1))) 0 0 (orA (rng a 93 1) (rng a 104 1)) := by
  refine Met.ofW (cc := cX12_valueAnew) (maxL := 3) (ret := (some .int)) (by decide) rfl ?_
  intro p e s m args below meth c s₁ B hml hv
  obtain ⟨rfl, hB, hK, hNW⟩ := hv
  have hx := B.exec
  have hb := B.bytes
  have hr := B.returns
  have hts := atoms_spec (ws := wsX12_valueAnew) B.pre
  have hown : s.vm.findClass RX12 = some m.cls := findClass_of_methodNamed B.named
  have hlocks := B.notSynchronized
  have FX : CallFix p m c cX12_valueAnew 3 s ([.ref (a 93), .int p9, .int x9] : List Value).toArray wsX12_valueAnew RX12 := ⟨hx, hb, hml, hown, hts⟩
  have hl := lv_entry ([.ref (a 93), .int p9, .int x9]) (n := 3) (Nat.le_of_ble_eq_true rfl)
  rw [lg_entry_eq]
  generalize (lg_sl ([.ref (a 93), .int p9, .int x9]) ++ List.replicate (3 - (lg_sl ([.ref (a 93), .int p9, .int x9])).length) Slot.unset).toArray = ls at hl ⊢
  have hl : lv_has ls 3 [(0, .ref (a 93)), (1, .int p9), (2, .int x9)] := hl
  obtain ⟨h_o, h_x, h_y, h_bits⟩ := hB
  have hS : va_S (orA (rng a 93 1) (rng a 104 1)) s.heap s.heap [] := va_S.rf
  refine lv_aload_n hx hb dX12_valueAnew_0 rfl (lv_at hl 0 rfl) ?_
  refine lv_iload_n hx hb dX12_valueAnew_1 rfl (lv_at hl 1 rfl) ?_
  refine lv_iload_n hx hb dX12_valueAnew_2 rfl (lv_at hl 2 rfl) ?_
  refine wr_i (va_runV (As := [.int p9, .int x9]) (rest := []) FX (c_X12_tellsValue l G a ha cy th Ns fs sc b0 p9 x9 hW hFS) (cwV 2 hts gX12_valueAnew_X12_tellsValue rfl rfl rfl (by decide +kernel) ⟨Nat.le_of_ble_eq_true rfl, Nat.le_of_ble_eq_true rfl⟩) (preV hK hNW (⟨h_o, (ro hS h_x (dj_cons (or_no (rng_no ha (by omega)) (rng_no ha (by omega))) (dj_cons (or_no (rng_no ha (by omega)) (rng_no ha (by omega))) (dj_cons (or_no (rng_no ha (by omega)) (rng_no ha (by omega))) (dj_cons (or_no (rng_no ha (by omega)) (rng_no ha (by omega))) (dj_cons (or_no (rng_no ha (by omega)) (rng_no ha (by omega))) (dj_cons (or_no (rng_no ha (by omega)) (rng_no ha (by omega))) (dj_nil)))))))), (ro hS h_y (dj_cons (or_no (rng_no ha (by omega)) (rng_no ha (by omega))) (dj_cons (or_no (rng_no ha (by omega)) (rng_no ha (by omega))) (dj_nil)))), h_bits⟩) (va_recv hK h_o (ci := 12) (q0 := 0) rfl rfl)) rfl rfl hl.1 rfl (lv_room (Nat.le_of_ble_eq_true rfl)) dX12_valueAnew_3 ⟨Nat.le_of_ble_eq_true rfl, Nat.le_of_ble_eq_true rfl⟩) hS (fun q h => h.elim ((fun q h => Or.inl ((rng_sub (by omega)) q h)) q) ((fun q h => Or.inr ((rng_sub (by omega)) q h)) q)) (fun rr u9 H locs h9 hP9 hk1 hS => ?_)
  have h_o : PP G (modO a cy (nI (cVa p9 x9))) H := hP9.1
  have h_bits : PP G (ar1 G a 104 120 u9) H := hP9.2
  exact en_wi u9 hx hb hr hlocks hS (h9) (⟨h_o, h_bits⟩) dX12_valueAnew_6
