set_option maxRecDepth 20000 in
theorem inX12_adder_12 : ∀ w ∈ u_ws RX12 TX12 23, w ∈ wsX12_adder := by decide +kernel
set_option maxHeartbeats 4000000 in
set_option maxRecDepth 100000 in
/-- adder -/
theorem c_X12_adder (l : Launch) (G : GG) (a : Nat → Nat) (ha : Inj a) (cy th : Int32) (Ns : Nat → NT) (fs sc : FN) (p0 g0 np0 ng0 rw0 : FN) (p9 m9 w9 : Int32) (hW : ∀ z, z < 4 → WF (Ns z)) (hFS : FS Ns fs sc)  : Met l yX12_adder wsX12_adder ({ frames := 3, cells := 0, slots := 0, locals := 76 } : Room) (PcB G [.ref (a 93), .int p9, .int m9, .int w9] (fun H => PP G (modO a cy th) H ∧ PP G (sixW G a Ns fs sc) H ∧ PP G (twoW G a Ns) H ∧ PP G (ar1 G a 109 6 p0) H ∧ PP G (ar1 G a 110 6 g0) H ∧ PP G (ar1 G a 111 6 np0) H ∧ PP G (ar1 G a 112 6 ng0) H ∧ PP G (ar1 G a 113 16 rw0) H)) (QI (fun (r : Int32) (u : FN × FN × Int32 × FN × FN × FN × FN × FN) => (cAd Ns p9 m9 w9 = 0 → r = nI (nG (if ix m9 = 0 then ripN (Ns (ix p9)) (ix w9) else joiN (ix m9 = 1) (Ns (ix p9)) (ix w9)))) ∧ FS (stN (cAd Ns p9 m9 w9) (upN Ns (ix p9) (if ix m9 = 0 then ripN (Ns (ix p9)) (ix w9) else joiN (ix m9 = 1) (Ns (ix p9)) (ix w9))) Ns) u.1 u.2.1) (fun u H => PP G (modO a u.2.2.1 (nI (cAd Ns p9 m9 w9))) H ∧ PP G (sixW G a (stN (cAd Ns p9 m9 w9) (upN Ns (ix p9) (if ix m9 = 0 then ripN (Ns (ix p9)) (ix w9) else joiN (ix m9 = 1) (Ns (ix p9)) (ix w9))) Ns) u.1 u.2.1) H ∧ PP G (twoW G a (stN (cAd Ns p9 m9 w9) (upN Ns (ix p9) (if ix m9 = 0 then ripN (Ns (ix p9)) (ix w9) else joiN (ix m9 = 1) (Ns (ix p9)) (ix w9))) Ns)) H ∧ PP G (ar1 G a 109 6 u.2.2.2.1) H ∧ PP G (ar1 G a 110 6 u.2.2.2.2.1) H ∧ PP G (ar1 G a 111 6 u.2.2.2.2.2.1) H ∧ PP G (ar1 G a 112 6 u.2.2.2.2.2.2.1) H ∧ PP G (ar1 G a 113 16 u.2.2.2.2.2.2.2) H) (orA (rng a 93 9) (rng a 109 5))) 0 0 (orA (rng a 93 9) (rng a 109 5)) := by
  refine Met.ofW (cc := cX12_adder) (maxL := 4) (ret := (some .int)) (by decide) rfl ?_
  intro p e s m args below meth c s₁ B hml hv
  obtain ⟨rfl, hB, hK, hNW⟩ := hv
  have hx := B.exec
  have hb := B.bytes
  have hr := B.returns
  have hts := atoms_spec (ws := wsX12_adder) B.pre
  have hown : s.vm.findClass RX12 = some m.cls := findClass_of_methodNamed B.named
  have hlocks := B.notSynchronized
  have FX : CallFix p m c cX12_adder 4 s ([.ref (a 93), .int p9, .int m9, .int w9] : List Value).toArray wsX12_adder RX12 := ⟨hx, hb, hml, hown, hts⟩
  have hl := lv_entry ([.ref (a 93), .int p9, .int m9, .int w9]) (n := 4) (Nat.le_of_ble_eq_true rfl)
  rw [lg_entry_eq]
  generalize (lg_sl ([.ref (a 93), .int p9, .int m9, .int w9]) ++ List.replicate (4 - (lg_sl ([.ref (a 93), .int p9, .int m9, .int w9])).length) Slot.unset).toArray = ls at hl ⊢
  have hl : lv_has ls 4 [(0, .ref (a 93)), (1, .int p9), (2, .int m9), (3, .int w9)] := hl
  obtain ⟨h_o, h_x, h_y, h_p, h_g, h_nextP, h_nextG, h_row⟩ := hB
  have hS : va_S (orA (rng a 93 9) (rng a 109 5)) s.heap s.heap [] := va_S.rf
  refine lv_aload_n hx hb dX12_adder_0 rfl (lv_at hl 0 rfl) ?_
  refine lv_iload_n hx hb dX12_adder_1 rfl (lv_at hl 1 rfl) ?_
  refine ro_i (va_runS (As := [.int p9]) (rest := [.ref (a 93)]) FX (c_X12_isNet l G p9) (va_cwS 1 hts gX12_adder_X12_isNet rfl rfl rfl (by decide +kernel) ⟨Nat.le_of_ble_eq_true rfl, Nat.le_of_ble_eq_true rfl⟩) (preS hK hNW trivial) rfl rfl hl.1 rfl (lv_room (Nat.le_of_ble_eq_true rfl)) dX12_adder_2 ⟨Nat.le_of_ble_eq_true rfl, Nat.le_of_ble_eq_true rfl⟩) ?_
  refine lv_if_ne (tgt := 12) hx hb dX12_adder_5 (by decide) (fun c5 => ?_) (fun c5 => ?_)
  · skip
    have c5 := bI_1 c5
    obtain ⟨z, hz, ez, ep⟩ := inBd_z c5 (by omega)
    rw [ep] at hl
    have hl : lv_has ls 4 [(0, .ref (a 93)), (1, .int (nI z)), (2, .int m9), (3, .int w9)] := hl
    have hN := hW _ hz
    have hg9 := hN.g
    have ho9 := hN.o
    have hi9 := hN.2.1
    refine lv_iload_n hx hb dX12_adder_12 rfl (lv_at hl 2 rfl) ?_
    refine lv_iconst (v := nI 0) hx hb dX12_adder_13 (by decide) ?_
    refine lv_iconst (v := nI 2) hx hb dX12_adder_14 (by decide) ?_
    refine ro_i (va_runS (As := [.int m9, .int (nI 0), .int (nI 2)]) (rest := [.ref (a 93)]) FX (c_X12_isIn l G m9 (nI 0) (nI 2)) (va_cwS 3 hts gX12_adder_X12_isIn rfl rfl rfl (by decide +kernel) ⟨Nat.le_of_ble_eq_true rfl, Nat.le_of_ble_eq_true rfl⟩) (preS hK hNW trivial) rfl rfl hl.1 rfl (lv_room (Nat.le_of_ble_eq_true rfl)) dX12_adder_15 ⟨Nat.le_of_ble_eq_true rfl, Nat.le_of_ble_eq_true rfl⟩) ?_
    refine lv_if_eq (tgt := 31) hx hb dX12_adder_18 (by decide) (fun c18 => ?_) (fun c18 => ?_)
    · skip
      have c18 := bI_0.mp c18
      refine lv_iconst (v := nI 2) hx hb dX12_adder_31 (by decide) ?_
      refine lv_goto (tgt := 49) hx hb dX12_adder_32 (by decide) ?_
      refine pp_put (ci := 12) (v := .int (nI 2)) (ty := .int) (C := RX12) (T := TX12) (N := 23) hx hb hts inX12_adder_12 tyX12 tyX12_ok nmX12 hown hK h_o hS (Or.inl (rng_in (by omega))) rfl 22 (by decide) (hts (.fieldLink RX12 73 "GateLedgerModel" "thrown" "I") (List.mem_of_getElem? (i := 2) (by decide +kernel))) (fun _ h9 => h9) rfl (by decide +kernel) rfl rfl (Nat.le_of_ble_eq_true rfl) dX12_adder_49 (fun H locs hP9 hk1 _ hS => ?_)
      have h_o : PP G (modO a cy (nI 2)) H := hP9
      have h_x : PP G (sixW G a Ns fs sc) H := kp hk1 h_x (dj_cons (ne_a ha (by omega)) (dj_cons (ne_a ha (by omega)) (dj_cons (ne_a ha (by omega)) (dj_cons (ne_a ha (by omega)) (dj_cons (ne_a ha (by omega)) (dj_cons (ne_a ha (by omega)) (dj_nil)))))))
      have h_y : PP G (twoW G a Ns) H := kp hk1 h_y (dj_cons (ne_a ha (by omega)) (dj_cons (ne_a ha (by omega)) (dj_nil)))
      have h_p : PP G (ar1 G a 109 6 p0) H := kp hk1 h_p (dj_cons (ne_a ha (by omega)) (dj_nil))
      have h_g : PP G (ar1 G a 110 6 g0) H := kp hk1 h_g (dj_cons (ne_a ha (by omega)) (dj_nil))
      have h_nextP : PP G (ar1 G a 111 6 np0) H := kp hk1 h_nextP (dj_cons (ne_a ha (by omega)) (dj_nil))
      have h_nextG : PP G (ar1 G a 112 6 ng0) H := kp hk1 h_nextG (dj_cons (ne_a ha (by omega)) (dj_nil))
      have h_row : PP G (ar1 G a 113 16 rw0) H := kp hk1 h_row (dj_cons (ne_a ha (by omega)) (dj_nil))
      refine lv_aload_n hx hb dX12_adder_52 rfl (lv_at hl 0 rfl) ?_
      refine va_get (D := G.1) (ci := 12) (v := .int (nI 2)) (C := RX12) (T := TX12) (N := 23) hx hb hts inX12_adder_12 hown hK h_o 0 rfl rfl 22 (by decide) (hts (.fieldLink RX12 73 "GateLedgerModel" "thrown" "I") (List.mem_of_getElem? (i := 2) (by decide +kernel))) (fun _ h9 => h9) rfl dX12_adder_53 ?_
      refine lv_if_le (tgt := 61) hx hb dX12_adder_56 (by decide) (fun c56 => ?_) (fun c56 => ?_)
      · exact absurd c56 (by decide)
      · skip
        refine lv_iconst (v := nI 0) hx hb dX12_adder_59 (by decide) ?_
        have e1 : cAd Ns p9 m9 w9 = 2 := (if_pos c5).trans (if_neg c18)
        exact en_wi (fs, sc, cy, p0, g0, np0, ng0, rw0) hx hb hr hlocks hS ⟨fun q => absurd (e1.symm.trans q) (by decide), by rw [stN_n e1 (by decide)]; exact hFS⟩ (by rw [stN_n e1 (by decide), e1]; exact ⟨h_o, h_x, h_y, h_p, h_g, h_nextP, h_nextG, h_row⟩) dX12_adder_60
    · skip
      have c18 := bI_1 c18
      obtain ⟨m, em, epm, hm1, hm2⟩ := rg_z c18 (by omega) (by omega)
      rw [epm] at hl
      have hl : lv_has ls 4 [(0, .ref (a 93)), (1, .int (nI z)), (2, .int (nI m)), (3, .int w9)] := hl
      refine lv_iload_n hx hb dX12_adder_21 rfl (lv_at hl 3 rfl) ?_
      refine lv_iconst (v := nI 1) hx hb dX12_adder_22 (by decide) ?_
      refine lv_bipush (v := nI 6) hx hb dX12_adder_23 (by decide) ?_
      refine ro_i (va_runS (As := [.int w9, .int (nI 1), .int (nI 6)]) (rest := [.ref (a 93)]) FX (c_X12_isIn l G w9 (nI 1) (nI 6)) (va_cwS 3 hts gX12_adder_X12_isIn rfl rfl rfl (by decide +kernel) ⟨Nat.le_of_ble_eq_true rfl, Nat.le_of_ble_eq_true rfl⟩) (preS hK hNW trivial) rfl rfl hl.1 rfl (lv_room (Nat.le_of_ble_eq_true rfl)) dX12_adder_25 ⟨Nat.le_of_ble_eq_true rfl, Nat.le_of_ble_eq_true rfl⟩) ?_
      refine lv_if_ne (tgt := 35) hx hb dX12_adder_28 (by decide) (fun c28 => ?_) (fun c28 => ?_)
      · skip
        have c28 := bI_1 c28
        obtain ⟨w, ew, epw, hw1, hw2⟩ := rg_z c28 (by omega) (by omega)
        rw [epw] at hl
        have hl : lv_has ls 4 [(0, .ref (a 93)), (1, .int (nI z)), (2, .int (nI m)), (3, .int (nI w))] := hl
        refine lv_aload_n hx hb dX12_adder_35 rfl (lv_at hl 0 rfl) ?_
        refine va_get (D := G.1) (ci := 12) (v := .ref (a 98)) (C := RX12) (T := TX12) (N := 23) hx hb hts inX12_adder_12 hown hK h_o 0 rfl rfl 4 (by decide) (hts (.fieldLink RX12 22 "GateLedgerModel" "many" "[I") (List.mem_of_getElem? (i := 1) (by decide +kernel))) (fun _ h9 => h9) rfl dX12_adder_36 ?_
        refine lv_iload_n hx hb dX12_adder_39 rfl (lv_at hl 1 rfl) ?_
        refine pp_iald hx hb hK h_x 4 rfl (vp_in_nI (by omega) (by omega)) dX12_adder_40 ?_
        refine lv_as (congrArg (MF Ns) (nI_clamp (by omega))) ?_
        refine lv_as (y := nI (nG (Ns z))) rfl ?_
        refine lv_if_le (tgt := 48) hx hb dX12_adder_41 (by decide) (fun c41 => ?_) (fun c41 => ?_)
        · skip
          have c41 := cv_le (by omega) (by omega) (show nI (nG (Ns z)) ≤ nI 0 from c41)
          have iz := WF_i0 hN (by omega)
          have oz := WF_o0 hN (by omega)
          refine lv_iconst (v := nI 0) hx hb dX12_adder_48 (by decide) ?_
          refine pp_put (ci := 12) (v := .int (nI 0)) (ty := .int) (C := RX12) (T := TX12) (N := 23) hx hb hts inX12_adder_12 tyX12 tyX12_ok nmX12 hown hK h_o hS (Or.inl (rng_in (by omega))) rfl 22 (by decide) (hts (.fieldLink RX12 73 "GateLedgerModel" "thrown" "I") (List.mem_of_getElem? (i := 2) (by decide +kernel))) (fun _ h9 => h9) rfl (by decide +kernel) rfl rfl (Nat.le_of_ble_eq_true rfl) dX12_adder_49 (fun H locs hP9 hk2 _ hS => ?_)
          have h_o : PP G (modO a cy (nI 0)) H := hP9
          have h_x : PP G (sixW G a Ns fs sc) H := kp hk2 h_x (dj_cons (ne_a ha (by omega)) (dj_cons (ne_a ha (by omega)) (dj_cons (ne_a ha (by omega)) (dj_cons (ne_a ha (by omega)) (dj_cons (ne_a ha (by omega)) (dj_cons (ne_a ha (by omega)) (dj_nil)))))))
          have h_y : PP G (twoW G a Ns) H := kp hk2 h_y (dj_cons (ne_a ha (by omega)) (dj_cons (ne_a ha (by omega)) (dj_nil)))
          have h_p : PP G (ar1 G a 109 6 p0) H := kp hk2 h_p (dj_cons (ne_a ha (by omega)) (dj_nil))
          have h_g : PP G (ar1 G a 110 6 g0) H := kp hk2 h_g (dj_cons (ne_a ha (by omega)) (dj_nil))
          have h_nextP : PP G (ar1 G a 111 6 np0) H := kp hk2 h_nextP (dj_cons (ne_a ha (by omega)) (dj_nil))
          have h_nextG : PP G (ar1 G a 112 6 ng0) H := kp hk2 h_nextG (dj_cons (ne_a ha (by omega)) (dj_nil))
          have h_row : PP G (ar1 G a 113 16 rw0) H := kp hk2 h_row (dj_cons (ne_a ha (by omega)) (dj_nil))
          refine lv_aload_n hx hb dX12_adder_52 rfl (lv_at hl 0 rfl) ?_
          refine va_get (D := G.1) (ci := 12) (v := .int (nI 0)) (C := RX12) (T := TX12) (N := 23) hx hb hts inX12_adder_12 hown hK h_o 0 rfl rfl 22 (by decide) (hts (.fieldLink RX12 73 "GateLedgerModel" "thrown" "I") (List.mem_of_getElem? (i := 2) (by decide +kernel))) (fun _ h9 => h9) rfl dX12_adder_53 ?_
          refine lv_if_le (tgt := 61) hx hb dX12_adder_56 (by decide) (fun c56 => ?_) (fun c56 => ?_)
          · skip
            have h_x : PP G (sixW G a (upN Ns z (Ns z)) fs sc) H := by rw [upN_self]; exact h_x
            have hFS : FS (upN Ns z (Ns z)) fs sc := by rw [upN_self]; exact hFS
            have h_y : PP G (twoW G a (upN Ns z (Ns z))) H := by rw [upN_self]; exact h_y
            refine lv_aload_n hx hb dX12_adder_61 rfl (lv_at hl 0 rfl) ?_
            refine lv_iload_n hx hb dX12_adder_62 rfl (lv_at hl 1 rfl) ?_
            refine lv_iload_n hx hb dX12_adder_63 rfl (lv_at hl 3 rfl) ?_
            refine wr_v (va_runV (As := [.int (nI z), .int (nI w)]) (rest := []) FX (c_X12_addsInputs l G a ha cy (nI 0) Ns z (Ns z) fs sc w hz (by omega) hFS) (cwV 2 hts gX12_adder_X12_addsInputs rfl rfl rfl (by decide +kernel) ⟨Nat.le_of_ble_eq_true rfl, Nat.le_of_ble_eq_true rfl⟩) (preV hK hNW (⟨h_o, h_x⟩) (va_recv hK h_o (ci := 12) (q0 := 0) rfl rfl)) rfl rfl hl.1 rfl (lv_room (Nat.le_of_ble_eq_true rfl)) dX12_adder_64 ⟨Nat.le_of_ble_eq_true rfl, Nat.le_of_ble_eq_true rfl⟩) hS (fun q h => Or.inl ((rng_sub (by omega)) q h)) (fun v3 H locs hF4 hP9 hk5 hS => ?_)
            have h_x : PP G (sixW G a (upN Ns z (inN (Ns z) (2 * w))) v3.1 v3.2) H := hP9
            have h_o : PP G (modO a cy (nI 0)) H := kp hk5 h_o (dj_cons (rng_no ha (by omega)) (dj_nil))
            have h_y : PP G (twoW G a (upN Ns z (Ns z))) H := kp hk5 h_y (dj_cons (rng_no ha (by omega)) (dj_cons (rng_no ha (by omega)) (dj_nil)))
            have h_p : PP G (ar1 G a 109 6 p0) H := kp hk5 h_p (dj_cons (rng_no ha (by omega)) (dj_nil))
            have h_g : PP G (ar1 G a 110 6 g0) H := kp hk5 h_g (dj_cons (rng_no ha (by omega)) (dj_nil))
            have h_nextP : PP G (ar1 G a 111 6 np0) H := kp hk5 h_nextP (dj_cons (rng_no ha (by omega)) (dj_nil))
            have h_nextG : PP G (ar1 G a 112 6 ng0) H := kp hk5 h_nextG (dj_cons (rng_no ha (by omega)) (dj_nil))
            have h_row : PP G (ar1 G a 113 16 rw0) H := kp hk5 h_row (dj_cons (rng_no ha (by omega)) (dj_nil))
            have gM := inN_g (Ns z) (2 * w)
            have oM := inN_o (Ns z) (2 * w)
            have h_y : PP G (twoW G a (upN Ns z (inN (Ns z) (2 * w)))) H := two_same h_y oM (inN_u _)
            refine lv_iload_n hx hb dX12_adder_67 rfl (lv_at hl 2 rfl) ?_
            refine lv_if_ne (tgt := 80) hx hb dX12_adder_68 (by decide) (fun c68 => ?_) (fun c68 => ?_)
            · skip
              have c68 := cv_ne (by omega) (by omega) (show ¬ nI m = nI 0 from c68)
              refine lv_aload_n hx hb dX12_adder_80 rfl (lv_at hl 0 rfl) ?_
              refine lv_iload_n hx hb dX12_adder_81 rfl (lv_at hl 1 rfl) ?_
              refine lv_iload_n hx hb dX12_adder_82 rfl (lv_at hl 2 rfl) ?_
              refine lv_iload_n hx hb dX12_adder_83 rfl (lv_at hl 3 rfl) ?_
              refine wr_v (va_runV (As := [.int (nI z), .int (nI m), .int (nI w)]) (rest := []) FX (dite (m = 1) (fun hm9 => c_X12_joins1 l G a ha cy (nI 0) Ns z (inN (Ns z) (2 * w)) v3.1 v3.2 w m p0 g0 np0 ng0 rw0 hz ⟨hw1, hw2⟩ hm9 (by omega) (by omega) (by omega) hF4) (fun hm9 => c_X12_joins2 l G a ha cy (nI 0) Ns z (inN (Ns z) (2 * w)) v3.1 v3.2 w m p0 g0 np0 ng0 rw0 hz ⟨hw1, hw2⟩ hm9 (by omega) (by omega) (by omega) hF4)) (cwV 3 hts gX12_adder_X12_joins rfl rfl rfl (by decide +kernel) ⟨Nat.le_of_ble_eq_true rfl, Nat.le_of_ble_eq_true rfl⟩) (preV hK hNW (⟨h_o, h_x, h_y, h_p, h_g, h_nextP, h_nextG, h_row⟩) (va_recv hK h_o (ci := 12) (q0 := 0) rfl rfl)) rfl rfl hl.1 rfl (lv_room (Nat.le_of_ble_eq_true rfl)) dX12_adder_84 ⟨Nat.le_of_ble_eq_true rfl, Nat.le_of_ble_eq_true rfl⟩) hS (fun q h => h.elim ((fun q h => Or.inl ((rng_sub (by omega)) q h)) q) ((fun q h => Or.inr ((rng_sub (by omega)) q h)) q)) (fun v7 H locs hF8 hP9 hk9 hS => ?_)
              have h_x : PP G (sixW G a (upN Ns z (joO (m = 1) (inN (Ns z) (2 * w)) w)) v7.1 v7.2.1) H := hP9.1
              have h_y : PP G (twoW G a (upN Ns z (joO (m = 1) (inN (Ns z) (2 * w)) w))) H := hP9.2.1
              have h_p : PP G (ar1 G a 109 6 v7.2.2.1) H := hP9.2.2.1
              have h_g : PP G (ar1 G a 110 6 v7.2.2.2.1) H := hP9.2.2.2.1
              have h_nextP : PP G (ar1 G a 111 6 v7.2.2.2.2.1) H := hP9.2.2.2.2.1
              have h_nextG : PP G (ar1 G a 112 6 v7.2.2.2.2.2.1) H := hP9.2.2.2.2.2.1
              have h_row : PP G (ar1 G a 113 16 v7.2.2.2.2.2.2) H := hP9.2.2.2.2.2.2
              have h_o : PP G (modO a cy (nI 0)) H := kp hk9 h_o (dj_cons (or_no (rng_no ha (by omega)) (rng_no ha (by omega))) (dj_nil))
              rw [jo_eq] at h_x h_y hF8
              refine lv_aload_n hx hb dX12_adder_87 rfl (lv_at hl 0 rfl) ?_
              refine va_get (D := G.1) (ci := 12) (v := .ref (a 98)) (C := RX12) (T := TX12) (N := 23) hx hb hts inX12_adder_12 hown hK h_o 0 rfl rfl 4 (by decide) (hts (.fieldLink RX12 22 "GateLedgerModel" "many" "[I") (List.mem_of_getElem? (i := 1) (by decide +kernel))) (fun _ h9 => h9) rfl dX12_adder_88 ?_
              refine lv_iload_n hx hb dX12_adder_91 rfl (lv_at hl 1 rfl) ?_
              refine pp_iald hx hb hK h_x 4 rfl (vp_in_nI (by omega) (by omega)) dX12_adder_92 ?_
              refine lv_as (congrArg (MF (upN Ns z (joiN (m = 1) (Ns z) w))) (nI_clamp (by omega))) ?_
              refine lv_as (y := nI (nG (joiN (m = 1) (Ns z) w))) MF_U ?_
              have e1 : cAd Ns p9 m9 w9 = 0 := (if_pos c5).trans ((if_pos c18).trans ((if_pos c28).trans (if_pos (by rw [ez]; omega))))
              exact en_wi (v7.1, v7.2.1, cy, v7.2.2.1, v7.2.2.2.1, v7.2.2.2.2.1, v7.2.2.2.2.2.1, v7.2.2.2.2.2.2) hx hb hr hlocks hS ⟨fun _ => by rw [ez, em, ew, if_neg c68], by rw [stN_0 e1, ez, em, ew, if_neg c68]; exact hF8⟩ (by rw [stN_0 e1, e1, ez, em, ew, if_neg c68]; exact ⟨h_o, h_x, h_y, h_p, h_g, h_nextP, h_nextG, h_row⟩) dX12_adder_93
            · skip
              have c68 := cv_eq (by omega) (by omega) (show nI m = nI 0 from c68)
              refine lv_aload_n hx hb dX12_adder_71 rfl (lv_at hl 0 rfl) ?_
              refine lv_iload_n hx hb dX12_adder_72 rfl (lv_at hl 1 rfl) ?_
              refine lv_iload_n hx hb dX12_adder_73 rfl (lv_at hl 3 rfl) ?_
              refine wr_v (va_runV (As := [.int (nI z), .int (nI w)]) (rest := []) FX (c_X12_ripples l G a ha cy (nI 0) Ns z (inN (Ns z) (2 * w)) v3.1 v3.2 w rw0 hz ⟨hw1, hw2⟩ (by omega) (by omega) hF4) (cwV 2 hts gX12_adder_X12_ripples rfl rfl rfl (by decide +kernel) ⟨Nat.le_of_ble_eq_true rfl, Nat.le_of_ble_eq_true rfl⟩) (preV hK hNW (⟨h_o, h_x, h_y, h_row⟩) (va_recv hK h_o (ci := 12) (q0 := 0) rfl rfl)) rfl rfl hl.1 rfl (lv_room (Nat.le_of_ble_eq_true rfl)) dX12_adder_74 ⟨Nat.le_of_ble_eq_true rfl, Nat.le_of_ble_eq_true rfl⟩) hS (fun q h => h.elim ((fun q h => Or.inl ((rng_sub (by omega)) q h)) q) ((fun q h => Or.inr ((rng_sub (by omega)) q h)) q)) (fun v11 H locs hF12 hP9 hk13 hS => ?_)
              have h_o : PP G (modO a v11.1 (nI 0)) H := hP9.1
              have h_x : PP G (sixW G a (upN Ns z (riO (inN (Ns z) (2 * w)) w)) v11.2.1 v11.2.2.1) H := hP9.2.1
              have h_y : PP G (twoW G a (upN Ns z (riO (inN (Ns z) (2 * w)) w))) H := hP9.2.2.1
              have h_row : PP G (ar1 G a 113 16 v11.2.2.2) H := hP9.2.2.2
              have h_p : PP G (ar1 G a 109 6 p0) H := kp hk13 h_p (dj_cons (or_no (rng_no ha (by omega)) (rng_no ha (by omega))) (dj_nil))
              have h_g : PP G (ar1 G a 110 6 g0) H := kp hk13 h_g (dj_cons (or_no (rng_no ha (by omega)) (rng_no ha (by omega))) (dj_nil))
              have h_nextP : PP G (ar1 G a 111 6 np0) H := kp hk13 h_nextP (dj_cons (or_no (rng_no ha (by omega)) (rng_no ha (by omega))) (dj_nil))
              have h_nextG : PP G (ar1 G a 112 6 ng0) H := kp hk13 h_nextG (dj_cons (or_no (rng_no ha (by omega)) (rng_no ha (by omega))) (dj_nil))
              refine lv_goto (tgt := 87) hx hb dX12_adder_77 (by decide) ?_
              rw [ri_eq hw1] at h_x h_y hF12
              refine lv_aload_n hx hb dX12_adder_87 rfl (lv_at hl 0 rfl) ?_
              refine va_get (D := G.1) (ci := 12) (v := .ref (a 98)) (C := RX12) (T := TX12) (N := 23) hx hb hts inX12_adder_12 hown hK h_o 0 rfl rfl 4 (by decide) (hts (.fieldLink RX12 22 "GateLedgerModel" "many" "[I") (List.mem_of_getElem? (i := 1) (by decide +kernel))) (fun _ h9 => h9) rfl dX12_adder_88 ?_
              refine lv_iload_n hx hb dX12_adder_91 rfl (lv_at hl 1 rfl) ?_
              refine pp_iald hx hb hK h_x 4 rfl (vp_in_nI (by omega) (by omega)) dX12_adder_92 ?_
              refine lv_as (congrArg (MF (upN Ns z (ripN (Ns z) w))) (nI_clamp (by omega))) ?_
              refine lv_as (y := nI (nG (ripN (Ns z) w))) MF_U ?_
              have e1 : cAd Ns p9 m9 w9 = 0 := (if_pos c5).trans ((if_pos c18).trans ((if_pos c28).trans (if_pos (by rw [ez]; omega))))
              exact en_wi (v11.2.1, v11.2.2.1, v11.1, p0, g0, np0, ng0, v11.2.2.2) hx hb hr hlocks hS ⟨fun _ => by rw [ez, em, ew, if_pos c68], by rw [stN_0 e1, ez, em, ew, if_pos c68]; exact hF12⟩ (by rw [stN_0 e1, e1, ez, em, ew, if_pos c68]; exact ⟨h_o, h_x, h_y, h_p, h_g, h_nextP, h_nextG, h_row⟩) dX12_adder_93
          · exact absurd c56 (by decide)
        · skip
          have c41 := cv_nle (by omega) (by omega) (show ¬ nI (nG (Ns z)) ≤ nI 0 from c41)
          refine lv_iconst (v := nI 3) hx hb dX12_adder_44 (by decide) ?_
          refine lv_goto (tgt := 49) hx hb dX12_adder_45 (by decide) ?_
          refine pp_put (ci := 12) (v := .int (nI 3)) (ty := .int) (C := RX12) (T := TX12) (N := 23) hx hb hts inX12_adder_12 tyX12 tyX12_ok nmX12 hown hK h_o hS (Or.inl (rng_in (by omega))) rfl 22 (by decide) (hts (.fieldLink RX12 73 "GateLedgerModel" "thrown" "I") (List.mem_of_getElem? (i := 2) (by decide +kernel))) (fun _ h9 => h9) rfl (by decide +kernel) rfl rfl (Nat.le_of_ble_eq_true rfl) dX12_adder_49 (fun H locs hP9 hk15 _ hS => ?_)
          have h_o : PP G (modO a cy (nI 3)) H := hP9
          have h_x : PP G (sixW G a Ns fs sc) H := kp hk15 h_x (dj_cons (ne_a ha (by omega)) (dj_cons (ne_a ha (by omega)) (dj_cons (ne_a ha (by omega)) (dj_cons (ne_a ha (by omega)) (dj_cons (ne_a ha (by omega)) (dj_cons (ne_a ha (by omega)) (dj_nil)))))))
          have h_y : PP G (twoW G a Ns) H := kp hk15 h_y (dj_cons (ne_a ha (by omega)) (dj_cons (ne_a ha (by omega)) (dj_nil)))
          have h_p : PP G (ar1 G a 109 6 p0) H := kp hk15 h_p (dj_cons (ne_a ha (by omega)) (dj_nil))
          have h_g : PP G (ar1 G a 110 6 g0) H := kp hk15 h_g (dj_cons (ne_a ha (by omega)) (dj_nil))
          have h_nextP : PP G (ar1 G a 111 6 np0) H := kp hk15 h_nextP (dj_cons (ne_a ha (by omega)) (dj_nil))
          have h_nextG : PP G (ar1 G a 112 6 ng0) H := kp hk15 h_nextG (dj_cons (ne_a ha (by omega)) (dj_nil))
          have h_row : PP G (ar1 G a 113 16 rw0) H := kp hk15 h_row (dj_cons (ne_a ha (by omega)) (dj_nil))
          refine lv_aload_n hx hb dX12_adder_52 rfl (lv_at hl 0 rfl) ?_
          refine va_get (D := G.1) (ci := 12) (v := .int (nI 3)) (C := RX12) (T := TX12) (N := 23) hx hb hts inX12_adder_12 hown hK h_o 0 rfl rfl 22 (by decide) (hts (.fieldLink RX12 73 "GateLedgerModel" "thrown" "I") (List.mem_of_getElem? (i := 2) (by decide +kernel))) (fun _ h9 => h9) rfl dX12_adder_53 ?_
          refine lv_if_le (tgt := 61) hx hb dX12_adder_56 (by decide) (fun c56 => ?_) (fun c56 => ?_)
          · exact absurd c56 (by decide)
          · skip
            refine lv_iconst (v := nI 0) hx hb dX12_adder_59 (by decide) ?_
            have e1 : cAd Ns p9 m9 w9 = 3 := (if_pos c5).trans ((if_pos c18).trans ((if_pos c28).trans (if_neg (by rw [ez]; omega))))
            exact en_wi (fs, sc, cy, p0, g0, np0, ng0, rw0) hx hb hr hlocks hS ⟨fun q => absurd (e1.symm.trans q) (by decide), by rw [stN_n e1 (by decide)]; exact hFS⟩ (by rw [stN_n e1 (by decide), e1]; exact ⟨h_o, h_x, h_y, h_p, h_g, h_nextP, h_nextG, h_row⟩) dX12_adder_60
      · skip
        have c28 := bI_0.mp c28
        refine lv_iconst (v := nI 2) hx hb dX12_adder_31 (by decide) ?_
        refine lv_goto (tgt := 49) hx hb dX12_adder_32 (by decide) ?_
        refine pp_put (ci := 12) (v := .int (nI 2)) (ty := .int) (C := RX12) (T := TX12) (N := 23) hx hb hts inX12_adder_12 tyX12 tyX12_ok nmX12 hown hK h_o hS (Or.inl (rng_in (by omega))) rfl 22 (by decide) (hts (.fieldLink RX12 73 "GateLedgerModel" "thrown" "I") (List.mem_of_getElem? (i := 2) (by decide +kernel))) (fun _ h9 => h9) rfl (by decide +kernel) rfl rfl (Nat.le_of_ble_eq_true rfl) dX12_adder_49 (fun H locs hP9 hk16 _ hS => ?_)
        have h_o : PP G (modO a cy (nI 2)) H := hP9
        have h_x : PP G (sixW G a Ns fs sc) H := kp hk16 h_x (dj_cons (ne_a ha (by omega)) (dj_cons (ne_a ha (by omega)) (dj_cons (ne_a ha (by omega)) (dj_cons (ne_a ha (by omega)) (dj_cons (ne_a ha (by omega)) (dj_cons (ne_a ha (by omega)) (dj_nil)))))))
        have h_y : PP G (twoW G a Ns) H := kp hk16 h_y (dj_cons (ne_a ha (by omega)) (dj_cons (ne_a ha (by omega)) (dj_nil)))
        have h_p : PP G (ar1 G a 109 6 p0) H := kp hk16 h_p (dj_cons (ne_a ha (by omega)) (dj_nil))
        have h_g : PP G (ar1 G a 110 6 g0) H := kp hk16 h_g (dj_cons (ne_a ha (by omega)) (dj_nil))
        have h_nextP : PP G (ar1 G a 111 6 np0) H := kp hk16 h_nextP (dj_cons (ne_a ha (by omega)) (dj_nil))
        have h_nextG : PP G (ar1 G a 112 6 ng0) H := kp hk16 h_nextG (dj_cons (ne_a ha (by omega)) (dj_nil))
        have h_row : PP G (ar1 G a 113 16 rw0) H := kp hk16 h_row (dj_cons (ne_a ha (by omega)) (dj_nil))
        refine lv_aload_n hx hb dX12_adder_52 rfl (lv_at hl 0 rfl) ?_
        refine va_get (D := G.1) (ci := 12) (v := .int (nI 2)) (C := RX12) (T := TX12) (N := 23) hx hb hts inX12_adder_12 hown hK h_o 0 rfl rfl 22 (by decide) (hts (.fieldLink RX12 73 "GateLedgerModel" "thrown" "I") (List.mem_of_getElem? (i := 2) (by decide +kernel))) (fun _ h9 => h9) rfl dX12_adder_53 ?_
        refine lv_if_le (tgt := 61) hx hb dX12_adder_56 (by decide) (fun c56 => ?_) (fun c56 => ?_)
        · exact absurd c56 (by decide)
        · skip
          refine lv_iconst (v := nI 0) hx hb dX12_adder_59 (by decide) ?_
          have e1 : cAd Ns p9 m9 w9 = 2 := (if_pos c5).trans ((if_pos c18).trans (if_neg c28))
          exact en_wi (fs, sc, cy, p0, g0, np0, ng0, rw0) hx hb hr hlocks hS ⟨fun q => absurd (e1.symm.trans q) (by decide), by rw [stN_n e1 (by decide)]; exact hFS⟩ (by rw [stN_n e1 (by decide), e1]; exact ⟨h_o, h_x, h_y, h_p, h_g, h_nextP, h_nextG, h_row⟩) dX12_adder_60
  · skip
    have c5 := bI_0.mp c5
    refine lv_iconst (v := nI 1) hx hb dX12_adder_8 (by decide) ?_
    refine lv_goto (tgt := 49) hx hb dX12_adder_9 (by decide) ?_
    refine pp_put (ci := 12) (v := .int (nI 1)) (ty := .int) (C := RX12) (T := TX12) (N := 23) hx hb hts inX12_adder_12 tyX12 tyX12_ok nmX12 hown hK h_o hS (Or.inl (rng_in (by omega))) rfl 22 (by decide) (hts (.fieldLink RX12 73 "GateLedgerModel" "thrown" "I") (List.mem_of_getElem? (i := 2) (by decide +kernel))) (fun _ h9 => h9) rfl (by decide +kernel) rfl rfl (Nat.le_of_ble_eq_true rfl) dX12_adder_49 (fun H locs hP9 hk17 _ hS => ?_)
    have h_o : PP G (modO a cy (nI 1)) H := hP9
    have h_x : PP G (sixW G a Ns fs sc) H := kp hk17 h_x (dj_cons (ne_a ha (by omega)) (dj_cons (ne_a ha (by omega)) (dj_cons (ne_a ha (by omega)) (dj_cons (ne_a ha (by omega)) (dj_cons (ne_a ha (by omega)) (dj_cons (ne_a ha (by omega)) (dj_nil)))))))
    have h_y : PP G (twoW G a Ns) H := kp hk17 h_y (dj_cons (ne_a ha (by omega)) (dj_cons (ne_a ha (by omega)) (dj_nil)))
    have h_p : PP G (ar1 G a 109 6 p0) H := kp hk17 h_p (dj_cons (ne_a ha (by omega)) (dj_nil))
    have h_g : PP G (ar1 G a 110 6 g0) H := kp hk17 h_g (dj_cons (ne_a ha (by omega)) (dj_nil))
    have h_nextP : PP G (ar1 G a 111 6 np0) H := kp hk17 h_nextP (dj_cons (ne_a ha (by omega)) (dj_nil))
    have h_nextG : PP G (ar1 G a 112 6 ng0) H := kp hk17 h_nextG (dj_cons (ne_a ha (by omega)) (dj_nil))
    have h_row : PP G (ar1 G a 113 16 rw0) H := kp hk17 h_row (dj_cons (ne_a ha (by omega)) (dj_nil))
    refine lv_aload_n hx hb dX12_adder_52 rfl (lv_at hl 0 rfl) ?_
    refine va_get (D := G.1) (ci := 12) (v := .int (nI 1)) (C := RX12) (T := TX12) (N := 23) hx hb hts inX12_adder_12 hown hK h_o 0 rfl rfl 22 (by decide) (hts (.fieldLink RX12 73 "GateLedgerModel" "thrown" "I") (List.mem_of_getElem? (i := 2) (by decide +kernel))) (fun _ h9 => h9) rfl dX12_adder_53 ?_
    refine lv_if_le (tgt := 61) hx hb dX12_adder_56 (by decide) (fun c56 => ?_) (fun c56 => ?_)
    · exact absurd c56 (by decide)
    · skip
      refine lv_iconst (v := nI 0) hx hb dX12_adder_59 (by decide) ?_
      have e1 : cAd Ns p9 m9 w9 = 1 := if_neg c5
      exact en_wi (fs, sc, cy, p0, g0, np0, ng0, rw0) hx hb hr hlocks hS ⟨fun q => absurd (e1.symm.trans q) (by decide), by rw [stN_n e1 (by decide)]; exact hFS⟩ (by rw [stN_n e1 (by decide), e1]; exact ⟨h_o, h_x, h_y, h_p, h_g, h_nextP, h_nextG, h_row⟩) dX12_adder_60
set_option maxRecDepth 20000 in
theorem inX12_multiplier_12 : ∀ w ∈ u_ws RX12 TX12 23, w ∈ wsX12_multiplier := by decide +kernel
set_option maxHeartbeats 4000000 in
set_option maxRecDepth 100000 in
/-- multiplier -/
theorem c_X12_multiplier (l : Launch) (G : GG) (a : Nat → Nat) (ha : Inj a) (cy th : Int32) (Ns : Nat → NT) (fs sc : FN) (rw0 pr0 : FN) (p9 w9 : Int32) (hW : ∀ z, z < 4 → WF (Ns z)) (hFS : FS Ns fs sc)  : Met l yX12_multiplier wsX12_multiplier ({ frames := 2, cells := 0, slots := 0, locals := 53 } : Room) (PcB G [.ref (a 93), .int p9, .int w9] (fun H => PP G (modO a cy th) H ∧ PP G (sixW G a Ns fs sc) H ∧ PP G (twoW G a Ns) H ∧ PP G (ar1 G a 113 16 rw0) H ∧ PP G (ar1 G a 114 16 pr0) H)) (QI (fun (r : Int32) (u : FN × FN × Int32 × FN × FN) => (cMu Ns p9 w9 = 0 → r = nI (nG (mulN (Ns (ix p9)) (ix w9)))) ∧ FS (stN (cMu Ns p9 w9) (upN Ns (ix p9) (mulN (Ns (ix p9)) (ix w9))) Ns) u.1 u.2.1) (fun u H => PP G (modO a u.2.2.1 (nI (cMu Ns p9 w9))) H ∧ PP G (sixW G a (stN (cMu Ns p9 w9) (upN Ns (ix p9) (mulN (Ns (ix p9)) (ix w9))) Ns) u.1 u.2.1) H ∧ PP G (twoW G a (stN (cMu Ns p9 w9) (upN Ns (ix p9) (mulN (Ns (ix p9)) (ix w9))) Ns)) H ∧ PP G (ar1 G a 113 16 u.2.2.2.1) H ∧ PP G (ar1 G a 114 16 u.2.2.2.2) H) (orA (rng a 93 9) (rng a 113 2))) 0 0 (orA (rng a 93 9) (rng a 113 2)) := by
  refine Met.ofW (cc := cX12_multiplier) (maxL := 7) (ret := (some .int)) (by decide) rfl ?_
  intro p e s m args below meth c s₁ B hml hv
  obtain ⟨rfl, hB, hK, hNW⟩ := hv
  have hx := B.exec
  have hb := B.bytes
  have hr := B.returns
  have hts := atoms_spec (ws := wsX12_multiplier) B.pre
  have hown : s.vm.findClass RX12 = some m.cls := findClass_of_methodNamed B.named
  have hlocks := B.notSynchronized
  have FX : CallFix p m c cX12_multiplier 7 s ([.ref (a 93), .int p9, .int w9] : List Value).toArray wsX12_multiplier RX12 := ⟨hx, hb, hml, hown, hts⟩
  have hl := lv_entry ([.ref (a 93), .int p9, .int w9]) (n := 7) (Nat.le_of_ble_eq_true rfl)
  rw [lg_entry_eq]
  generalize (lg_sl ([.ref (a 93), .int p9, .int w9]) ++ List.replicate (7 - (lg_sl ([.ref (a 93), .int p9, .int w9])).length) Slot.unset).toArray = ls at hl ⊢
  have hl : lv_has ls 7 [(0, .ref (a 93)), (1, .int p9), (2, .int w9)] := hl
  obtain ⟨h_o, h_x, h_y, h_row, h_products⟩ := hB
  have hS : va_S (orA (rng a 93 9) (rng a 113 2)) s.heap s.heap [] := va_S.rf
  refine lv_aload_n hx hb dX12_multiplier_0 rfl (lv_at hl 0 rfl) ?_
  refine lv_iload_n hx hb dX12_multiplier_1 rfl (lv_at hl 1 rfl) ?_
  refine ro_i (va_runS (As := [.int p9]) (rest := [.ref (a 93)]) FX (c_X12_isNet l G p9) (va_cwS 1 hts gX12_multiplier_X12_isNet rfl rfl rfl (by decide +kernel) ⟨Nat.le_of_ble_eq_true rfl, Nat.le_of_ble_eq_true rfl⟩) (preS hK hNW trivial) rfl rfl hl.1 rfl (lv_room (Nat.le_of_ble_eq_true rfl)) dX12_multiplier_2 ⟨Nat.le_of_ble_eq_true rfl, Nat.le_of_ble_eq_true rfl⟩) ?_
  refine lv_if_ne (tgt := 12) hx hb dX12_multiplier_5 (by decide) (fun c5 => ?_) (fun c5 => ?_)
  · skip
    have c5 := bI_1 c5
    obtain ⟨z, hz, ez, ep⟩ := inBd_z c5 (by omega)
    rw [ep] at hl
    have hl : lv_has ls 7 [(0, .ref (a 93)), (1, .int (nI z)), (2, .int w9)] := hl
    have hN := hW _ hz
    have hg9 := hN.g
    have ho9 := hN.o
    have hi9 := hN.2.1
    refine lv_iload_n hx hb dX12_multiplier_12 rfl (lv_at hl 2 rfl) ?_
    refine lv_iconst (v := nI 1) hx hb dX12_multiplier_13 (by decide) ?_
    refine lv_iconst (v := nI 4) hx hb dX12_multiplier_14 (by decide) ?_
    refine ro_i (va_runS (As := [.int w9, .int (nI 1), .int (nI 4)]) (rest := [.ref (a 93)]) FX (c_X12_isIn l G w9 (nI 1) (nI 4)) (va_cwS 3 hts gX12_multiplier_X12_isIn rfl rfl rfl (by decide +kernel) ⟨Nat.le_of_ble_eq_true rfl, Nat.le_of_ble_eq_true rfl⟩) (preS hK hNW trivial) rfl rfl hl.1 rfl (lv_room (Nat.le_of_ble_eq_true rfl)) dX12_multiplier_15 ⟨Nat.le_of_ble_eq_true rfl, Nat.le_of_ble_eq_true rfl⟩) ?_
    refine lv_if_ne (tgt := 25) hx hb dX12_multiplier_18 (by decide) (fun c18 => ?_) (fun c18 => ?_)
    · skip
      have c18 := bI_1 c18
      obtain ⟨w, ew, epw, hw1, hw2⟩ := rg_z c18 (by omega) (by omega)
      rw [epw] at hl
      have hl : lv_has ls 7 [(0, .ref (a 93)), (1, .int (nI z)), (2, .int (nI w))] := hl
      refine lv_aload_n hx hb dX12_multiplier_25 rfl (lv_at hl 0 rfl) ?_
      refine va_get (D := G.1) (ci := 12) (v := .ref (a 98)) (C := RX12) (T := TX12) (N := 23) hx hb hts inX12_multiplier_12 hown hK h_o 0 rfl rfl 4 (by decide) (hts (.fieldLink RX12 22 "GateLedgerModel" "many" "[I") (List.mem_of_getElem? (i := 1) (by decide +kernel))) (fun _ h9 => h9) rfl dX12_multiplier_26 ?_
      refine lv_iload_n hx hb dX12_multiplier_29 rfl (lv_at hl 1 rfl) ?_
      refine pp_iald hx hb hK h_x 4 rfl (vp_in_nI (by omega) (by omega)) dX12_multiplier_30 ?_
      refine lv_as (congrArg (MF Ns) (nI_clamp (by omega))) ?_
      refine lv_as (y := nI (nG (Ns z))) rfl ?_
      refine lv_if_le (tgt := 38) hx hb dX12_multiplier_31 (by decide) (fun c31 => ?_) (fun c31 => ?_)
      · skip
        have c31 := cv_le (by omega) (by omega) (show nI (nG (Ns z)) ≤ nI 0 from c31)
        have iz := WF_i0 hN (by omega)
        have oz := WF_o0 hN (by omega)
        refine lv_iconst (v := nI 0) hx hb dX12_multiplier_38 (by decide) ?_
        refine pp_put (ci := 12) (v := .int (nI 0)) (ty := .int) (C := RX12) (T := TX12) (N := 23) hx hb hts inX12_multiplier_12 tyX12 tyX12_ok nmX12 hown hK h_o hS (Or.inl (rng_in (by omega))) rfl 22 (by decide) (hts (.fieldLink RX12 73 "GateLedgerModel" "thrown" "I") (List.mem_of_getElem? (i := 2) (by decide +kernel))) (fun _ h9 => h9) rfl (by decide +kernel) rfl rfl (Nat.le_of_ble_eq_true rfl) dX12_multiplier_39 (fun H locs hP9 hk1 _ hS => ?_)
        have h_o : PP G (modO a cy (nI 0)) H := hP9
        have h_x : PP G (sixW G a Ns fs sc) H := kp hk1 h_x (dj_cons (ne_a ha (by omega)) (dj_cons (ne_a ha (by omega)) (dj_cons (ne_a ha (by omega)) (dj_cons (ne_a ha (by omega)) (dj_cons (ne_a ha (by omega)) (dj_cons (ne_a ha (by omega)) (dj_nil)))))))
        have h_y : PP G (twoW G a Ns) H := kp hk1 h_y (dj_cons (ne_a ha (by omega)) (dj_cons (ne_a ha (by omega)) (dj_nil)))
        have h_row : PP G (ar1 G a 113 16 rw0) H := kp hk1 h_row (dj_cons (ne_a ha (by omega)) (dj_nil))
        have h_products : PP G (ar1 G a 114 16 pr0) H := kp hk1 h_products (dj_cons (ne_a ha (by omega)) (dj_nil))
        refine lv_aload_n hx hb dX12_multiplier_42 rfl (lv_at hl 0 rfl) ?_
        refine va_get (D := G.1) (ci := 12) (v := .int (nI 0)) (C := RX12) (T := TX12) (N := 23) hx hb hts inX12_multiplier_12 hown hK h_o 0 rfl rfl 22 (by decide) (hts (.fieldLink RX12 73 "GateLedgerModel" "thrown" "I") (List.mem_of_getElem? (i := 2) (by decide +kernel))) (fun _ h9 => h9) rfl dX12_multiplier_43 ?_
        refine lv_if_le (tgt := 51) hx hb dX12_multiplier_46 (by decide) (fun c46 => ?_) (fun c46 => ?_)
        · skip
          have h_x : PP G (sixW G a (upN Ns z (Ns z)) fs sc) H := by rw [upN_self]; exact h_x
          have hFS : FS (upN Ns z (Ns z)) fs sc := by rw [upN_self]; exact hFS
          have h_y : PP G (twoW G a (upN Ns z (Ns z))) H := by rw [upN_self]; exact h_y
          refine lv_aload_n hx hb dX12_multiplier_51 rfl (lv_at hl 0 rfl) ?_
          refine lv_iload_n hx hb dX12_multiplier_52 rfl (lv_at hl 1 rfl) ?_
          refine lv_iload_n hx hb dX12_multiplier_53 rfl (lv_at hl 2 rfl) ?_
          refine wr_v (va_runV (As := [.int (nI z), .int (nI w)]) (rest := []) FX (c_X12_addsInputs l G a ha cy (nI 0) Ns z (Ns z) fs sc w hz (by omega) hFS) (cwV 2 hts gX12_multiplier_X12_addsInputs rfl rfl rfl (by decide +kernel) ⟨Nat.le_of_ble_eq_true rfl, Nat.le_of_ble_eq_true rfl⟩) (preV hK hNW (⟨h_o, h_x⟩) (va_recv hK h_o (ci := 12) (q0 := 0) rfl rfl)) rfl rfl hl.1 rfl (lv_room (Nat.le_of_ble_eq_true rfl)) dX12_multiplier_54 ⟨Nat.le_of_ble_eq_true rfl, Nat.le_of_ble_eq_true rfl⟩) hS (fun q h => Or.inl ((rng_sub (by omega)) q h)) (fun v2 H locs hF3 hP9 hk4 hS => ?_)
          have h_x : PP G (sixW G a (upN Ns z (inN (Ns z) (2 * w))) v2.1 v2.2) H := hP9
          have h_o : PP G (modO a cy (nI 0)) H := kp hk4 h_o (dj_cons (rng_no ha (by omega)) (dj_nil))
          have h_y : PP G (twoW G a (upN Ns z (Ns z))) H := kp hk4 h_y (dj_cons (rng_no ha (by omega)) (dj_cons (rng_no ha (by omega)) (dj_nil)))
          have h_row : PP G (ar1 G a 113 16 rw0) H := kp hk4 h_row (dj_cons (rng_no ha (by omega)) (dj_nil))
          have h_products : PP G (ar1 G a 114 16 pr0) H := kp hk4 h_products (dj_cons (rng_no ha (by omega)) (dj_nil))
          have gM := inN_g (Ns z) (2 * w)
          have oM := inN_o (Ns z) (2 * w)
          have h_y : PP G (twoW G a (upN Ns z (inN (Ns z) (2 * w)))) H := two_same h_y oM (inN_u _)
          have HF0 := hF3
          refine lv_iconst (v := nI 0) hx hb dX12_multiplier_57 (by decide) ?_
          refine lv_istore_n (lv' := [(3, .int (nI 0)), (0, .ref (a 93)), (1, .int (nI z)), (2, .int (nI w))]) hx hb dX12_multiplier_58 rfl hl (by decide) rfl (fun ls hl => ?_)
          refine lv_loop4 59 (fun (n3 : Nat) (f : FN) (g : FN) (f5 : FN) => w - n3) (fun (n3 : Nat) (f : FN) (g : FN) (f5 : FN) (H : Heap) (locs : List Loc) (ls : Array Slot) => (PP G (modO a cy (nI 0)) H) ∧ (PP G (sixW G a (upN Ns z (prT (inN (Ns z) (2 * w)) w (n3 * w))) f g) H) ∧ (PP G (twoW G a (upN Ns z (inN (Ns z) (2 * w)))) H) ∧ (PP G (ar1 G a 113 16 rw0) H) ∧ (PP G (ar1 G a 114 16 f5) H) ∧ (va_S (orA (rng a 93 9) (rng a 113 2)) s.heap H locs) ∧ (lv_has ls 7 [(0, .ref (a 93)), (1, .int (nI z)), (2, .int (nI w)), (3, .int (nI n3))]) ∧ (n3 ≤ w) ∧ (FS (upN Ns z (prT (inN (Ns z) (2 * w)) w (n3 * w))) f g) ∧ (∀ i j, j < w → i < n3 → f5 (4 * i + j) = nI (nG (inN (Ns z) (2 * w)) + (i * w + j)))) (fun _ _ _ _ => []) (fun n3 f g f5 H locs ls hI ih => ?_) 0 v2.1 v2.2 pr0 ⟨h_o, (by rw [Nat.zero_mul]; exact h_x), h_y, h_row, h_products, hS, lv_sub hl [1, 2, 3, 0] rfl, by omega, by rw [Nat.zero_mul]; exact HF0, fun i j hj hi => absurd hi (Nat.not_lt_zero i)⟩ rfl
          obtain ⟨h_o, h_x, h_y, h_row, h_products, hS, hl, hn3, hF, hf5⟩ := hI
          have ih6 := @ih
          clear ih
          refine lv_iload_n hx hb dX12_multiplier_59 rfl (lv_at hl 3 rfl) ?_
          refine lv_iload_n hx hb dX12_multiplier_60 rfl (lv_at hl 2 rfl) ?_
          refine lv_icmp_ge (tgt := 107) hx hb dX12_multiplier_61 (by decide) (fun c61 => ?_) (fun c61 => ?_)
          · skip
            have c61 := cv_le (by omega) (by omega) c61
            have en : n3 = w := by omega
            have hw16 : w * w ≤ 4 * 4 := Nat.mul_le_mul hw2 hw2
            have hF : FS (upN Ns z (prT (inN (Ns z) (2 * w)) w (w * w))) f g := by rw [en] at hF; exact hF
            have h_x : PP G (sixW G a (upN Ns z (prT (inN (Ns z) (2 * w)) w (w * w))) f g) H := by rw [en] at h_x; exact h_x
            have h_y : PP G (twoW G a (upN Ns z (prT (inN (Ns z) (2 * w)) w (w * w)))) H := two_same h_y (prT_g (inN (Ns z) (2 * w)) w (w * w)).2 (prT_u _)
            refine lv_iload_n hx hb dX12_multiplier_107 rfl (lv_at hl 2 rfl) ?_
            refine lv_istore_n (lv' := [(3, .int (nI w)), (0, .ref (a 93)), (1, .int (nI z)), (2, .int (nI w))]) hx hb dX12_multiplier_108 rfl hl (by decide) rfl (fun ls hl => ?_)
            refine lv_iconst (v := nI 0) hx hb dX12_multiplier_109 (by decide) ?_
            refine lv_istore (lv' := [(4, .int (nI 0)), (3, .int (nI w)), (0, .ref (a 93)), (1, .int (nI z)), (2, .int (nI w))]) hx hb dX12_multiplier_110 hl (by decide) rfl (fun ls hl => ?_)
            refine lv_loop2 112 (fun (q : Nat) (g5 : FN) => w - q) (fun (q : Nat) (g5 : FN) (H : Heap) (locs : List Loc) (ls : Array Slot) => (PP G (modO a cy (nI 0)) H) ∧ (PP G (sixW G a (upN Ns z (prT (inN (Ns z) (2 * w)) w (w * w))) f g) H) ∧ (PP G (twoW G a (upN Ns z (prT (inN (Ns z) (2 * w)) w (w * w)))) H) ∧ (PP G (ar1 G a 113 16 g5) H) ∧ (PP G (ar1 G a 114 16 f5) H) ∧ (va_S (orA (rng a 93 9) (rng a 113 2)) s.heap H locs) ∧ (lv_has ls 7 [(0, .ref (a 93)), (1, .int (nI z)), (2, .int (nI w)), (3, .int (nI w)), (4, .int (nI q))]) ∧ (q ≤ w) ∧ (∀ r, r < q → g5 r = nI (nG (inN (Ns z) (2 * w)) + r))) (fun _ _ => []) (fun q g5 H locs ls hI ih => ?_) 0 rw0 ⟨h_o, h_x, h_y, h_row, h_products, hS, lv_sub hl [2, 3, 4, 1, 0] rfl, by omega, fun r h => absurd h (Nat.not_lt_zero r)⟩ rfl
            obtain ⟨h_o, h_x, h_y, h_row, h_products, hS, hl, hq, hg5⟩ := hI
            have ih7 := @ih
            clear ih
            refine lv_iload hx hb dX12_multiplier_112 (lv_at hl 4 rfl) ?_
            refine lv_iload_n hx hb dX12_multiplier_114 rfl (lv_at hl 2 rfl) ?_
            refine lv_icmp_ge (tgt := 138) hx hb dX12_multiplier_115 (by decide) (fun c115 => ?_) (fun c115 => ?_)
            · skip
              have c115 := cv_le (by omega) (by omega) c115
              refine lv_iconst (v := nI 1) hx hb dX12_multiplier_138 (by decide) ?_
              refine lv_istore (lv' := [(4, .int (nI 1)), (0, .ref (a 93)), (1, .int (nI z)), (2, .int (nI w)), (3, .int (nI w))]) hx hb dX12_multiplier_139 hl (by decide) rfl (fun ls hl => ?_)
              refine lv_loop5 141 (fun (y : Nat) (f : FN) (g : FN) (g6 : FN) (c9 : Int32) => w - y) (fun (y : Nat) (f : FN) (g : FN) (g6 : FN) (c9 : Int32) (H : Heap) (locs : List Loc) (ls : Array Slot) => (PP G (modO a c9 (nI 0)) H) ∧ (PP G (sixW G a (upN Ns z ((muT w (nG (inN (Ns z) (2 * w))) (prT (inN (Ns z) (2 * w)) w (w * w)) y).1)) f g) H) ∧ (PP G (twoW G a (upN Ns z ((muT w (nG (inN (Ns z) (2 * w))) (prT (inN (Ns z) (2 * w)) w (w * w)) y).1))) H) ∧ (PP G (ar1 G a 113 16 g6) H) ∧ (PP G (ar1 G a 114 16 f5) H) ∧ (va_S (orA (rng a 93 9) (rng a 113 2)) s.heap H locs) ∧ (lv_has ls 7 [(0, .ref (a 93)), (1, .int (nI z)), (2, .int (nI w)), (3, .int (nI ((muT w (nG (inN (Ns z) (2 * w))) (prT (inN (Ns z) (2 * w)) w (w * w)) y).2.2))), (4, .int (nI (y + 1)))]) ∧ (y + 1 ≤ w) ∧ (FS (upN Ns z (muT w (nG (inN (Ns z) (2 * w))) (prT (inN (Ns z) (2 * w)) w (w * w)) y).1) f g) ∧ (∀ r, r < (muT w (nG (inN (Ns z) (2 * w))) (prT (inN (Ns z) (2 * w)) w (w * w)) y).2.2 → g6 r = nI ((muT w (nG (inN (Ns z) (2 * w))) (prT (inN (Ns z) (2 * w)) w (w * w)) y).2.1 r))) (fun _ _ _ _ _ => []) (fun y f g g6 c9 H locs ls hI ih => ?_) 0 f g g5 cy ⟨h_o, h_x, h_y, h_row, h_products, hS, lv_sub hl [1, 2, 3, 4, 0] rfl, by omega, hF, fun r h => hg5 r (show r < q from (show q = w by omega) ▸ h)⟩ rfl
              obtain ⟨h_o, h_x, h_y, h_row, h_products, hS, hl, hy, hF, hg6⟩ := hI
              have ih8 := @ih
              clear ih
              have hm := muT_g (w := w) (b := nG (inN (Ns z) (2 * w))) (M := (prT (inN (Ns z) (2 * w)) w (w * w))) y
              have hq5 : 5 * w * y ≤ 5 * w * 3 := Nat.mul_le_mul_left _ (by omega)
              have hgP := (prT_g (inN (Ns z) (2 * w)) w (w * w))
              refine lv_iload hx hb dX12_multiplier_141 (lv_at hl 4 rfl) ?_
              refine lv_iload_n hx hb dX12_multiplier_143 rfl (lv_at hl 2 rfl) ?_
              refine lv_icmp_ge (tgt := 308) hx hb dX12_multiplier_144 (by decide) (fun c144 => ?_) (fun c144 => ?_)
              · skip
                have c144 := cv_le (by omega) (by omega) c144
                have ey : y = w - 1 := by omega
                refine lv_iconst (v := nI 0) hx hb dX12_multiplier_308 (by decide) ?_
                refine lv_istore (lv' := [(4, .int (nI 0)), (0, .ref (a 93)), (1, .int (nI z)), (2, .int (nI w)), (3, .int (nI ((muT w (nG (inN (Ns z) (2 * w))) (prT (inN (Ns z) (2 * w)) w (w * w)) y).2.2)))]) hx hb dX12_multiplier_309 hl (by decide) rfl (fun ls hl => ?_)
                refine lv_loop1 311 (fun (v : Nat) => (muT w (nG (inN (Ns z) (2 * w))) (prT (inN (Ns z) (2 * w)) w (w * w)) y).2.2 - v) (fun (v : Nat) (H : Heap) (locs : List Loc) (ls : Array Slot) => (PP G (modO a c9 (nI 0)) H) ∧ (PP G (sixW G a (upN Ns z ((muT w (nG (inN (Ns z) (2 * w))) (prT (inN (Ns z) (2 * w)) w (w * w)) y).1)) f g) H) ∧ (PP G (twoW G a (upN Ns z (oaT (muT w (nG (inN (Ns z) (2 * w))) (prT (inN (Ns z) (2 * w)) w (w * w)) y).1 (muT w (nG (inN (Ns z) (2 * w))) (prT (inN (Ns z) (2 * w)) w (w * w)) y).2.1 v))) H) ∧ (PP G (ar1 G a 113 16 g6) H) ∧ (PP G (ar1 G a 114 16 f5) H) ∧ (va_S (orA (rng a 93 9) (rng a 113 2)) s.heap H locs) ∧ (lv_has ls 7 [(0, .ref (a 93)), (1, .int (nI z)), (2, .int (nI w)), (3, .int (nI ((muT w (nG (inN (Ns z) (2 * w))) (prT (inN (Ns z) (2 * w)) w (w * w)) y).2.2))), (4, .int (nI v))]) ∧ (v ≤ (muT w (nG (inN (Ns z) (2 * w))) (prT (inN (Ns z) (2 * w)) w (w * w)) y).2.2)) (fun _ => []) (fun v H locs ls hI ih => ?_) 0 ⟨h_o, h_x, h_y, h_row, h_products, hS, lv_sub hl [1, 2, 3, 4, 0] rfl, by omega⟩ rfl
                obtain ⟨h_o, h_x, h_y, h_row, h_products, hS, hl, hv⟩ := hI
                have ih9 := @ih
                clear ih
                have hO := oaT_g (M := (muT w (nG (inN (Ns z) (2 * w))) (prT (inN (Ns z) (2 * w)) w (w * w)) y).1) (Lf := (muT w (nG (inN (Ns z) (2 * w))) (prT (inN (Ns z) (2 * w)) w (w * w)) y).2.1) v
                refine lv_iload hx hb dX12_multiplier_311 (lv_at hl 4 rfl) ?_
                refine lv_iload_n hx hb dX12_multiplier_313 rfl (lv_at hl 3 rfl) ?_
                refine lv_icmp_ge (tgt := 336) hx hb dX12_multiplier_314 (by decide) (fun c314 => ?_) (fun c314 => ?_)
                · skip
                  have c314 := cv_le (by omega) (by omega) c314
                  have ev : v = (muT w (nG (inN (Ns z) (2 * w))) (prT (inN (Ns z) (2 * w)) w (w * w)) y).2.2 := by omega
                  have e9 := oa_same (X := (muT w (nG (inN (Ns z) (2 * w))) (prT (inN (Ns z) (2 * w)) w (w * w)) y).1) (L := (muT w (nG (inN (Ns z) (2 * w))) (prT (inN (Ns z) (2 * w)) w (w * w)) y).2.1) v
                  have e8 : mulN (Ns z) w = (oaT (muT w (nG (inN (Ns z) (2 * w))) (prT (inN (Ns z) (2 * w)) w (w * w)) y).1 (muT w (nG (inN (Ns z) (2 * w))) (prT (inN (Ns z) (2 * w)) w (w * w)) y).2.1 v) := by unfold mulN; rw [← ey, ← ev]
                  have h_x : PP G (sixW G a (upN Ns z (mulN (Ns z) w)) f g) H := by rw [e8]; exact six_same h_x e9.1 e9.2.1 e9.2.2.1 e9.2.2.2.2.2
                  have h_y : PP G (twoW G a (upN Ns z (mulN (Ns z) w))) H := by rw [e8]; exact h_y
                  have hF : FS (upN Ns z (mulN (Ns z) w)) f g := by rw [e8]; exact FS_same hF e9.1 e9.2.2.1 e9.2.2.2.1 e9.2.2.2.2.1
                  refine lv_aload_n hx hb dX12_multiplier_336 rfl (lv_at hl 0 rfl) ?_
                  refine va_get (D := G.1) (ci := 12) (v := .ref (a 98)) (C := RX12) (T := TX12) (N := 23) hx hb hts inX12_multiplier_12 hown hK h_o 0 rfl rfl 4 (by decide) (hts (.fieldLink RX12 22 "GateLedgerModel" "many" "[I") (List.mem_of_getElem? (i := 1) (by decide +kernel))) (fun _ h9 => h9) rfl dX12_multiplier_337 ?_
                  refine lv_iload_n hx hb dX12_multiplier_340 rfl (lv_at hl 1 rfl) ?_
                  refine pp_iald hx hb hK h_x 4 rfl (vp_in_nI (by omega) (by omega)) dX12_multiplier_341 ?_
                  refine lv_as (congrArg (MF (upN Ns z (mulN (Ns z) w))) (nI_clamp (by omega))) ?_
                  refine lv_as (y := nI (nG (mulN (Ns z) w))) MF_U ?_
                  have e1 : cMu Ns p9 w9 = 0 := (if_pos c5).trans ((if_pos c18).trans (if_pos (by rw [ez]; omega)))
                  exact en_wi (f, g, c9, g6, f5) hx hb hr hlocks hS ⟨fun _ => by rw [ez, ew], by rw [stN_0 e1, ez, ew]; exact hF⟩ (by rw [stN_0 e1, e1, ez, ew]; exact ⟨h_o, h_x, h_y, h_row, h_products⟩) dX12_multiplier_342
                · skip
                  have c314 := cv_nle (by omega) (by omega) c314
                  refine lv_aload_n hx hb dX12_multiplier_317 rfl (lv_at hl 0 rfl) ?_
                  refine lv_iload_n hx hb dX12_multiplier_318 rfl (lv_at hl 1 rfl) ?_
                  refine lv_aload_n hx hb dX12_multiplier_319 rfl (lv_at hl 0 rfl) ?_
                  refine va_get (D := G.1) (ci := 12) (v := .ref (a 113)) (C := RX12) (T := TX12) (N := 23) hx hb hts inX12_multiplier_12 hown hK h_o 0 rfl rfl 19 (by decide) (hts (.fieldLink RX12 67 "GateLedgerModel" "row" "[I") (List.mem_of_getElem? (i := 4) (by decide +kernel))) (fun _ h9 => h9) rfl dX12_multiplier_320 ?_
                  refine lv_iload hx hb dX12_multiplier_323 (lv_at hl 4 rfl) ?_
                  refine pp_iald hx hb hK h_row 0 rfl (vp_in_nI (by omega) (by omega)) dX12_multiplier_325 ?_
                  refine lv_as (congrArg g6 (nI_clamp (by omega))) ?_
                  refine lv_as (y := nI ((muT w (nG (inN (Ns z) (2 * w))) (prT (inN (Ns z) (2 * w)) w (w * w)) y).2.1 v)) (hg6 _ (by omega)) ?_
                  refine wr_i (va_runV (As := [.int (nI z), .int (nI ((muT w (nG (inN (Ns z) (2 * w))) (prT (inN (Ns z) (2 * w)) w (w * w)) y).2.1 v))]) (rest := []) FX (c_X12_addsOut l G a ha c9 (nI 0) Ns z (oaT (muT w (nG (inN (Ns z) (2 * w))) (prT (inN (Ns z) (2 * w)) w (w * w)) y).1 (muT w (nG (inN (Ns z) (2 * w))) (prT (inN (Ns z) (2 * w)) w (w * w)) y).2.1 v) ((muT w (nG (inN (Ns z) (2 * w))) (prT (inN (Ns z) (2 * w)) w (w * w)) y).2.1 v) hz (by omega)) (cwV 2 hts gX12_multiplier_X12_addsOut rfl rfl rfl (by decide +kernel) ⟨Nat.le_of_ble_eq_true rfl, Nat.le_of_ble_eq_true rfl⟩) (preV hK hNW (⟨h_o, h_y⟩) (va_recv hK h_o (ci := 12) (q0 := 0) rfl rfl)) rfl rfl hl.1 rfl (lv_room (Nat.le_of_ble_eq_true rfl)) dX12_multiplier_326 ⟨Nat.le_of_ble_eq_true rfl, Nat.le_of_ble_eq_true rfl⟩) hS (fun q h => Or.inl ((rng_sub (by omega)) q h)) (fun rr _ H locs er10 hP9 hk11 hS => ?_)
                  have h_y : PP G (twoW G a (upN Ns z (addO (oaT (muT w (nG (inN (Ns z) (2 * w))) (prT (inN (Ns z) (2 * w)) w (w * w)) y).1 (muT w (nG (inN (Ns z) (2 * w))) (prT (inN (Ns z) (2 * w)) w (w * w)) y).2.1 v) ((muT w (nG (inN (Ns z) (2 * w))) (prT (inN (Ns z) (2 * w)) w (w * w)) y).2.1 v)))) H := hP9
                  have h_o : PP G (modO a c9 (nI 0)) H := kp hk11 h_o (dj_cons (rng_no ha (by omega)) (dj_nil))
                  have h_x : PP G (sixW G a (upN Ns z ((muT w (nG (inN (Ns z) (2 * w))) (prT (inN (Ns z) (2 * w)) w (w * w)) y).1)) f g) H := kp hk11 h_x (dj_cons (rng_no ha (by omega)) (dj_cons (rng_no ha (by omega)) (dj_cons (rng_no ha (by omega)) (dj_cons (rng_no ha (by omega)) (dj_cons (rng_no ha (by omega)) (dj_cons (rng_no ha (by omega)) (dj_nil)))))))
                  have h_row : PP G (ar1 G a 113 16 g6) H := kp hk11 h_row (dj_cons (rng_no ha (by omega)) (dj_nil))
                  have h_products : PP G (ar1 G a 114 16 f5) H := kp hk11 h_products (dj_cons (rng_no ha (by omega)) (dj_nil))
                  refine lv_pop hx hb dX12_multiplier_329 rfl ?_
                  refine lv_iinc (v := nI (v + 1)) (lv' := [(4, .int (nI (v + 1))), (0, .ref (a 93)), (1, .int (nI z)), (2, .int (nI w)), (3, .int (nI ((muT w (nG (inN (Ns z) (2 * w))) (prT (inN (Ns z) (2 * w)) w (w * w)) y).2.2)))]) hx hb dX12_multiplier_330 hl (k := 4) rfl (by first | exact nI_add _ 1 | decide) (by decide) rfl (fun ls hl => ?_)
                  refine lv_goto (tgt := 311) hx hb dX12_multiplier_333 (by decide) ?_
                  exact ih9 (v + 1) _ _ _ ⟨h_o, h_x, h_y, h_row, h_products, hS, lv_sub hl [1, 2, 3, 4, 0] rfl, by omega⟩ (by show (muT w (nG (inN (Ns z) (2 * w))) (prT (inN (Ns z) (2 * w)) w (w * w)) y).2.2 - (v + 1) < (muT w (nG (inN (Ns z) (2 * w))) (prT (inN (Ns z) (2 * w)) w (w * w)) y).2.2 - v; omega)
              · skip
                have c144 := cv_nle (by omega) (by omega) c144
                refine lv_aload_n hx hb dX12_multiplier_147 rfl (lv_at hl 0 rfl) ?_
                refine lv_iload_n hx hb dX12_multiplier_148 rfl (lv_at hl 1 rfl) ?_
                refine lv_aload_n hx hb dX12_multiplier_149 rfl (lv_at hl 0 rfl) ?_
                refine va_get (D := G.1) (ci := 12) (v := .ref (a 113)) (C := RX12) (T := TX12) (N := 23) hx hb hts inX12_multiplier_12 hown hK h_o 0 rfl rfl 19 (by decide) (hts (.fieldLink RX12 67 "GateLedgerModel" "row" "[I") (List.mem_of_getElem? (i := 4) (by decide +kernel))) (fun _ h9 => h9) rfl dX12_multiplier_150 ?_
                refine lv_iconst (v := nI 0) hx hb dX12_multiplier_153 (by decide) ?_
                refine pp_iald hx hb hK h_row 0 rfl (vp_in_nI (by omega) (by omega)) dX12_multiplier_154 ?_
                refine lv_as (congrArg g6 (nI_clamp (by omega))) ?_
                refine lv_as (y := nI ((muT w (nG (inN (Ns z) (2 * w))) (prT (inN (Ns z) (2 * w)) w (w * w)) y).2.1 0)) (hg6 _ (by omega)) ?_
                refine wr_i (va_runV (As := [.int (nI z), .int (nI ((muT w (nG (inN (Ns z) (2 * w))) (prT (inN (Ns z) (2 * w)) w (w * w)) y).2.1 0))]) (rest := []) FX (c_X12_addsOut l G a ha c9 (nI 0) Ns z ((muT w (nG (inN (Ns z) (2 * w))) (prT (inN (Ns z) (2 * w)) w (w * w)) y).1) ((muT w (nG (inN (Ns z) (2 * w))) (prT (inN (Ns z) (2 * w)) w (w * w)) y).2.1 0) hz (by omega)) (cwV 2 hts gX12_multiplier_X12_addsOut rfl rfl rfl (by decide +kernel) ⟨Nat.le_of_ble_eq_true rfl, Nat.le_of_ble_eq_true rfl⟩) (preV hK hNW (⟨h_o, h_y⟩) (va_recv hK h_o (ci := 12) (q0 := 0) rfl rfl)) rfl rfl hl.1 rfl (lv_room (Nat.le_of_ble_eq_true rfl)) dX12_multiplier_155 ⟨Nat.le_of_ble_eq_true rfl, Nat.le_of_ble_eq_true rfl⟩) hS (fun q h => Or.inl ((rng_sub (by omega)) q h)) (fun rr _ H locs er13 hP9 hk14 hS => ?_)
                have h_y : PP G (twoW G a (upN Ns z (addO ((muT w (nG (inN (Ns z) (2 * w))) (prT (inN (Ns z) (2 * w)) w (w * w)) y).1) ((muT w (nG (inN (Ns z) (2 * w))) (prT (inN (Ns z) (2 * w)) w (w * w)) y).2.1 0)))) H := hP9
                have h_o : PP G (modO a c9 (nI 0)) H := kp hk14 h_o (dj_cons (rng_no ha (by omega)) (dj_nil))
                have h_x : PP G (sixW G a (upN Ns z ((muT w (nG (inN (Ns z) (2 * w))) (prT (inN (Ns z) (2 * w)) w (w * w)) y).1)) f g) H := kp hk14 h_x (dj_cons (rng_no ha (by omega)) (dj_cons (rng_no ha (by omega)) (dj_cons (rng_no ha (by omega)) (dj_cons (rng_no ha (by omega)) (dj_cons (rng_no ha (by omega)) (dj_cons (rng_no ha (by omega)) (dj_nil)))))))
                have h_row : PP G (ar1 G a 113 16 g6) H := kp hk14 h_row (dj_cons (rng_no ha (by omega)) (dj_nil))
                have h_products : PP G (ar1 G a 114 16 f5) H := kp hk14 h_products (dj_cons (rng_no ha (by omega)) (dj_nil))
                refine lv_pop hx hb dX12_multiplier_158 rfl ?_
                refine lv_iinc (v := nI ((muT w (nG (inN (Ns z) (2 * w))) (prT (inN (Ns z) (2 * w)) w (w * w)) y).2.2 - 1)) (lv' := [(3, .int (nI ((muT w (nG (inN (Ns z) (2 * w))) (prT (inN (Ns z) (2 * w)) w (w * w)) y).2.2 - 1))), (0, .ref (a 93)), (1, .int (nI z)), (2, .int (nI w)), (4, .int (nI (y + 1)))]) hx hb dX12_multiplier_159 hl (k := 3) rfl (dn_m1 (by omega)) (by decide) rfl (fun ls hl => ?_)
                have h_x : PP G (sixW G a (upN Ns z (addO (muT w (nG (inN (Ns z) (2 * w))) (prT (inN (Ns z) (2 * w)) w (w * w)) y).1 ((muT w (nG (inN (Ns z) (2 * w))) (prT (inN (Ns z) (2 * w)) w (w * w)) y).2.1 0))) f g) H := six_same h_x rfl rfl rfl rfl
                have hF : FS (upN Ns z (addO (muT w (nG (inN (Ns z) (2 * w))) (prT (inN (Ns z) (2 * w)) w (w * w)) y).1 ((muT w (nG (inN (Ns z) (2 * w))) (prT (inN (Ns z) (2 * w)) w (w * w)) y).2.1 0))) f g := FS_same hF rfl rfl rfl rfl
                obtain ⟨n9, hn9⟩ : ∃ n : Nat, n = (muT w (nG (inN (Ns z) (2 * w))) (prT (inN (Ns z) (2 * w)) w (w * w)) y).2.2 - 1 := ⟨_, rfl⟩
                obtain ⟨S0, hS0⟩ : ∃ S : LnS, S = (addO (muT w (nG (inN (Ns z) (2 * w))) (prT (inN (Ns z) (2 * w)) w (w * w)) y).1 ((muT w (nG (inN (Ns z) (2 * w))) (prT (inN (Ns z) (2 * w)) w (w * w)) y).2.1 0), (fun r => (muT w (nG (inN (Ns z) (2 * w))) (prT (inN (Ns z) (2 * w)) w (w * w)) y).2.1 (r + 1)), 0) := ⟨_, rfl⟩
                obtain ⟨pm, hpm⟩ : ∃ f : Nat → Nat, f = (fun k => nG (inN (Ns z) (2 * w)) + (y + 1) * w + k) := ⟨_, rfl⟩
                have eS0 : S0.1 = addO (muT w (nG (inN (Ns z) (2 * w))) (prT (inN (Ns z) (2 * w)) w (w * w)) y).1 ((muT w (nG (inN (Ns z) (2 * w))) (prT (inN (Ns z) (2 * w)) w (w * w)) y).2.1 0) := by rw [hS0]
                rw [← eS0] at h_x h_y hF
                have gS0 : nG S0.1 = nG (muT w (nG (inN (Ns z) (2 * w))) (prT (inN (Ns z) (2 * w)) w (w * w)) y).1 := by rw [eS0]; rfl
                have oS0 : nO S0.1 = nO (muT w (nG (inN (Ns z) (2 * w))) (prT (inN (Ns z) (2 * w)) w (w * w)) y).1 + 1 := by rw [eS0]; rfl
                rw [← hn9] at hl
                have hl : lv_has ls 7 [(3, .int (nI n9)), (0, .ref (a 93)), (1, .int (nI z)), (2, .int (nI w)), (4, .int (nI (y + 1)))] := hl
                refine lv_iconst (v := nI 0) hx hb dX12_multiplier_162 (by decide) ?_
                refine lv_istore (lv' := [(5, .int (nI 0)), (3, .int (nI n9)), (0, .ref (a 93)), (1, .int (nI z)), (2, .int (nI w)), (4, .int (nI (y + 1)))]) hx hb dX12_multiplier_163 hl (by decide) rfl (fun ls hl => ?_)
                refine lv_loop1 165 (fun (q : Nat) => n9 - q) (fun (q : Nat) (H : Heap) (locs : List Loc) (ls : Array Slot) => (PP G (modO a c9 (nI 0)) H) ∧ (PP G (sixW G a (upN Ns z S0.1) f g) H) ∧ (PP G (twoW G a (upN Ns z S0.1)) H) ∧ (PP G (ar1 G a 113 16 (shf g6 (q + 1))) H) ∧ (PP G (ar1 G a 114 16 f5) H) ∧ (va_S (orA (rng a 93 9) (rng a 113 2)) s.heap H locs) ∧ (lv_has ls 7 [(0, .ref (a 93)), (1, .int (nI z)), (2, .int (nI w)), (3, .int (nI n9)), (4, .int (nI (y + 1))), (5, .int (nI q))]) ∧ (q ≤ n9)) (fun _ => []) (fun q H locs ls hI ih => ?_) 0 ⟨h_o, h_x, h_y, (by rw [shf_1]; exact h_row), h_products, hS, lv_sub hl [2, 3, 4, 1, 5, 0] rfl, by omega⟩ rfl
                obtain ⟨h_o, h_x, h_y, h_row, h_products, hS, hl, hq⟩ := hI
                have ih16 := @ih
                clear ih
                refine lv_iload hx hb dX12_multiplier_165 (lv_at hl 5 rfl) ?_
                refine lv_iload_n hx hb dX12_multiplier_167 rfl (lv_at hl 3 rfl) ?_
                refine lv_icmp_ge (tgt := 193) hx hb dX12_multiplier_168 (by decide) (fun c168 => ?_) (fun c168 => ?_)
                · skip
                  have c168 := cv_le (by omega) (by omega) c168
                  refine lv_iconst (v := nI 0) hx hb dX12_multiplier_193 (by decide) ?_
                  refine lv_istore (lv' := [(5, .int (nI 0)), (0, .ref (a 93)), (1, .int (nI z)), (2, .int (nI w)), (3, .int (nI n9)), (4, .int (nI (y + 1)))]) hx hb dX12_multiplier_194 hl (by decide) rfl (fun ls hl => ?_)
                  refine lv_loop5 196 (fun (k : Nat) (f : FN) (g : FN) (g7 : FN) (c8 : Int32) => w - k) (fun (k : Nat) (f : FN) (g : FN) (g7 : FN) (c8 : Int32) (H : Heap) (locs : List Loc) (ls : Array Slot) => (PP G (modO a c8 (nI 0)) H) ∧ (PP G (sixW G a (upN Ns z ((alT pm n9 S0 k).1)) f g) H) ∧ (PP G (twoW G a (upN Ns z S0.1)) H) ∧ (PP G (ar1 G a 113 16 g7) H) ∧ (PP G (ar1 G a 114 16 f5) H) ∧ (va_S (orA (rng a 93 9) (rng a 113 2)) s.heap H locs) ∧ (lv_has ls 7 [(0, .ref (a 93)), (1, .int (nI z)), (2, .int (nI w)), (3, .int (nI n9)), (4, .int (nI (y + 1))), (5, .int (nI k))]) ∧ (k ≤ w) ∧ (FS (upN Ns z (alT pm n9 S0 k).1) f g) ∧ (∀ r, r < n9 ∨ r < k → g7 r = nI ((alT pm n9 S0 k).2.1 r)) ∧ (k ≠ 0 → c8 = nI (alT pm n9 S0 k).2.2)) (fun _ _ _ _ _ => []) (fun k f g g7 c8 H locs ls hI ih => ?_) 0 f g (shf g6 (q + 1)) c9 ⟨h_o, h_x, h_y, h_row, h_products, hS, lv_sub hl [1, 2, 3, 4, 5, 0] rfl, by omega, hF, fun r h => by rw [show q = n9 by omega, shf_lt (by omega), hg6 _ (by omega), hS0]; rfl, fun h => absurd rfl h⟩ rfl
                  obtain ⟨h_o, h_x, h_y, h_row, h_products, hS, hl, hk, hF, hrw, hc⟩ := hI
                  have ih17 := @ih
                  clear ih
                  have hA := alT_g (pm := pm) (ln := n9) (s := S0) k
                  refine lv_iload hx hb dX12_multiplier_196 (lv_at hl 5 rfl) ?_
                  refine lv_iload_n hx hb dX12_multiplier_198 rfl (lv_at hl 2 rfl) ?_
                  refine lv_icmp_ge (tgt := 288) hx hb dX12_multiplier_199 (by decide) (fun c199 => ?_) (fun c199 => ?_)
                  · skip
                    have c199 := cv_le (by omega) (by omega) c199
                    have ek : k = w := by omega
                    have hA8 := (alT_g (pm := pm) (ln := n9) (s := S0) w).2
                    have hA7 := alT_u (pm := pm) (ln := n9) (s := S0) w
                    refine lv_aload_n hx hb dX12_multiplier_288 rfl (lv_at hl 0 rfl) ?_
                    refine va_get (D := G.1) (ci := 12) (v := .ref (a 113)) (C := RX12) (T := TX12) (N := 23) hx hb hts inX12_multiplier_12 hown hK h_o 0 rfl rfl 19 (by decide) (hts (.fieldLink RX12 67 "GateLedgerModel" "row" "[I") (List.mem_of_getElem? (i := 4) (by decide +kernel))) (fun _ h9 => h9) rfl dX12_multiplier_289 ?_
                    refine lv_iload_n hx hb dX12_multiplier_292 rfl (lv_at hl 2 rfl) ?_
                    refine lv_aload_n hx hb dX12_multiplier_293 rfl (lv_at hl 0 rfl) ?_
                    refine va_get (D := G.1) (ci := 12) (v := .int c8) (C := RX12) (T := TX12) (N := 23) hx hb hts inX12_multiplier_12 hown hK h_o 0 rfl rfl 21 (by decide) (hts (.fieldLink RX12 97 "GateLedgerModel" "carry" "I") (List.mem_of_getElem? (i := 5) (by decide +kernel))) (fun _ h9 => h9) rfl dX12_multiplier_294 ?_
                    refine lv_as (y := nI ((alT pm n9 S0 k).2.2)) (hc (by omega)) ?_
                    refine pp_iast hx hb hK h_row hS (Or.inr (rng_in (by omega))) (vp_in_nI (by omega) (by omega)) dX12_multiplier_297 (fun H locs hP9 hk18 _ hS => ?_)
                    rw [nI_clamp (by omega)] at hP9
                    have h_row : PP G (ar1 G a 113 16 (upd g7 w (nI ((alT pm n9 S0 k).2.2)))) H := hP9
                    have h_o : PP G (modO a c8 (nI 0)) H := kp hk18 h_o (dj_cons (ne_a ha (by omega)) (dj_nil))
                    have h_x : PP G (sixW G a (upN Ns z ((alT pm n9 S0 k).1)) f g) H := kp hk18 h_x (dj_cons (ne_a ha (by omega)) (dj_cons (ne_a ha (by omega)) (dj_cons (ne_a ha (by omega)) (dj_cons (ne_a ha (by omega)) (dj_cons (ne_a ha (by omega)) (dj_cons (ne_a ha (by omega)) (dj_nil)))))))
                    have h_y : PP G (twoW G a (upN Ns z S0.1)) H := kp hk18 h_y (dj_cons (ne_a ha (by omega)) (dj_cons (ne_a ha (by omega)) (dj_nil)))
                    have h_products : PP G (ar1 G a 114 16 f5) H := kp hk18 h_products (dj_cons (ne_a ha (by omega)) (dj_nil))
                    refine lv_iload_n hx hb dX12_multiplier_298 rfl (lv_at hl 2 rfl) ?_
                    refine lv_iconst (v := nI 1) hx hb dX12_multiplier_299 (by decide) ?_
                    refine lv_iadd hx hb dX12_multiplier_300 ?_
                    refine lv_as (nI_add _ _) ?_
                    refine lv_istore_n (lv' := [(3, .int (nI (w + 1))), (0, .ref (a 93)), (1, .int (nI z)), (2, .int (nI w)), (4, .int (nI (y + 1))), (5, .int (nI k))]) hx hb dX12_multiplier_301 rfl hl (by decide) rfl (fun ls hl => ?_)
                    refine lv_iinc (v := nI (y + 1 + 1)) (lv' := [(4, .int (nI (y + 1 + 1))), (3, .int (nI (w + 1))), (0, .ref (a 93)), (1, .int (nI z)), (2, .int (nI w)), (5, .int (nI k))]) hx hb dX12_multiplier_302 hl (k := 4) rfl (by first | exact nI_add _ 1 | decide) (by decide) rfl (fun ls hl => ?_)
                    refine lv_goto (tgt := 141) hx hb dX12_multiplier_305 (by decide) ?_
                    exact ih8 (y + 1) f g (upd g7 w (nI ((alT pm n9 S0 k).2.2))) c8 _ _ _ ⟨h_o, (by rw [ek, hS0, hn9, hpm] at h_x; exact h_x), (by rw [hS0] at h_y; rw [hS0, hn9, hpm] at hA8 hA7; exact two_same h_y hA8 hA7), h_row, h_products, hS, lv_sub hl [2, 3, 4, 1, 0] rfl, by omega, by rw [ek, hS0, hn9, hpm] at hF; exact hF, fun r h => by have h8 : upd g7 w (nI ((alT pm n9 S0 k)).2.2) r = nI (un ((alT pm n9 S0 k)).2.1 w ((alT pm n9 S0 k)).2.2 r) := upd_uns (fun r h => hrw r (Or.inr (by omega))) r h; rw [ek, hS0, hn9, hpm] at h8 ⊢; exact h8⟩ (by show w - (y + 1) < w - y; omega)
                  · skip
                    have c199 := cv_nle (by omega) (by omega) c199
                    refine lv_aload_n hx hb dX12_multiplier_202 rfl (lv_at hl 0 rfl) ?_
                    refine va_get (D := G.1) (ci := 12) (v := .ref (a 114)) (C := RX12) (T := TX12) (N := 23) hx hb hts inX12_multiplier_12 hown hK h_o 0 rfl rfl 20 (by decide) (hts (.fieldLink RX12 70 "GateLedgerModel" "products" "[I") (List.mem_of_getElem? (i := 3) (by decide +kernel))) (fun _ h9 => h9) rfl dX12_multiplier_203 ?_
                    refine lv_iconst (v := nI 4) hx hb dX12_multiplier_206 (by decide) ?_
                    refine lv_iload hx hb dX12_multiplier_207 (lv_at hl 4 rfl) ?_
                    refine lv_imul hx hb dX12_multiplier_209 ?_
                    refine lv_as (pk_mul _ _) ?_
                    refine lv_iload hx hb dX12_multiplier_210 (lv_at hl 5 rfl) ?_
                    refine lv_iadd hx hb dX12_multiplier_212 ?_
                    refine lv_as (nI_add _ _) ?_
                    refine pp_iald hx hb hK h_products 0 rfl (vp_in_nI (by omega) (by omega)) dX12_multiplier_213 ?_
                    refine lv_as (congrArg f5 (nI_clamp (by omega))) ?_
                    refine lv_as (y := nI (pm k)) (by have h9 := hf5 (y + 1) k (by omega) (by omega); rw [← Nat.add_assoc] at h9; rw [hpm]; exact h9) ?_
                    refine lv_istore (lv' := [(6, .int (nI (pm k))), (0, .ref (a 93)), (1, .int (nI z)), (2, .int (nI w)), (3, .int (nI n9)), (4, .int (nI (y + 1))), (5, .int (nI k))]) hx hb dX12_multiplier_214 hl (by decide) rfl (fun ls hl => ?_)
                    refine lv_aload_n hx hb dX12_multiplier_216 rfl (lv_at hl 1 rfl) ?_
                    refine va_get (D := G.1) (ci := 12) (v := .ref (a 113)) (C := RX12) (T := TX12) (N := 23) hx hb hts inX12_multiplier_12 hown hK h_o 0 rfl rfl 19 (by decide) (hts (.fieldLink RX12 67 "GateLedgerModel" "row" "[I") (List.mem_of_getElem? (i := 4) (by decide +kernel))) (fun _ h9 => h9) rfl dX12_multiplier_217 ?_
                    refine lv_iload hx hb dX12_multiplier_220 (lv_at hl 6 rfl) ?_
                    refine lv_iload hx hb dX12_multiplier_222 (lv_at hl 6 rfl) ?_
                    refine lv_if_ne (tgt := 243) hx hb dX12_multiplier_224 (by decide) (fun c224 => ?_) (fun c224 => ?_)
                    · skip
                      have c224 := cv_ne (by omega) (by omega) (show ¬ nI k = nI 0 from c224)
                      refine lv_iload hx hb dX12_multiplier_243 (lv_at hl 6 rfl) ?_
                      refine lv_iload_n hx hb dX12_multiplier_245 rfl (lv_at hl 4 rfl) ?_
                      refine lv_icmp_ge (tgt := 270) hx hb dX12_multiplier_246 (by decide) (fun c246 => ?_) (fun c246 => ?_)
                      · skip
                        have c246 := cv_le (by omega) (by omega) c246
                        refine lv_aload_n hx hb dX12_multiplier_270 rfl (lv_at hl 1 rfl) ?_
                        refine lv_iload_n hx hb dX12_multiplier_271 rfl (lv_at hl 2 rfl) ?_
                        refine lv_iload hx hb dX12_multiplier_272 (lv_at hl 0 rfl) ?_
                        refine lv_aload_n hx hb dX12_multiplier_274 rfl (lv_at hl 1 rfl) ?_
                        refine va_get (D := G.1) (ci := 12) (v := .int c8) (C := RX12) (T := TX12) (N := 23) hx hb hts inX12_multiplier_12 hown hK h_o 0 rfl rfl 21 (by decide) (hts (.fieldLink RX12 97 "GateLedgerModel" "carry" "I") (List.mem_of_getElem? (i := 5) (by decide +kernel))) (fun _ h9 => h9) rfl dX12_multiplier_275 ?_
                        refine lv_as (y := nI ((alT pm n9 S0 k).2.2)) (hc c224) ?_
                        refine wr_i (va_runV (As := [.int (nI z), .int (nI (pm k)), .int (nI ((alT pm n9 S0 k).2.2))]) (rest := [.int (nI k), .ref (a 113)]) FX (c_X12_half l G a ha c8 (nI 0) Ns z ((alT pm n9 S0 k).1) f g (pm k) ((alT pm n9 S0 k).2.2) hz (by omega) hF) (cwV 3 hts gX12_multiplier_X12_half rfl rfl rfl (by decide +kernel) ⟨Nat.le_of_ble_eq_true rfl, Nat.le_of_ble_eq_true rfl⟩) (preV hK hNW (⟨h_o, h_x⟩) (va_recv hK h_o (ci := 12) (q0 := 0) rfl rfl)) rfl rfl hl.1 rfl (lv_room (Nat.le_of_ble_eq_true rfl)) dX12_multiplier_278 ⟨Nat.le_of_ble_eq_true rfl, Nat.le_of_ble_eq_true rfl⟩) hS (fun q h => Or.inl ((rng_sub (by omega)) q h)) (fun rr v19 H locs ⟨er21, hF20⟩ hP9 hk22 hS => ?_)
                        have h_o : PP G (modO a (nI (nG ((alT pm n9 S0 k).1) + 1)) (nI 0)) H := hP9.1
                        have h_x : PP G (sixW G a (upN Ns z (hfN ((alT pm n9 S0 k).1) (pm k) ((alT pm n9 S0 k).2.2))) v19.1 v19.2) H := hP9.2
                        have h_y : PP G (twoW G a (upN Ns z S0.1)) H := kp hk22 h_y (dj_cons (rng_no ha (by omega)) (dj_cons (rng_no ha (by omega)) (dj_nil)))
                        have h_row : PP G (ar1 G a 113 16 g7) H := kp hk22 h_row (dj_cons (rng_no ha (by omega)) (dj_nil))
                        have h_products : PP G (ar1 G a 114 16 f5) H := kp hk22 h_products (dj_cons (rng_no ha (by omega)) (dj_nil))
                        refine lv_as (y := nI (nG ((alT pm n9 S0 k).1))) er21 ?_
                        refine pp_iast hx hb hK h_row hS (Or.inr (rng_in (by omega))) (vp_in_nI (by omega) (by omega)) dX12_multiplier_281 (fun H locs hP9 hk24 _ hS => ?_)
                        rw [nI_clamp (by omega)] at hP9
                        have h_row : PP G (ar1 G a 113 16 (upd g7 k (nI (nG ((alT pm n9 S0 k).1))))) H := hP9
                        have h_o : PP G (modO a (nI (nG ((alT pm n9 S0 k).1) + 1)) (nI 0)) H := kp hk24 h_o (dj_cons (ne_a ha (by omega)) (dj_nil))
                        have h_x : PP G (sixW G a (upN Ns z (hfN ((alT pm n9 S0 k).1) (pm k) ((alT pm n9 S0 k).2.2))) v19.1 v19.2) H := kp hk24 h_x (dj_cons (ne_a ha (by omega)) (dj_cons (ne_a ha (by omega)) (dj_cons (ne_a ha (by omega)) (dj_cons (ne_a ha (by omega)) (dj_cons (ne_a ha (by omega)) (dj_cons (ne_a ha (by omega)) (dj_nil)))))))
                        have h_y : PP G (twoW G a (upN Ns z S0.1)) H := kp hk24 h_y (dj_cons (ne_a ha (by omega)) (dj_cons (ne_a ha (by omega)) (dj_nil)))
                        have h_products : PP G (ar1 G a 114 16 f5) H := kp hk24 h_products (dj_cons (ne_a ha (by omega)) (dj_nil))
                        refine lv_iinc (v := nI (k + 1)) (lv' := [(5, .int (nI (k + 1))), (6, .int (nI (pm k))), (0, .ref (a 93)), (1, .int (nI z)), (2, .int (nI w)), (3, .int (nI n9)), (4, .int (nI (y + 1)))]) hx hb dX12_multiplier_282 hl (k := 6) rfl (by first | exact nI_add _ 1 | decide) (by decide) rfl (fun ls hl => ?_)
                        refine lv_goto (tgt := 196) hx hb dX12_multiplier_285 (by decide) ?_
                        exact ih17 (k + 1) v19.1 v19.2 (upd g7 k (nI (nG ((alT pm n9 S0 k).1)))) (nI (nG ((alT pm n9 S0 k).1) + 1)) _ _ _ ⟨h_o, (by rw [al_2 c224 (by omega)]; exact h_x), h_y, h_row, h_products, hS, lv_sub hl [2, 3, 4, 5, 6, 0] rfl, by omega, by rw [al_2 c224 (by omega)]; exact hF20, fun r h => by have h9 := al_f hrw r h; rw [show (alT pm n9 S0 (k + 1)).2.1 k = _ from (congrArg (fun z : LnS => z.2.1 k) (al_2 c224 (by omega))).trans un_s] at h9; exact h9, fun _ => by rw [al_2 c224 (by omega)]⟩ (by show w - (k + 1) < w - k; omega)
                      · skip
                        have c246 := cv_nle (by omega) (by omega) c246
                        refine lv_aload_n hx hb dX12_multiplier_249 rfl (lv_at hl 1 rfl) ?_
                        refine lv_iload_n hx hb dX12_multiplier_250 rfl (lv_at hl 2 rfl) ?_
                        refine lv_aload_n hx hb dX12_multiplier_251 rfl (lv_at hl 1 rfl) ?_
                        refine va_get (D := G.1) (ci := 12) (v := .ref (a 113)) (C := RX12) (T := TX12) (N := 23) hx hb hts inX12_multiplier_12 hown hK h_o 0 rfl rfl 19 (by decide) (hts (.fieldLink RX12 67 "GateLedgerModel" "row" "[I") (List.mem_of_getElem? (i := 4) (by decide +kernel))) (fun _ h9 => h9) rfl dX12_multiplier_252 ?_
                        refine lv_iload hx hb dX12_multiplier_255 (lv_at hl 6 rfl) ?_
                        refine pp_iald hx hb hK h_row 0 rfl (vp_in_nI (by omega) (by omega)) dX12_multiplier_257 ?_
                        refine lv_as (congrArg g7 (nI_clamp (by omega))) ?_
                        refine lv_as (y := nI ((alT pm n9 S0 k).2.1 k)) (hrw k (Or.inl (by omega))) ?_
                        refine lv_iload hx hb dX12_multiplier_258 (lv_at hl 0 rfl) ?_
                        refine lv_aload_n hx hb dX12_multiplier_260 rfl (lv_at hl 1 rfl) ?_
                        refine va_get (D := G.1) (ci := 12) (v := .int c8) (C := RX12) (T := TX12) (N := 23) hx hb hts inX12_multiplier_12 hown hK h_o 0 rfl rfl 21 (by decide) (hts (.fieldLink RX12 97 "GateLedgerModel" "carry" "I") (List.mem_of_getElem? (i := 5) (by decide +kernel))) (fun _ h9 => h9) rfl dX12_multiplier_261 ?_
                        refine lv_as (y := nI ((alT pm n9 S0 k).2.2)) (hc c224) ?_
                        refine wr_i (va_runV (As := [.int (nI z), .int (nI ((alT pm n9 S0 k).2.1 k)), .int (nI (pm k)), .int (nI ((alT pm n9 S0 k).2.2))]) (rest := [.int (nI k), .ref (a 113)]) FX (c_X12_full l G a ha c8 (nI 0) Ns z ((alT pm n9 S0 k).1) f g ((alT pm n9 S0 k).2.1 k) (pm k) ((alT pm n9 S0 k).2.2) hz (by omega) hF) (cwV 4 hts gX12_multiplier_X12_full rfl rfl rfl (by decide +kernel) ⟨Nat.le_of_ble_eq_true rfl, Nat.le_of_ble_eq_true rfl⟩) (preV hK hNW (⟨h_o, h_x⟩) (va_recv hK h_o (ci := 12) (q0 := 0) rfl rfl)) rfl rfl hl.1 rfl (lv_room (Nat.le_of_ble_eq_true rfl)) dX12_multiplier_264 ⟨Nat.le_of_ble_eq_true rfl, Nat.le_of_ble_eq_true rfl⟩) hS (fun q h => Or.inl ((rng_sub (by omega)) q h)) (fun rr v25 H locs ⟨er27, hF26⟩ hP9 hk28 hS => ?_)
                        have h_o : PP G (modO a (nI (nG ((alT pm n9 S0 k).1) + 4)) (nI 0)) H := hP9.1
                        have h_x : PP G (sixW G a (upN Ns z (fuN ((alT pm n9 S0 k).1) ((alT pm n9 S0 k).2.1 k) (pm k) ((alT pm n9 S0 k).2.2))) v25.1 v25.2) H := hP9.2
                        have h_y : PP G (twoW G a (upN Ns z S0.1)) H := kp hk28 h_y (dj_cons (rng_no ha (by omega)) (dj_cons (rng_no ha (by omega)) (dj_nil)))
                        have h_row : PP G (ar1 G a 113 16 g7) H := kp hk28 h_row (dj_cons (rng_no ha (by omega)) (dj_nil))
                        have h_products : PP G (ar1 G a 114 16 f5) H := kp hk28 h_products (dj_cons (rng_no ha (by omega)) (dj_nil))
                        refine lv_as (y := nI (nG ((alT pm n9 S0 k).1) + 1)) er27 ?_
                        refine lv_goto (tgt := 281) hx hb dX12_multiplier_267 (by decide) ?_
                        refine pp_iast hx hb hK h_row hS (Or.inr (rng_in (by omega))) (vp_in_nI (by omega) (by omega)) dX12_multiplier_281 (fun H locs hP9 hk30 _ hS => ?_)
                        rw [nI_clamp (by omega)] at hP9
                        have h_row : PP G (ar1 G a 113 16 (upd g7 k (nI (nG ((alT pm n9 S0 k).1) + 1)))) H := hP9
                        have h_o : PP G (modO a (nI (nG ((alT pm n9 S0 k).1) + 4)) (nI 0)) H := kp hk30 h_o (dj_cons (ne_a ha (by omega)) (dj_nil))
                        have h_x : PP G (sixW G a (upN Ns z (fuN ((alT pm n9 S0 k).1) ((alT pm n9 S0 k).2.1 k) (pm k) ((alT pm n9 S0 k).2.2))) v25.1 v25.2) H := kp hk30 h_x (dj_cons (ne_a ha (by omega)) (dj_cons (ne_a ha (by omega)) (dj_cons (ne_a ha (by omega)) (dj_cons (ne_a ha (by omega)) (dj_cons (ne_a ha (by omega)) (dj_cons (ne_a ha (by omega)) (dj_nil)))))))
                        have h_y : PP G (twoW G a (upN Ns z S0.1)) H := kp hk30 h_y (dj_cons (ne_a ha (by omega)) (dj_cons (ne_a ha (by omega)) (dj_nil)))
                        have h_products : PP G (ar1 G a 114 16 f5) H := kp hk30 h_products (dj_cons (ne_a ha (by omega)) (dj_nil))
                        refine lv_iinc (v := nI (k + 1)) (lv' := [(5, .int (nI (k + 1))), (6, .int (nI (pm k))), (0, .ref (a 93)), (1, .int (nI z)), (2, .int (nI w)), (3, .int (nI n9)), (4, .int (nI (y + 1)))]) hx hb dX12_multiplier_282 hl (k := 6) rfl (by first | exact nI_add _ 1 | decide) (by decide) rfl (fun ls hl => ?_)
                        refine lv_goto (tgt := 196) hx hb dX12_multiplier_285 (by decide) ?_
                        exact ih17 (k + 1) v25.1 v25.2 (upd g7 k (nI (nG ((alT pm n9 S0 k).1) + 1))) (nI (nG ((alT pm n9 S0 k).1) + 4)) _ _ _ ⟨h_o, (by rw [al_1 c224 c246]; exact h_x), h_y, h_row, h_products, hS, lv_sub hl [2, 3, 4, 5, 6, 0] rfl, by omega, by rw [al_1 c224 c246]; exact hF26, fun r h => by have h9 := al_f hrw r h; rw [show (alT pm n9 S0 (k + 1)).2.1 k = _ from (congrArg (fun z : LnS => z.2.1 k) (al_1 c224 c246)).trans un_s] at h9; exact h9, fun _ => by rw [al_1 c224 c246]⟩ (by show w - (k + 1) < w - k; omega)
                    · skip
                      have c224 := cv_eq (by omega) (by omega) (show nI k = nI 0 from c224)
                      refine lv_aload_n hx hb dX12_multiplier_227 rfl (lv_at hl 1 rfl) ?_
                      refine lv_iload_n hx hb dX12_multiplier_228 rfl (lv_at hl 2 rfl) ?_
                      refine lv_aload_n hx hb dX12_multiplier_229 rfl (lv_at hl 1 rfl) ?_
                      refine va_get (D := G.1) (ci := 12) (v := .ref (a 113)) (C := RX12) (T := TX12) (N := 23) hx hb hts inX12_multiplier_12 hown hK h_o 0 rfl rfl 19 (by decide) (hts (.fieldLink RX12 67 "GateLedgerModel" "row" "[I") (List.mem_of_getElem? (i := 4) (by decide +kernel))) (fun _ h9 => h9) rfl dX12_multiplier_230 ?_
                      refine lv_iconst (v := nI 0) hx hb dX12_multiplier_233 (by decide) ?_
                      refine pp_iald hx hb hK h_row 0 rfl (vp_in_nI (by omega) (by omega)) dX12_multiplier_234 ?_
                      refine lv_as (congrArg g7 (nI_clamp (by omega))) ?_
                      refine lv_as (y := nI ((alT pm n9 S0 k).2.1 k)) (by have h9 := hrw k (Or.inl (by omega)); rw [← h9, c224]) ?_
                      refine lv_iload hx hb dX12_multiplier_235 (lv_at hl 0 rfl) ?_
                      refine wr_i (va_runV (As := [.int (nI z), .int (nI ((alT pm n9 S0 k).2.1 k)), .int (nI (pm k))]) (rest := [.int (nI k), .ref (a 113)]) FX (c_X12_half l G a ha c8 (nI 0) Ns z ((alT pm n9 S0 k).1) f g ((alT pm n9 S0 k).2.1 k) (pm k) hz (by omega) hF) (cwV 3 hts gX12_multiplier_X12_half rfl rfl rfl (by decide +kernel) ⟨Nat.le_of_ble_eq_true rfl, Nat.le_of_ble_eq_true rfl⟩) (preV hK hNW (⟨h_o, h_x⟩) (va_recv hK h_o (ci := 12) (q0 := 0) rfl rfl)) rfl rfl hl.1 rfl (lv_room (Nat.le_of_ble_eq_true rfl)) dX12_multiplier_237 ⟨Nat.le_of_ble_eq_true rfl, Nat.le_of_ble_eq_true rfl⟩) hS (fun q h => Or.inl ((rng_sub (by omega)) q h)) (fun rr v31 H locs ⟨er33, hF32⟩ hP9 hk34 hS => ?_)
                      have h_o : PP G (modO a (nI (nG ((alT pm n9 S0 k).1) + 1)) (nI 0)) H := hP9.1
                      have h_x : PP G (sixW G a (upN Ns z (hfN ((alT pm n9 S0 k).1) ((alT pm n9 S0 k).2.1 k) (pm k))) v31.1 v31.2) H := hP9.2
                      have h_y : PP G (twoW G a (upN Ns z S0.1)) H := kp hk34 h_y (dj_cons (rng_no ha (by omega)) (dj_cons (rng_no ha (by omega)) (dj_nil)))
                      have h_row : PP G (ar1 G a 113 16 g7) H := kp hk34 h_row (dj_cons (rng_no ha (by omega)) (dj_nil))
                      have h_products : PP G (ar1 G a 114 16 f5) H := kp hk34 h_products (dj_cons (rng_no ha (by omega)) (dj_nil))
                      refine lv_as (y := nI (nG ((alT pm n9 S0 k).1))) er33 ?_
                      refine lv_goto (tgt := 281) hx hb dX12_multiplier_240 (by decide) ?_
                      refine pp_iast hx hb hK h_row hS (Or.inr (rng_in (by omega))) (vp_in_nI (by omega) (by omega)) dX12_multiplier_281 (fun H locs hP9 hk36 _ hS => ?_)
                      rw [nI_clamp (by omega)] at hP9
                      have h_row : PP G (ar1 G a 113 16 (upd g7 k (nI (nG ((alT pm n9 S0 k).1))))) H := hP9
                      have h_o : PP G (modO a (nI (nG ((alT pm n9 S0 k).1) + 1)) (nI 0)) H := kp hk36 h_o (dj_cons (ne_a ha (by omega)) (dj_nil))
                      have h_x : PP G (sixW G a (upN Ns z (hfN ((alT pm n9 S0 k).1) ((alT pm n9 S0 k).2.1 k) (pm k))) v31.1 v31.2) H := kp hk36 h_x (dj_cons (ne_a ha (by omega)) (dj_cons (ne_a ha (by omega)) (dj_cons (ne_a ha (by omega)) (dj_cons (ne_a ha (by omega)) (dj_cons (ne_a ha (by omega)) (dj_cons (ne_a ha (by omega)) (dj_nil)))))))
                      have h_y : PP G (twoW G a (upN Ns z S0.1)) H := kp hk36 h_y (dj_cons (ne_a ha (by omega)) (dj_cons (ne_a ha (by omega)) (dj_nil)))
                      have h_products : PP G (ar1 G a 114 16 f5) H := kp hk36 h_products (dj_cons (ne_a ha (by omega)) (dj_nil))
                      refine lv_iinc (v := nI (k + 1)) (lv' := [(5, .int (nI (k + 1))), (6, .int (nI (pm k))), (0, .ref (a 93)), (1, .int (nI z)), (2, .int (nI w)), (3, .int (nI n9)), (4, .int (nI (y + 1)))]) hx hb dX12_multiplier_282 hl (k := 6) rfl (by first | exact nI_add _ 1 | decide) (by decide) rfl (fun ls hl => ?_)
                      refine lv_goto (tgt := 196) hx hb dX12_multiplier_285 (by decide) ?_
                      exact ih17 (k + 1) v31.1 v31.2 (upd g7 k (nI (nG ((alT pm n9 S0 k).1)))) (nI (nG ((alT pm n9 S0 k).1) + 1)) _ _ _ ⟨h_o, (by rw [al_0 c224]; exact h_x), h_y, h_row, h_products, hS, lv_sub hl [2, 3, 4, 5, 6, 0] rfl, by omega, by rw [al_0 c224]; exact hF32, fun r h => by have h9 := al_f hrw r h; rw [show (alT pm n9 S0 (k + 1)).2.1 k = _ from (congrArg (fun z : LnS => z.2.1 k) (al_0 c224)).trans un_s] at h9; exact h9, fun _ => by rw [al_0 c224]⟩ (by show w - (k + 1) < w - k; omega)
                · skip
                  have c168 := cv_nle (by omega) (by omega) c168
                  refine lv_aload_n hx hb dX12_multiplier_171 rfl (lv_at hl 0 rfl) ?_
                  refine va_get (D := G.1) (ci := 12) (v := .ref (a 113)) (C := RX12) (T := TX12) (N := 23) hx hb hts inX12_multiplier_12 hown hK h_o 0 rfl rfl 19 (by decide) (hts (.fieldLink RX12 67 "GateLedgerModel" "row" "[I") (List.mem_of_getElem? (i := 4) (by decide +kernel))) (fun _ h9 => h9) rfl dX12_multiplier_172 ?_
                  refine lv_iload hx hb dX12_multiplier_175 (lv_at hl 5 rfl) ?_
                  refine lv_aload_n hx hb dX12_multiplier_177 rfl (lv_at hl 0 rfl) ?_
                  refine va_get (D := G.1) (ci := 12) (v := .ref (a 113)) (C := RX12) (T := TX12) (N := 23) hx hb hts inX12_multiplier_12 hown hK h_o 0 rfl rfl 19 (by decide) (hts (.fieldLink RX12 67 "GateLedgerModel" "row" "[I") (List.mem_of_getElem? (i := 4) (by decide +kernel))) (fun _ h9 => h9) rfl dX12_multiplier_178 ?_
                  refine lv_iload hx hb dX12_multiplier_181 (lv_at hl 5 rfl) ?_
                  refine lv_iconst (v := nI 1) hx hb dX12_multiplier_183 (by decide) ?_
                  refine lv_iadd hx hb dX12_multiplier_184 ?_
                  refine lv_as (nI_add _ _) ?_
                  refine pp_iald hx hb hK h_row 0 rfl (vp_in_nI (by omega) (by omega)) dX12_multiplier_185 ?_
                  refine lv_as (congrArg (shf g6 (q + 1)) (nI_clamp (by omega))) ?_
                  refine lv_as (y := g6 (q + 1)) shf_at ?_
                  refine pp_iast hx hb hK h_row hS (Or.inr (rng_in (by omega))) (vp_in_nI (by omega) (by omega)) dX12_multiplier_186 (fun H locs hP9 hk37 _ hS => ?_)
                  rw [nI_clamp (by omega)] at hP9
                  rw [shf_r] at hP9
                  have h_row : PP G (ar1 G a 113 16 (shf g6 (q + 1 + 1))) H := hP9
                  have h_o : PP G (modO a c9 (nI 0)) H := kp hk37 h_o (dj_cons (ne_a ha (by omega)) (dj_nil))
                  have h_x : PP G (sixW G a (upN Ns z S0.1) f g) H := kp hk37 h_x (dj_cons (ne_a ha (by omega)) (dj_cons (ne_a ha (by omega)) (dj_cons (ne_a ha (by omega)) (dj_cons (ne_a ha (by omega)) (dj_cons (ne_a ha (by omega)) (dj_cons (ne_a ha (by omega)) (dj_nil)))))))
                  have h_y : PP G (twoW G a (upN Ns z S0.1)) H := kp hk37 h_y (dj_cons (ne_a ha (by omega)) (dj_cons (ne_a ha (by omega)) (dj_nil)))
                  have h_products : PP G (ar1 G a 114 16 f5) H := kp hk37 h_products (dj_cons (ne_a ha (by omega)) (dj_nil))
                  refine lv_iinc (v := nI (q + 1)) (lv' := [(5, .int (nI (q + 1))), (0, .ref (a 93)), (1, .int (nI z)), (2, .int (nI w)), (3, .int (nI n9)), (4, .int (nI (y + 1)))]) hx hb dX12_multiplier_187 hl (k := 5) rfl (by first | exact nI_add _ 1 | decide) (by decide) rfl (fun ls hl => ?_)
                  refine lv_goto (tgt := 165) hx hb dX12_multiplier_190 (by decide) ?_
                  exact ih16 (q + 1) _ _ _ ⟨h_o, h_x, h_y, h_row, h_products, hS, lv_sub hl [1, 2, 3, 4, 5, 0] rfl, by omega⟩ (by show n9 - (q + 1) < n9 - q; omega)
            · skip
              have c115 := cv_nle (by omega) (by omega) c115
              refine lv_aload_n hx hb dX12_multiplier_118 rfl (lv_at hl 0 rfl) ?_
              refine va_get (D := G.1) (ci := 12) (v := .ref (a 113)) (C := RX12) (T := TX12) (N := 23) hx hb hts inX12_multiplier_12 hown hK h_o 0 rfl rfl 19 (by decide) (hts (.fieldLink RX12 67 "GateLedgerModel" "row" "[I") (List.mem_of_getElem? (i := 4) (by decide +kernel))) (fun _ h9 => h9) rfl dX12_multiplier_119 ?_
              refine lv_iload hx hb dX12_multiplier_122 (lv_at hl 4 rfl) ?_
              refine lv_aload_n hx hb dX12_multiplier_124 rfl (lv_at hl 0 rfl) ?_
              refine va_get (D := G.1) (ci := 12) (v := .ref (a 114)) (C := RX12) (T := TX12) (N := 23) hx hb hts inX12_multiplier_12 hown hK h_o 0 rfl rfl 20 (by decide) (hts (.fieldLink RX12 70 "GateLedgerModel" "products" "[I") (List.mem_of_getElem? (i := 3) (by decide +kernel))) (fun _ h9 => h9) rfl dX12_multiplier_125 ?_
              refine lv_iload hx hb dX12_multiplier_128 (lv_at hl 4 rfl) ?_
              refine pp_iald hx hb hK h_products 0 rfl (vp_in_nI (by omega) (by omega)) dX12_multiplier_130 ?_
              refine lv_as (congrArg f5 (nI_clamp (by omega))) ?_
              refine lv_as (y := nI (nG (inN (Ns z) (2 * w)) + q)) (by have h9 := hf5 0 q (by omega) (by omega); rw [Nat.mul_zero, Nat.zero_add, Nat.zero_mul, Nat.zero_add] at h9; exact h9) ?_
              refine pp_iast hx hb hK h_row hS (Or.inr (rng_in (by omega))) (vp_in_nI (by omega) (by omega)) dX12_multiplier_131 (fun H locs hP9 hk38 _ hS => ?_)
              rw [nI_clamp (by omega)] at hP9
              have h_row : PP G (ar1 G a 113 16 (upd g5 q (nI (nG (inN (Ns z) (2 * w)) + q)))) H := hP9
              have h_o : PP G (modO a cy (nI 0)) H := kp hk38 h_o (dj_cons (ne_a ha (by omega)) (dj_nil))
              have h_x : PP G (sixW G a (upN Ns z (prT (inN (Ns z) (2 * w)) w (w * w))) f g) H := kp hk38 h_x (dj_cons (ne_a ha (by omega)) (dj_cons (ne_a ha (by omega)) (dj_cons (ne_a ha (by omega)) (dj_cons (ne_a ha (by omega)) (dj_cons (ne_a ha (by omega)) (dj_cons (ne_a ha (by omega)) (dj_nil)))))))
              have h_y : PP G (twoW G a (upN Ns z (prT (inN (Ns z) (2 * w)) w (w * w)))) H := kp hk38 h_y (dj_cons (ne_a ha (by omega)) (dj_cons (ne_a ha (by omega)) (dj_nil)))
              have h_products : PP G (ar1 G a 114 16 f5) H := kp hk38 h_products (dj_cons (ne_a ha (by omega)) (dj_nil))
              refine lv_iinc (v := nI (q + 1)) (lv' := [(4, .int (nI (q + 1))), (0, .ref (a 93)), (1, .int (nI z)), (2, .int (nI w)), (3, .int (nI w))]) hx hb dX12_multiplier_132 hl (k := 4) rfl (by first | exact nI_add _ 1 | decide) (by decide) rfl (fun ls hl => ?_)
              refine lv_goto (tgt := 112) hx hb dX12_multiplier_135 (by decide) ?_
              exact ih7 (q + 1) (upd g5 q (nI (nG (inN (Ns z) (2 * w)) + q))) _ _ _ ⟨h_o, h_x, h_y, h_row, h_products, hS, lv_sub hl [1, 2, 3, 4, 0] rfl, by omega, upd_fill (v := fun r => nI (nG (inN (Ns z) (2 * w)) + r)) hg5 rfl⟩ (by show w - (q + 1) < w - q; omega)
          · skip
            have c61 := cv_nle (by omega) (by omega) c61
            have hnw : (n3 + 1) * w ≤ 4 * 4 := Nat.mul_le_mul (by omega) (by omega)
            rw [Nat.add_mul, Nat.one_mul] at hnw
            refine lv_iconst (v := nI 0) hx hb dX12_multiplier_64 (by decide) ?_
            refine lv_istore (lv' := [(4, .int (nI 0)), (0, .ref (a 93)), (1, .int (nI z)), (2, .int (nI w)), (3, .int (nI n3))]) hx hb dX12_multiplier_65 hl (by decide) rfl (fun ls hl => ?_)
            refine lv_loop4 67 (fun (k : Nat) (f : FN) (g : FN) (f6 : FN) => w - k) (fun (k : Nat) (f : FN) (g : FN) (f6 : FN) (H : Heap) (locs : List Loc) (ls : Array Slot) => (PP G (modO a cy (nI 0)) H) ∧ (PP G (sixW G a (upN Ns z (prT (inN (Ns z) (2 * w)) w (n3 * w + k))) f g) H) ∧ (PP G (twoW G a (upN Ns z (inN (Ns z) (2 * w)))) H) ∧ (PP G (ar1 G a 113 16 rw0) H) ∧ (PP G (ar1 G a 114 16 f6) H) ∧ (va_S (orA (rng a 93 9) (rng a 113 2)) s.heap H locs) ∧ (lv_has ls 7 [(0, .ref (a 93)), (1, .int (nI z)), (2, .int (nI w)), (3, .int (nI n3)), (4, .int (nI k))]) ∧ (k ≤ w) ∧ (FS (upN Ns z (prT (inN (Ns z) (2 * w)) w (n3 * w + k))) f g) ∧ (∀ i j, j < w → (i < n3 ∨ (i = n3 ∧ j < k)) → f6 (4 * i + j) = nI (nG (inN (Ns z) (2 * w)) + (i * w + j)))) (fun _ _ _ _ => []) (fun k f g f6 H locs ls hI ih => ?_) 0 f g f5 ⟨h_o, h_x, h_y, h_row, h_products, hS, lv_sub hl [1, 2, 3, 4, 0] rfl, by omega, hF, fun i j hj hi => hf5 i j hj (by omega)⟩ rfl
            obtain ⟨h_o, h_x, h_y, h_row, h_products, hS, hl, hk, hF, hf6⟩ := hI
            have ih39 := @ih
            clear ih
            have hp9 := prT_g (inN (Ns z) (2 * w)) w (n3 * w + k)
            refine lv_iload hx hb dX12_multiplier_67 (lv_at hl 4 rfl) ?_
            refine lv_iload_n hx hb dX12_multiplier_69 rfl (lv_at hl 2 rfl) ?_
            refine lv_icmp_ge (tgt := 101) hx hb dX12_multiplier_70 (by decide) (fun c70 => ?_) (fun c70 => ?_)
            · skip
              have c70 := cv_le (by omega) (by omega) c70
              have ek : k = w := by omega
              refine lv_iinc (v := nI (n3 + 1)) (lv' := [(3, .int (nI (n3 + 1))), (0, .ref (a 93)), (1, .int (nI z)), (2, .int (nI w)), (4, .int (nI k))]) hx hb dX12_multiplier_101 hl (k := 3) rfl (by first | exact nI_add _ 1 | decide) (by decide) rfl (fun ls hl => ?_)
              refine lv_goto (tgt := 59) hx hb dX12_multiplier_104 (by decide) ?_
              exact ih6 (n3 + 1) f g f6 _ _ _ ⟨h_o, (by rw [(show (n3 + 1) * w = n3 * w + k by rw [ek, Nat.succ_mul])]; exact h_x), h_y, h_row, h_products, hS, lv_sub hl [1, 2, 3, 0] rfl, by omega, by rw [(show (n3 + 1) * w = n3 * w + k by rw [ek, Nat.succ_mul])]; exact hF, fun i j hj hi => hf6 i j hj (by omega)⟩ (by show w - (n3 + 1) < w - n3; omega)
            · skip
              have c70 := cv_nle (by omega) (by omega) c70
              refine lv_aload_n hx hb dX12_multiplier_73 rfl (lv_at hl 0 rfl) ?_
              refine va_get (D := G.1) (ci := 12) (v := .ref (a 114)) (C := RX12) (T := TX12) (N := 23) hx hb hts inX12_multiplier_12 hown hK h_o 0 rfl rfl 20 (by decide) (hts (.fieldLink RX12 70 "GateLedgerModel" "products" "[I") (List.mem_of_getElem? (i := 3) (by decide +kernel))) (fun _ h9 => h9) rfl dX12_multiplier_74 ?_
              refine lv_iconst (v := nI 4) hx hb dX12_multiplier_77 (by decide) ?_
              refine lv_iload_n hx hb dX12_multiplier_78 rfl (lv_at hl 3 rfl) ?_
              refine lv_imul hx hb dX12_multiplier_79 ?_
              refine lv_as (pk_mul _ _) ?_
              refine lv_iload hx hb dX12_multiplier_80 (lv_at hl 4 rfl) ?_
              refine lv_iadd hx hb dX12_multiplier_82 ?_
              refine lv_as (nI_add _ _) ?_
              refine lv_aload_n hx hb dX12_multiplier_83 rfl (lv_at hl 0 rfl) ?_
              refine lv_iload_n hx hb dX12_multiplier_84 rfl (lv_at hl 1 rfl) ?_
              refine lv_iconst (v := nI 0) hx hb dX12_multiplier_85 (by decide) ?_
              refine lv_iload hx hb dX12_multiplier_86 (lv_at hl 4 rfl) ?_
              refine lv_iload_n hx hb dX12_multiplier_88 rfl (lv_at hl 2 rfl) ?_
              refine lv_iload_n hx hb dX12_multiplier_89 rfl (lv_at hl 3 rfl) ?_
              refine lv_iadd hx hb dX12_multiplier_90 ?_
              refine lv_as (nI_add _ _) ?_
              refine wr_i (va_runV (As := [.int (nI z), .int (nI 0), .int (nI k), .int (nI (w + n3))]) (rest := [.int (nI ((4 * n3) + k)), .ref (a 114)]) FX (c_X12_adds l G a ha cy (nI 0) Ns z (prT (inN (Ns z) (2 * w)) w (n3 * w + k)) f g 0 k (w + n3) (nI (w + n3)) hz (by omega) hF (by omega) (fun _ => rfl) (fun c => absurd c (by omega))) (cwV 4 hts gX12_multiplier_X12_adds rfl rfl rfl (by decide +kernel) ⟨Nat.le_of_ble_eq_true rfl, Nat.le_of_ble_eq_true rfl⟩) (preV hK hNW (⟨h_o, h_x⟩) (va_recv hK h_o (ci := 12) (q0 := 0) rfl rfl)) rfl rfl hl.1 rfl (lv_room (Nat.le_of_ble_eq_true rfl)) dX12_multiplier_91 ⟨Nat.le_of_ble_eq_true rfl, Nat.le_of_ble_eq_true rfl⟩) hS (fun q h => Or.inl ((rng_sub (by omega)) q h)) (fun rr v40 H locs ⟨er42, hF41⟩ hP9 hk43 hS => ?_)
              have h_x : PP G (sixW G a (upN Ns z (addG (prT (inN (Ns z) (2 * w)) w (n3 * w + k)) 0 k (w + n3))) v40.1 v40.2) H := hP9
              have h_o : PP G (modO a cy (nI 0)) H := kp hk43 h_o (dj_cons (rng_no ha (by omega)) (dj_nil))
              have h_y : PP G (twoW G a (upN Ns z (inN (Ns z) (2 * w)))) H := kp hk43 h_y (dj_cons (rng_no ha (by omega)) (dj_cons (rng_no ha (by omega)) (dj_nil)))
              have h_row : PP G (ar1 G a 113 16 rw0) H := kp hk43 h_row (dj_cons (rng_no ha (by omega)) (dj_nil))
              have h_products : PP G (ar1 G a 114 16 f6) H := kp hk43 h_products (dj_cons (rng_no ha (by omega)) (dj_nil))
              refine lv_as (y := nI (nG (prT (inN (Ns z) (2 * w)) w (n3 * w + k)))) er42 ?_
              have her42 : nG (addG (prT (inN (Ns z) (2 * w)) w (n3 * w + k)) 0 k (w + n3)) = nG (prT (inN (Ns z) (2 * w)) w (n3 * w + k)) + 1 := rfl
              refine lv_as (y := nI (nG (inN (Ns z) (2 * w)) + (n3 * w + k))) (congrArg nI hp9.1) ?_
              refine pp_iast hx hb hK h_products hS (Or.inr (rng_in (by omega))) (vp_in_nI (by omega) (by omega)) dX12_multiplier_94 (fun H locs hP9 hk45 _ hS => ?_)
              rw [nI_clamp (by omega)] at hP9
              have h_products : PP G (ar1 G a 114 16 (upd f6 ((4 * n3) + k) (nI (nG (inN (Ns z) (2 * w)) + (n3 * w + k))))) H := hP9
              have h_o : PP G (modO a cy (nI 0)) H := kp hk45 h_o (dj_cons (ne_a ha (by omega)) (dj_nil))
              have h_x : PP G (sixW G a (upN Ns z (addG (prT (inN (Ns z) (2 * w)) w (n3 * w + k)) 0 k (w + n3))) v40.1 v40.2) H := kp hk45 h_x (dj_cons (ne_a ha (by omega)) (dj_cons (ne_a ha (by omega)) (dj_cons (ne_a ha (by omega)) (dj_cons (ne_a ha (by omega)) (dj_cons (ne_a ha (by omega)) (dj_cons (ne_a ha (by omega)) (dj_nil)))))))
              have h_y : PP G (twoW G a (upN Ns z (inN (Ns z) (2 * w)))) H := kp hk45 h_y (dj_cons (ne_a ha (by omega)) (dj_cons (ne_a ha (by omega)) (dj_nil)))
              have h_row : PP G (ar1 G a 113 16 rw0) H := kp hk45 h_row (dj_cons (ne_a ha (by omega)) (dj_nil))
              refine lv_iinc (v := nI (k + 1)) (lv' := [(4, .int (nI (k + 1))), (0, .ref (a 93)), (1, .int (nI z)), (2, .int (nI w)), (3, .int (nI n3))]) hx hb dX12_multiplier_95 hl (k := 4) rfl (by first | exact nI_add _ 1 | decide) (by decide) rfl (fun ls hl => ?_)
              refine lv_goto (tgt := 67) hx hb dX12_multiplier_98 (by decide) ?_
              exact ih39 (k + 1) v40.1 v40.2 (upd f6 ((4 * n3) + k) (nI (nG (inN (Ns z) (2 * w)) + (n3 * w + k)))) _ _ _ ⟨h_o, (by rw [prT_s (by omega)]; exact h_x), h_y, h_row, h_products, hS, lv_sub hl [1, 2, 3, 4, 0] rfl, by omega, by rw [prT_s (by omega)]; exact hF41, pr_up (v := fun i j => nG (inN (Ns z) (2 * w)) + (i * w + j)) hw2 (by omega) hf6⟩ (by show w - (k + 1) < w - k; omega)
        · exact absurd c46 (by decide)
      · skip
        have c31 := cv_nle (by omega) (by omega) (show ¬ nI (nG (Ns z)) ≤ nI 0 from c31)
        refine lv_iconst (v := nI 3) hx hb dX12_multiplier_34 (by decide) ?_
        refine lv_goto (tgt := 39) hx hb dX12_multiplier_35 (by decide) ?_
        refine pp_put (ci := 12) (v := .int (nI 3)) (ty := .int) (C := RX12) (T := TX12) (N := 23) hx hb hts inX12_multiplier_12 tyX12 tyX12_ok nmX12 hown hK h_o hS (Or.inl (rng_in (by omega))) rfl 22 (by decide) (hts (.fieldLink RX12 73 "GateLedgerModel" "thrown" "I") (List.mem_of_getElem? (i := 2) (by decide +kernel))) (fun _ h9 => h9) rfl (by decide +kernel) rfl rfl (Nat.le_of_ble_eq_true rfl) dX12_multiplier_39 (fun H locs hP9 hk46 _ hS => ?_)
        have h_o : PP G (modO a cy (nI 3)) H := hP9
        have h_x : PP G (sixW G a Ns fs sc) H := kp hk46 h_x (dj_cons (ne_a ha (by omega)) (dj_cons (ne_a ha (by omega)) (dj_cons (ne_a ha (by omega)) (dj_cons (ne_a ha (by omega)) (dj_cons (ne_a ha (by omega)) (dj_cons (ne_a ha (by omega)) (dj_nil)))))))
        have h_y : PP G (twoW G a Ns) H := kp hk46 h_y (dj_cons (ne_a ha (by omega)) (dj_cons (ne_a ha (by omega)) (dj_nil)))
        have h_row : PP G (ar1 G a 113 16 rw0) H := kp hk46 h_row (dj_cons (ne_a ha (by omega)) (dj_nil))
        have h_products : PP G (ar1 G a 114 16 pr0) H := kp hk46 h_products (dj_cons (ne_a ha (by omega)) (dj_nil))
        refine lv_aload_n hx hb dX12_multiplier_42 rfl (lv_at hl 0 rfl) ?_
        refine va_get (D := G.1) (ci := 12) (v := .int (nI 3)) (C := RX12) (T := TX12) (N := 23) hx hb hts inX12_multiplier_12 hown hK h_o 0 rfl rfl 22 (by decide) (hts (.fieldLink RX12 73 "GateLedgerModel" "thrown" "I") (List.mem_of_getElem? (i := 2) (by decide +kernel))) (fun _ h9 => h9) rfl dX12_multiplier_43 ?_
        refine lv_if_le (tgt := 51) hx hb dX12_multiplier_46 (by decide) (fun c46 => ?_) (fun c46 => ?_)
        · exact absurd c46 (by decide)
        · skip
          refine lv_iconst (v := nI 0) hx hb dX12_multiplier_49 (by decide) ?_
          have e1 : cMu Ns p9 w9 = 3 := (if_pos c5).trans ((if_pos c18).trans (if_neg (by rw [ez]; omega)))
          exact en_wi (fs, sc, cy, rw0, pr0) hx hb hr hlocks hS ⟨fun q => absurd (e1.symm.trans q) (by decide), by rw [stN_n e1 (by decide)]; exact hFS⟩ (by rw [stN_n e1 (by decide), e1]; exact ⟨h_o, h_x, h_y, h_row, h_products⟩) dX12_multiplier_50
    · skip
      have c18 := bI_0.mp c18
      refine lv_iconst (v := nI 2) hx hb dX12_multiplier_21 (by decide) ?_
      refine lv_goto (tgt := 39) hx hb dX12_multiplier_22 (by decide) ?_
      refine pp_put (ci := 12) (v := .int (nI 2)) (ty := .int) (C := RX12) (T := TX12) (N := 23) hx hb hts inX12_multiplier_12 tyX12 tyX12_ok nmX12 hown hK h_o hS (Or.inl (rng_in (by omega))) rfl 22 (by decide) (hts (.fieldLink RX12 73 "GateLedgerModel" "thrown" "I") (List.mem_of_getElem? (i := 2) (by decide +kernel))) (fun _ h9 => h9) rfl (by decide +kernel) rfl rfl (Nat.le_of_ble_eq_true rfl) dX12_multiplier_39 (fun H locs hP9 hk47 _ hS => ?_)
      have h_o : PP G (modO a cy (nI 2)) H := hP9
      have h_x : PP G (sixW G a Ns fs sc) H := kp hk47 h_x (dj_cons (ne_a ha (by omega)) (dj_cons (ne_a ha (by omega)) (dj_cons (ne_a ha (by omega)) (dj_cons (ne_a ha (by omega)) (dj_cons (ne_a ha (by omega)) (dj_cons (ne_a ha (by omega)) (dj_nil)))))))
      have h_y : PP G (twoW G a Ns) H := kp hk47 h_y (dj_cons (ne_a ha (by omega)) (dj_cons (ne_a ha (by omega)) (dj_nil)))
      have h_row : PP G (ar1 G a 113 16 rw0) H := kp hk47 h_row (dj_cons (ne_a ha (by omega)) (dj_nil))
      have h_products : PP G (ar1 G a 114 16 pr0) H := kp hk47 h_products (dj_cons (ne_a ha (by omega)) (dj_nil))
      refine lv_aload_n hx hb dX12_multiplier_42 rfl (lv_at hl 0 rfl) ?_
      refine va_get (D := G.1) (ci := 12) (v := .int (nI 2)) (C := RX12) (T := TX12) (N := 23) hx hb hts inX12_multiplier_12 hown hK h_o 0 rfl rfl 22 (by decide) (hts (.fieldLink RX12 73 "GateLedgerModel" "thrown" "I") (List.mem_of_getElem? (i := 2) (by decide +kernel))) (fun _ h9 => h9) rfl dX12_multiplier_43 ?_
      refine lv_if_le (tgt := 51) hx hb dX12_multiplier_46 (by decide) (fun c46 => ?_) (fun c46 => ?_)
      · exact absurd c46 (by decide)
      · skip
        refine lv_iconst (v := nI 0) hx hb dX12_multiplier_49 (by decide) ?_
        have e1 : cMu Ns p9 w9 = 2 := (if_pos c5).trans (if_neg c18)
        exact en_wi (fs, sc, cy, rw0, pr0) hx hb hr hlocks hS ⟨fun q => absurd (e1.symm.trans q) (by decide), by rw [stN_n e1 (by decide)]; exact hFS⟩ (by rw [stN_n e1 (by decide), e1]; exact ⟨h_o, h_x, h_y, h_row, h_products⟩) dX12_multiplier_50
  · skip
    have c5 := bI_0.mp c5
    refine lv_iconst (v := nI 1) hx hb dX12_multiplier_8 (by decide) ?_
    refine lv_goto (tgt := 39) hx hb dX12_multiplier_9 (by decide) ?_
    refine pp_put (ci := 12) (v := .int (nI 1)) (ty := .int) (C := RX12) (T := TX12) (N := 23) hx hb hts inX12_multiplier_12 tyX12 tyX12_ok nmX12 hown hK h_o hS (Or.inl (rng_in (by omega))) rfl 22 (by decide) (hts (.fieldLink RX12 73 "GateLedgerModel" "thrown" "I") (List.mem_of_getElem? (i := 2) (by decide +kernel))) (fun _ h9 => h9) rfl (by decide +kernel) rfl rfl (Nat.le_of_ble_eq_true rfl) dX12_multiplier_39 (fun H locs hP9 hk48 _ hS => ?_)
    have h_o : PP G (modO a cy (nI 1)) H := hP9
    have h_x : PP G (sixW G a Ns fs sc) H := kp hk48 h_x (dj_cons (ne_a ha (by omega)) (dj_cons (ne_a ha (by omega)) (dj_cons (ne_a ha (by omega)) (dj_cons (ne_a ha (by omega)) (dj_cons (ne_a ha (by omega)) (dj_cons (ne_a ha (by omega)) (dj_nil)))))))
    have h_y : PP G (twoW G a Ns) H := kp hk48 h_y (dj_cons (ne_a ha (by omega)) (dj_cons (ne_a ha (by omega)) (dj_nil)))
    have h_row : PP G (ar1 G a 113 16 rw0) H := kp hk48 h_row (dj_cons (ne_a ha (by omega)) (dj_nil))
    have h_products : PP G (ar1 G a 114 16 pr0) H := kp hk48 h_products (dj_cons (ne_a ha (by omega)) (dj_nil))
    refine lv_aload_n hx hb dX12_multiplier_42 rfl (lv_at hl 0 rfl) ?_
    refine va_get (D := G.1) (ci := 12) (v := .int (nI 1)) (C := RX12) (T := TX12) (N := 23) hx hb hts inX12_multiplier_12 hown hK h_o 0 rfl rfl 22 (by decide) (hts (.fieldLink RX12 73 "GateLedgerModel" "thrown" "I") (List.mem_of_getElem? (i := 2) (by decide +kernel))) (fun _ h9 => h9) rfl dX12_multiplier_43 ?_
    refine lv_if_le (tgt := 51) hx hb dX12_multiplier_46 (by decide) (fun c46 => ?_) (fun c46 => ?_)
    · exact absurd c46 (by decide)
    · skip
      refine lv_iconst (v := nI 0) hx hb dX12_multiplier_49 (by decide) ?_
      have e1 : cMu Ns p9 w9 = 1 := if_neg c5
      exact en_wi (fs, sc, cy, rw0, pr0) hx hb hr hlocks hS ⟨fun q => absurd (e1.symm.trans q) (by decide), by rw [stN_n e1 (by decide)]; exact hFS⟩ (by rw [stN_n e1 (by decide), e1]; exact ⟨h_o, h_x, h_y, h_row, h_products⟩) dX12_multiplier_50
