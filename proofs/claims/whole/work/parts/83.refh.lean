set_option maxRecDepth 20000 in
theorem inX12_findsTimes_12 : ∀ w ∈ u_ws RX12 TX12 23, w ∈ wsX12_findsTimes := by decide +kernel
set_option maxHeartbeats 4000000 in
set_option maxRecDepth 100000 in
/-- findsTimes -/
theorem c_X12_findsTimes (l : Launch) (G : GG) (a : Nat → Nat) (ha : Inj a) (cy th : Int32) (Ns : Nat → NT) (z : Nat) (fs sc : FN) (dl : Nat → Nat) (t0 : FN) (hz : z < 4) (hN : WF (Ns z)) (hFS : FS Ns fs sc) (hd : DL dl)  : Met l yX12_findsTimes wsX12_findsTimes ({ frames := 0, cells := 0, slots := 0, locals := 0 } : Room) (PcB G [.ref (a 93), .int (nI z)] (fun H => PP G (modO a cy th) H ∧ PP G (sixW G a Ns fs sc) H ∧ PP G (ar1 G a 102 4 (fun z => nI (dl z))) H ∧ PP G (ar1 G a 105 120 t0) H)) (QI (fun (r : Int32) (u : FN) => r = nI (mxT (Ns z) dl (nG (Ns z))) ∧ ∀ q, q < nG (Ns z) → u q = nI (tm (Ns z) dl q)) (fun u H => PP G (ar1 G a 105 120 u) H) (rng a 105 1)) 0 0 (rng a 105 1) := by
  refine Met.ofW (cc := cX12_findsTimes) (maxL := 7) (ret := (some .int)) (by decide) rfl ?_
  intro p e s m args below meth c s₁ B hml hv
  obtain ⟨rfl, hB, hK, hNW⟩ := hv
  have hx := B.exec
  have hb := B.bytes
  have hr := B.returns
  have hts := atoms_spec (ws := wsX12_findsTimes) B.pre
  have hown : s.vm.findClass RX12 = some m.cls := findClass_of_methodNamed B.named
  have hlocks := B.notSynchronized
  have FX : CallFix p m c cX12_findsTimes 7 s ([.ref (a 93), .int (nI z)] : List Value).toArray wsX12_findsTimes RX12 := ⟨hx, hb, hml, hown, hts⟩
  have hl := lv_entry ([.ref (a 93), .int (nI z)]) (n := 7) (Nat.le_of_ble_eq_true rfl)
  rw [lg_entry_eq]
  generalize (lg_sl ([.ref (a 93), .int (nI z)]) ++ List.replicate (7 - (lg_sl ([.ref (a 93), .int (nI z)])).length) Slot.unset).toArray = ls at hl ⊢
  have hl : lv_has ls 7 [(0, .ref (a 93)), (1, .int (nI z))] := hl
  obtain ⟨h_o, h_x, h_delay, h_times⟩ := hB
  have hS : va_S (rng a 105 1) s.heap s.heap [] := va_S.rf
  have hg9 := hN.g
  have ho9 := hN.o
  have hi9 := hN.2.1
  refine lv_iconst (v := nI 0) hx hb dX12_findsTimes_0 (by decide) ?_
  refine lv_istore_n (lv' := [(2, .int (nI 0)), (0, .ref (a 93)), (1, .int (nI z))]) hx hb dX12_findsTimes_1 rfl hl (by decide) rfl (fun ls hl => ?_)
  refine lv_iconst (v := nI 0) hx hb dX12_findsTimes_2 (by decide) ?_
  refine lv_istore_n (lv' := [(3, .int (nI 0)), (2, .int (nI 0)), (0, .ref (a 93)), (1, .int (nI z))]) hx hb dX12_findsTimes_3 rfl hl (by decide) rfl (fun ls hl => ?_)
  refine lv_loop2 4 (fun (k : Nat) (t : FN) => nG (Ns z) - k) (fun (k : Nat) (t : FN) (H : Heap) (locs : List Loc) (ls : Array Slot) => (PP G (ar1 G a 105 120 t) H) ∧ (va_S (rng a 105 1) s.heap H locs) ∧ (lv_has ls 7 [(0, .ref (a 93)), (1, .int (nI z)), (2, .int (nI (mxT (Ns z) dl k))), (3, .int (nI k))]) ∧ (k ≤ nG (Ns z)) ∧ (∀ r, r < k → t r = nI (tm (Ns z) dl r))) (fun _ _ => []) (fun k t H locs ls hI ih => ?_) 0 t0 ⟨h_times, hS, lv_sub hl [2, 3, 1, 0] rfl, by omega, fun r h => absurd h (Nat.not_lt_zero r)⟩ rfl
  obtain ⟨h_times, hS, hl, hk, hti⟩ := hI
  have ih1 := @ih
  clear ih
  refine lv_iload_n hx hb dX12_findsTimes_4 rfl (lv_at hl 3 rfl) ?_
  refine lv_aload_n hx hb dX12_findsTimes_5 rfl (lv_at hl 0 rfl) ?_
  refine va_get (D := G.1) (ci := 12) (v := .ref (a 98)) (C := RX12) (T := TX12) (N := 23) hx hb hts inX12_findsTimes_12 hown hK (ro hS h_o (dj_cons (rng_no ha (by omega)) (dj_nil))) 0 rfl rfl 4 (by decide) (hts (.fieldLink RX12 22 "GateLedgerModel" "many" "[I") (List.mem_of_getElem? (i := 1) (by decide +kernel))) (fun _ h9 => h9) rfl dX12_findsTimes_6 ?_
  refine lv_iload_n hx hb dX12_findsTimes_9 rfl (lv_at hl 1 rfl) ?_
  refine pp_iald hx hb hK (ro hS h_x (dj_cons (rng_no ha (by omega)) (dj_cons (rng_no ha (by omega)) (dj_cons (rng_no ha (by omega)) (dj_cons (rng_no ha (by omega)) (dj_cons (rng_no ha (by omega)) (dj_cons (rng_no ha (by omega)) (dj_nil)))))))) 4 rfl (vp_in_nI (by omega) (by omega)) dX12_findsTimes_10 ?_
  refine lv_as (congrArg (MF Ns) (nI_clamp (by omega))) ?_
  refine lv_as (y := nI (nG (Ns z))) rfl ?_
  refine lv_icmp_ge (tgt := 128) hx hb dX12_findsTimes_11 (by decide) (fun c11 => ?_) (fun c11 => ?_)
  · skip
    have c11 := cv_le (by omega) (by omega) c11
    have ek : k = nG (Ns z) := by omega
    refine lv_iload_n hx hb dX12_findsTimes_128 rfl (lv_at hl 2 rfl) ?_
    exact en_wi t hx hb hr hlocks hS ⟨by rw [ek], fun r h => hti r (by omega)⟩ h_times dX12_findsTimes_129
  · skip
    have c11 := cv_nle (by omega) (by omega) c11
    have hk4 := hN.k c11
    have htl := tm_lt hN hd c11
    have hml := mxT_le hN hd k hk
    refine lv_bipush (v := nI 120) hx hb dX12_findsTimes_14 (by decide) ?_
    refine lv_iload_n hx hb dX12_findsTimes_16 rfl (lv_at hl 1 rfl) ?_
    refine lv_imul hx hb dX12_findsTimes_17 ?_
    refine lv_as (pk_mul _ _) ?_
    refine lv_iload_n hx hb dX12_findsTimes_18 rfl (lv_at hl 3 rfl) ?_
    refine lv_iadd hx hb dX12_findsTimes_19 ?_
    refine lv_as (nI_add _ _) ?_
    refine lv_istore (lv' := [(4, .int (nI ((120 * z) + k))), (0, .ref (a 93)), (1, .int (nI z)), (2, .int (nI (mxT (Ns z) dl k))), (3, .int (nI k))]) hx hb dX12_findsTimes_20 hl (by decide) rfl (fun ls hl => ?_)
    refine lv_aload_n hx hb dX12_findsTimes_22 rfl (lv_at hl 1 rfl) ?_
    refine va_get (D := G.1) (ci := 12) (v := .ref (a 105)) (C := RX12) (T := TX12) (N := 23) hx hb hts inX12_findsTimes_12 hown hK (ro hS h_o (dj_cons (rng_no ha (by omega)) (dj_nil))) 0 rfl rfl 11 (by decide) (hts (.fieldLink RX12 43 "GateLedgerModel" "times" "[I") (List.mem_of_getElem? (i := 2) (by decide +kernel))) (fun _ h9 => h9) rfl dX12_findsTimes_23 ?_
    refine lv_iload_n hx hb dX12_findsTimes_26 rfl (lv_at hl 4 rfl) ?_
    refine lv_iconst (v := nI 0) hx hb dX12_findsTimes_27 (by decide) ?_
    refine pp_iast hx hb hK h_times hS (rng_in (by omega)) (vp_in_nI (by omega) (by omega)) dX12_findsTimes_28 (fun H locs hP9 hk2 _ hS => ?_)
    rw [nI_clamp (by omega)] at hP9
    have h_times : PP G (ar1 G a 105 120 (upd t k (nI 0))) H := hP9
    refine lv_aload_n hx hb dX12_findsTimes_29 rfl (lv_at hl 1 rfl) ?_
    refine va_get (D := G.1) (ci := 12) (v := .ref (a 94)) (C := RX12) (T := TX12) (N := 23) hx hb hts inX12_findsTimes_12 hown hK (ro hS h_o (dj_cons (rng_no ha (by omega)) (dj_nil))) 0 rfl rfl 0 (by decide) (hts (.fieldLink RX12 7 "GateLedgerModel" "kind" "[I") (List.mem_of_getElem? (i := 3) (by decide +kernel))) (fun _ h9 => h9) rfl dX12_findsTimes_30 ?_
    refine lv_iload hx hb dX12_findsTimes_33 (lv_at hl 0 rfl) ?_
    refine pp_iald hx hb hK (ro hS h_x (dj_cons (rng_no ha (by omega)) (dj_cons (rng_no ha (by omega)) (dj_cons (rng_no ha (by omega)) (dj_cons (rng_no ha (by omega)) (dj_cons (rng_no ha (by omega)) (dj_cons (rng_no ha (by omega)) (dj_nil)))))))) 0 rfl (vp_in_nI (by omega) (by omega)) dX12_findsTimes_35 ?_
    refine lv_as (congrArg (KF Ns) (nI_clamp (by omega))) ?_
    refine lv_as (y := nI (nK (Ns z) k)) (KF_at (by omega)) ?_
    refine lv_iconst (v := nI 4) hx hb dX12_findsTimes_36 (by decide) ?_
    refine lv_icmp_eq (tgt := 101) hx hb dX12_findsTimes_37 (by decide) (fun c37 => ?_) (fun c37 => ?_)
    · skip
      have c37 := cv_eq (by omega) (by omega) c37
      have htk : (upd t k (nI 0)) k = nI (tm (Ns z) dl k) := pk_us.trans (congrArg nI (tm_in c37).symm)
      refine lv_aload_n hx hb dX12_findsTimes_101 rfl (lv_at hl 1 rfl) ?_
      refine va_get (D := G.1) (ci := 12) (v := .ref (a 105)) (C := RX12) (T := TX12) (N := 23) hx hb hts inX12_findsTimes_12 hown hK (ro hS h_o (dj_cons (rng_no ha (by omega)) (dj_nil))) 0 rfl rfl 11 (by decide) (hts (.fieldLink RX12 43 "GateLedgerModel" "times" "[I") (List.mem_of_getElem? (i := 2) (by decide +kernel))) (fun _ h9 => h9) rfl dX12_findsTimes_102 ?_
      refine lv_iload_n hx hb dX12_findsTimes_105 rfl (lv_at hl 4 rfl) ?_
      refine pp_iald hx hb hK h_times 0 rfl (vp_in_nI (by omega) (by omega)) dX12_findsTimes_106 ?_
      refine lv_as (congrArg (upd t k (nI 0)) (nI_clamp (by omega))) ?_
      refine lv_as (y := nI (tm (Ns z) dl k)) htk ?_
      refine lv_iload_n hx hb dX12_findsTimes_107 rfl (lv_at hl 3 rfl) ?_
      refine lv_icmp_le (tgt := 120) hx hb dX12_findsTimes_108 (by decide) (fun c108 => ?_) (fun c108 => ?_)
      · skip
        have c108 := cv_le (by omega) (by omega) c108
        refine lv_iload_n hx hb dX12_findsTimes_120 rfl (lv_at hl 3 rfl) ?_
        refine lv_istore_n (lv' := [(2, .int (nI (mxT (Ns z) dl k))), (4, .int (nI ((120 * z) + k))), (0, .ref (a 93)), (1, .int (nI z)), (3, .int (nI k))]) hx hb dX12_findsTimes_121 rfl hl (by decide) rfl (fun ls hl => ?_)
        refine lv_iinc (v := nI (k + 1)) (lv' := [(3, .int (nI (k + 1))), (2, .int (nI (mxT (Ns z) dl k))), (4, .int (nI ((120 * z) + k))), (0, .ref (a 93)), (1, .int (nI z))]) hx hb dX12_findsTimes_122 hl (k := 4) rfl (by first | exact nI_add _ 1 | decide) (by decide) rfl (fun ls hl => ?_)
        refine lv_goto (tgt := 4) hx hb dX12_findsTimes_125 (by decide) ?_
        exact ih1 (k + 1) (upd t k (nI 0)) _ _ _ ⟨h_times, hS, (by rw [show mxT (Ns z) dl (k + 1) = mxT (Ns z) dl k from (by show max _ _ = _; omega)]; exact lv_sub hl [3, 4, 1, 0] rfl), by omega, fun r h => by by_cases e : r = k; rw [e]; exact htk; rw [pk_un e]; exact hti r (by omega)⟩ (by show nG (Ns z) - (k + 1) < nG (Ns z) - k; omega)
      · skip
        have c108 := cv_nle (by omega) (by omega) c108
        refine lv_aload_n hx hb dX12_findsTimes_111 rfl (lv_at hl 1 rfl) ?_
        refine va_get (D := G.1) (ci := 12) (v := .ref (a 105)) (C := RX12) (T := TX12) (N := 23) hx hb hts inX12_findsTimes_12 hown hK (ro hS h_o (dj_cons (rng_no ha (by omega)) (dj_nil))) 0 rfl rfl 11 (by decide) (hts (.fieldLink RX12 43 "GateLedgerModel" "times" "[I") (List.mem_of_getElem? (i := 2) (by decide +kernel))) (fun _ h9 => h9) rfl dX12_findsTimes_112 ?_
        refine lv_iload_n hx hb dX12_findsTimes_115 rfl (lv_at hl 4 rfl) ?_
        refine pp_iald hx hb hK h_times 0 rfl (vp_in_nI (by omega) (by omega)) dX12_findsTimes_116 ?_
        refine lv_as (congrArg (upd t k (nI 0)) (nI_clamp (by omega))) ?_
        refine lv_as (y := nI (tm (Ns z) dl k)) htk ?_
        refine lv_goto (tgt := 121) hx hb dX12_findsTimes_117 (by decide) ?_
        refine lv_istore_n (lv' := [(2, .int (nI (tm (Ns z) dl k))), (4, .int (nI ((120 * z) + k))), (0, .ref (a 93)), (1, .int (nI z)), (3, .int (nI k))]) hx hb dX12_findsTimes_121 rfl hl (by decide) rfl (fun ls hl => ?_)
        refine lv_iinc (v := nI (k + 1)) (lv' := [(3, .int (nI (k + 1))), (2, .int (nI (tm (Ns z) dl k))), (4, .int (nI ((120 * z) + k))), (0, .ref (a 93)), (1, .int (nI z))]) hx hb dX12_findsTimes_122 hl (k := 4) rfl (by first | exact nI_add _ 1 | decide) (by decide) rfl (fun ls hl => ?_)
        refine lv_goto (tgt := 4) hx hb dX12_findsTimes_125 (by decide) ?_
        exact ih1 (k + 1) (upd t k (nI 0)) _ _ _ ⟨h_times, hS, (by rw [show mxT (Ns z) dl (k + 1) = tm (Ns z) dl k from (by show max _ _ = _; omega)]; exact lv_sub hl [3, 4, 1, 0] rfl), by omega, fun r h => by by_cases e : r = k; rw [e]; exact htk; rw [pk_un e]; exact hti r (by omega)⟩ (by show nG (Ns z) - (k + 1) < nG (Ns z) - k; omega)
    · skip
      have c37 := cv_ne (by omega) (by omega) c37
      have hfs := hN.fs c11 c37
      have hdk := hd (nK (Ns z) k) (by omega)
      have ht1 := tm_lt hN hd (k := nF (Ns z) k) (by omega)
      have ht2 := tm_lt hN hd (k := nS (Ns z) k) (by omega)
      have hte := tm_gt (dl := dl) hN c11 c37
      refine lv_aload_n hx hb dX12_findsTimes_40 rfl (lv_at hl 1 rfl) ?_
      refine va_get (D := G.1) (ci := 12) (v := .ref (a 105)) (C := RX12) (T := TX12) (N := 23) hx hb hts inX12_findsTimes_12 hown hK (ro hS h_o (dj_cons (rng_no ha (by omega)) (dj_nil))) 0 rfl rfl 11 (by decide) (hts (.fieldLink RX12 43 "GateLedgerModel" "times" "[I") (List.mem_of_getElem? (i := 2) (by decide +kernel))) (fun _ h9 => h9) rfl dX12_findsTimes_41 ?_
      refine lv_aload_n hx hb dX12_findsTimes_44 rfl (lv_at hl 1 rfl) ?_
      refine va_get (D := G.1) (ci := 12) (v := .ref (a 95)) (C := RX12) (T := TX12) (N := 23) hx hb hts inX12_findsTimes_12 hown hK (ro hS h_o (dj_cons (rng_no ha (by omega)) (dj_nil))) 0 rfl rfl 1 (by decide) (hts (.fieldLink RX12 13 "GateLedgerModel" "first" "[I") (List.mem_of_getElem? (i := 4) (by decide +kernel))) (fun _ h9 => h9) rfl dX12_findsTimes_45 ?_
      refine lv_iload hx hb dX12_findsTimes_48 (lv_at hl 0 rfl) ?_
      refine pp_iald hx hb hK (ro hS h_x (dj_cons (rng_no ha (by omega)) (dj_cons (rng_no ha (by omega)) (dj_cons (rng_no ha (by omega)) (dj_cons (rng_no ha (by omega)) (dj_cons (rng_no ha (by omega)) (dj_cons (rng_no ha (by omega)) (dj_nil)))))))) 1 rfl (vp_in_nI (by omega) (by omega)) dX12_findsTimes_50 ?_
      refine lv_as (congrArg fs (nI_clamp (by omega))) ?_
      refine lv_as (y := nI (nF (Ns z) k)) ((hFS z hz k (by omega) c11 c37).1) ?_
      refine pp_iald hx hb hK h_times 0 rfl (vp_in_nI (by omega) (by omega)) dX12_findsTimes_51 ?_
      refine lv_as (congrArg (upd t k (nI 0)) (nI_clamp (by omega))) ?_
      refine lv_as (y := nI (tm (Ns z) dl (nF (Ns z) k))) ((pk_un (by omega)).trans (hti _ hfs.1)) ?_
      refine lv_istore (lv' := [(5, .int (nI (tm (Ns z) dl (nF (Ns z) k)))), (4, .int (nI ((120 * z) + k))), (0, .ref (a 93)), (1, .int (nI z)), (2, .int (nI (mxT (Ns z) dl k))), (3, .int (nI k))]) hx hb dX12_findsTimes_52 hl (by decide) rfl (fun ls hl => ?_)
      refine lv_aload_n hx hb dX12_findsTimes_54 rfl (lv_at hl 2 rfl) ?_
      refine va_get (D := G.1) (ci := 12) (v := .ref (a 105)) (C := RX12) (T := TX12) (N := 23) hx hb hts inX12_findsTimes_12 hown hK (ro hS h_o (dj_cons (rng_no ha (by omega)) (dj_nil))) 0 rfl rfl 11 (by decide) (hts (.fieldLink RX12 43 "GateLedgerModel" "times" "[I") (List.mem_of_getElem? (i := 2) (by decide +kernel))) (fun _ h9 => h9) rfl dX12_findsTimes_55 ?_
      refine lv_aload_n hx hb dX12_findsTimes_58 rfl (lv_at hl 2 rfl) ?_
      refine va_get (D := G.1) (ci := 12) (v := .ref (a 96)) (C := RX12) (T := TX12) (N := 23) hx hb hts inX12_findsTimes_12 hown hK (ro hS h_o (dj_cons (rng_no ha (by omega)) (dj_nil))) 0 rfl rfl 2 (by decide) (hts (.fieldLink RX12 16 "GateLedgerModel" "second" "[I") (List.mem_of_getElem? (i := 5) (by decide +kernel))) (fun _ h9 => h9) rfl dX12_findsTimes_59 ?_
      refine lv_iload hx hb dX12_findsTimes_62 (lv_at hl 1 rfl) ?_
      refine pp_iald hx hb hK (ro hS h_x (dj_cons (rng_no ha (by omega)) (dj_cons (rng_no ha (by omega)) (dj_cons (rng_no ha (by omega)) (dj_cons (rng_no ha (by omega)) (dj_cons (rng_no ha (by omega)) (dj_cons (rng_no ha (by omega)) (dj_nil)))))))) 2 rfl (vp_in_nI (by omega) (by omega)) dX12_findsTimes_64 ?_
      refine lv_as (congrArg sc (nI_clamp (by omega))) ?_
      refine lv_as (y := nI (nS (Ns z) k)) ((hFS z hz k (by omega) c11 c37).2) ?_
      refine pp_iald hx hb hK h_times 0 rfl (vp_in_nI (by omega) (by omega)) dX12_findsTimes_65 ?_
      refine lv_as (congrArg (upd t k (nI 0)) (nI_clamp (by omega))) ?_
      refine lv_as (y := nI (tm (Ns z) dl (nS (Ns z) k))) ((pk_un (by omega)).trans (hti _ hfs.2)) ?_
      refine lv_istore (lv' := [(6, .int (nI (tm (Ns z) dl (nS (Ns z) k)))), (5, .int (nI (tm (Ns z) dl (nF (Ns z) k)))), (4, .int (nI ((120 * z) + k))), (0, .ref (a 93)), (1, .int (nI z)), (2, .int (nI (mxT (Ns z) dl k))), (3, .int (nI k))]) hx hb dX12_findsTimes_66 hl (by decide) rfl (fun ls hl => ?_)
      refine lv_aload_n hx hb dX12_findsTimes_68 rfl (lv_at hl 3 rfl) ?_
      refine va_get (D := G.1) (ci := 12) (v := .ref (a 105)) (C := RX12) (T := TX12) (N := 23) hx hb hts inX12_findsTimes_12 hown hK (ro hS h_o (dj_cons (rng_no ha (by omega)) (dj_nil))) 0 rfl rfl 11 (by decide) (hts (.fieldLink RX12 43 "GateLedgerModel" "times" "[I") (List.mem_of_getElem? (i := 2) (by decide +kernel))) (fun _ h9 => h9) rfl dX12_findsTimes_69 ?_
      refine lv_iload_n hx hb dX12_findsTimes_72 rfl (lv_at hl 6 rfl) ?_
      refine lv_aload_n hx hb dX12_findsTimes_73 rfl (lv_at hl 3 rfl) ?_
      refine va_get (D := G.1) (ci := 12) (v := .ref (a 102)) (C := RX12) (T := TX12) (N := 23) hx hb hts inX12_findsTimes_12 hown hK (ro hS h_o (dj_cons (rng_no ha (by omega)) (dj_nil))) 0 rfl rfl 8 (by decide) (hts (.fieldLink RX12 34 "GateLedgerModel" "delay" "[I") (List.mem_of_getElem? (i := 6) (by decide +kernel))) (fun _ h9 => h9) rfl dX12_findsTimes_74 ?_
      refine lv_aload_n hx hb dX12_findsTimes_77 rfl (lv_at hl 3 rfl) ?_
      refine va_get (D := G.1) (ci := 12) (v := .ref (a 94)) (C := RX12) (T := TX12) (N := 23) hx hb hts inX12_findsTimes_12 hown hK (ro hS h_o (dj_cons (rng_no ha (by omega)) (dj_nil))) 0 rfl rfl 0 (by decide) (hts (.fieldLink RX12 7 "GateLedgerModel" "kind" "[I") (List.mem_of_getElem? (i := 3) (by decide +kernel))) (fun _ h9 => h9) rfl dX12_findsTimes_78 ?_
      refine lv_iload hx hb dX12_findsTimes_81 (lv_at hl 2 rfl) ?_
      refine pp_iald hx hb hK (ro hS h_x (dj_cons (rng_no ha (by omega)) (dj_cons (rng_no ha (by omega)) (dj_cons (rng_no ha (by omega)) (dj_cons (rng_no ha (by omega)) (dj_cons (rng_no ha (by omega)) (dj_cons (rng_no ha (by omega)) (dj_nil)))))))) 0 rfl (vp_in_nI (by omega) (by omega)) dX12_findsTimes_83 ?_
      refine lv_as (congrArg (KF Ns) (nI_clamp (by omega))) ?_
      refine lv_as (y := nI (nK (Ns z) k)) (KF_at (by omega)) ?_
      refine pp_iald hx hb hK (ro hS h_delay (dj_cons (rng_no ha (by omega)) (dj_nil))) 0 rfl (vp_in_nI (by omega) (by omega)) dX12_findsTimes_84 ?_
      refine lv_as (congrArg (fun z => nI (dl z)) (nI_clamp (by omega))) ?_
      refine lv_st (st' := [.int (nI (dl (nK (Ns z) k))), .int (nI k), .ref (a 105)]) rfl ?_
      refine lv_iload hx hb dX12_findsTimes_85 (lv_at hl 1 rfl) ?_
      refine lv_iload hx hb dX12_findsTimes_87 (lv_at hl 0 rfl) ?_
      refine lv_icmp_le (tgt := 97) hx hb dX12_findsTimes_89 (by decide) (fun c89 => ?_) (fun c89 => ?_)
      · skip
        have c89 := cv_le (by omega) (by omega) c89
        refine lv_iload hx hb dX12_findsTimes_97 (lv_at hl 0 rfl) ?_
        refine lv_iadd hx hb dX12_findsTimes_99 ?_
        refine lv_as (nI_add _ _) ?_
        refine pp_iast hx hb hK h_times hS (rng_in (by omega)) (vp_in_nI (by omega) (by omega)) dX12_findsTimes_100 (fun H locs hP9 hk3 _ hS => ?_)
        rw [nI_clamp (by omega)] at hP9
        have h_times : PP G (ar1 G a 105 120 (upd (upd t k (nI 0)) k (nI ((dl (nK (Ns z) k)) + (tm (Ns z) dl (nS (Ns z) k)))))) H := hP9
        have htk : (upd (upd t k (nI 0)) k (nI ((dl (nK (Ns z) k)) + (tm (Ns z) dl (nS (Ns z) k))))) k = nI (tm (Ns z) dl k) := pk_us.trans (congrArg nI (by rw [hte]; omega))
        refine lv_aload_n hx hb dX12_findsTimes_101 rfl (lv_at hl 3 rfl) ?_
        refine va_get (D := G.1) (ci := 12) (v := .ref (a 105)) (C := RX12) (T := TX12) (N := 23) hx hb hts inX12_findsTimes_12 hown hK (ro hS h_o (dj_cons (rng_no ha (by omega)) (dj_nil))) 0 rfl rfl 11 (by decide) (hts (.fieldLink RX12 43 "GateLedgerModel" "times" "[I") (List.mem_of_getElem? (i := 2) (by decide +kernel))) (fun _ h9 => h9) rfl dX12_findsTimes_102 ?_
        refine lv_iload_n hx hb dX12_findsTimes_105 rfl (lv_at hl 6 rfl) ?_
        refine pp_iald hx hb hK h_times 0 rfl (vp_in_nI (by omega) (by omega)) dX12_findsTimes_106 ?_
        refine lv_as (congrArg (upd (upd t k (nI 0)) k (nI ((dl (nK (Ns z) k)) + (tm (Ns z) dl (nS (Ns z) k))))) (nI_clamp (by omega))) ?_
        refine lv_as (y := nI (tm (Ns z) dl k)) htk ?_
        refine lv_iload_n hx hb dX12_findsTimes_107 rfl (lv_at hl 5 rfl) ?_
        refine lv_icmp_le (tgt := 120) hx hb dX12_findsTimes_108 (by decide) (fun c108 => ?_) (fun c108 => ?_)
        · skip
          have c108 := cv_le (by omega) (by omega) c108
          refine lv_iload_n hx hb dX12_findsTimes_120 rfl (lv_at hl 5 rfl) ?_
          refine lv_istore_n (lv' := [(2, .int (nI (mxT (Ns z) dl k))), (6, .int (nI (tm (Ns z) dl (nS (Ns z) k)))), (5, .int (nI (tm (Ns z) dl (nF (Ns z) k)))), (4, .int (nI ((120 * z) + k))), (0, .ref (a 93)), (1, .int (nI z)), (3, .int (nI k))]) hx hb dX12_findsTimes_121 rfl hl (by decide) rfl (fun ls hl => ?_)
          refine lv_iinc (v := nI (k + 1)) (lv' := [(3, .int (nI (k + 1))), (2, .int (nI (mxT (Ns z) dl k))), (6, .int (nI (tm (Ns z) dl (nS (Ns z) k)))), (5, .int (nI (tm (Ns z) dl (nF (Ns z) k)))), (4, .int (nI ((120 * z) + k))), (0, .ref (a 93)), (1, .int (nI z))]) hx hb dX12_findsTimes_122 hl (k := 6) rfl (by first | exact nI_add _ 1 | decide) (by decide) rfl (fun ls hl => ?_)
          refine lv_goto (tgt := 4) hx hb dX12_findsTimes_125 (by decide) ?_
          exact ih1 (k + 1) (upd (upd t k (nI 0)) k (nI ((dl (nK (Ns z) k)) + (tm (Ns z) dl (nS (Ns z) k))))) _ _ _ ⟨h_times, hS, (by rw [show mxT (Ns z) dl (k + 1) = mxT (Ns z) dl k from (by show max _ _ = _; omega)]; exact lv_sub hl [5, 6, 1, 0] rfl), by omega, fun r h => by by_cases e : r = k; rw [e]; exact htk; rw [pk_un e, pk_un e]; exact hti r (by omega)⟩ (by show nG (Ns z) - (k + 1) < nG (Ns z) - k; omega)
        · skip
          have c108 := cv_nle (by omega) (by omega) c108
          refine lv_aload_n hx hb dX12_findsTimes_111 rfl (lv_at hl 3 rfl) ?_
          refine va_get (D := G.1) (ci := 12) (v := .ref (a 105)) (C := RX12) (T := TX12) (N := 23) hx hb hts inX12_findsTimes_12 hown hK (ro hS h_o (dj_cons (rng_no ha (by omega)) (dj_nil))) 0 rfl rfl 11 (by decide) (hts (.fieldLink RX12 43 "GateLedgerModel" "times" "[I") (List.mem_of_getElem? (i := 2) (by decide +kernel))) (fun _ h9 => h9) rfl dX12_findsTimes_112 ?_
          refine lv_iload_n hx hb dX12_findsTimes_115 rfl (lv_at hl 6 rfl) ?_
          refine pp_iald hx hb hK h_times 0 rfl (vp_in_nI (by omega) (by omega)) dX12_findsTimes_116 ?_
          refine lv_as (congrArg (upd (upd t k (nI 0)) k (nI ((dl (nK (Ns z) k)) + (tm (Ns z) dl (nS (Ns z) k))))) (nI_clamp (by omega))) ?_
          refine lv_as (y := nI (tm (Ns z) dl k)) htk ?_
          refine lv_goto (tgt := 121) hx hb dX12_findsTimes_117 (by decide) ?_
          refine lv_istore_n (lv' := [(2, .int (nI (tm (Ns z) dl k))), (6, .int (nI (tm (Ns z) dl (nS (Ns z) k)))), (5, .int (nI (tm (Ns z) dl (nF (Ns z) k)))), (4, .int (nI ((120 * z) + k))), (0, .ref (a 93)), (1, .int (nI z)), (3, .int (nI k))]) hx hb dX12_findsTimes_121 rfl hl (by decide) rfl (fun ls hl => ?_)
          refine lv_iinc (v := nI (k + 1)) (lv' := [(3, .int (nI (k + 1))), (2, .int (nI (tm (Ns z) dl k))), (6, .int (nI (tm (Ns z) dl (nS (Ns z) k)))), (5, .int (nI (tm (Ns z) dl (nF (Ns z) k)))), (4, .int (nI ((120 * z) + k))), (0, .ref (a 93)), (1, .int (nI z))]) hx hb dX12_findsTimes_122 hl (k := 6) rfl (by first | exact nI_add _ 1 | decide) (by decide) rfl (fun ls hl => ?_)
          refine lv_goto (tgt := 4) hx hb dX12_findsTimes_125 (by decide) ?_
          exact ih1 (k + 1) (upd (upd t k (nI 0)) k (nI ((dl (nK (Ns z) k)) + (tm (Ns z) dl (nS (Ns z) k))))) _ _ _ ⟨h_times, hS, (by rw [show mxT (Ns z) dl (k + 1) = tm (Ns z) dl k from (by show max _ _ = _; omega)]; exact lv_sub hl [5, 6, 1, 0] rfl), by omega, fun r h => by by_cases e : r = k; rw [e]; exact htk; rw [pk_un e, pk_un e]; exact hti r (by omega)⟩ (by show nG (Ns z) - (k + 1) < nG (Ns z) - k; omega)
      · skip
        have c89 := cv_nle (by omega) (by omega) c89
        refine lv_iload hx hb dX12_findsTimes_92 (lv_at hl 1 rfl) ?_
        refine lv_goto (tgt := 99) hx hb dX12_findsTimes_94 (by decide) ?_
        refine lv_iadd hx hb dX12_findsTimes_99 ?_
        refine lv_as (nI_add _ _) ?_
        refine pp_iast hx hb hK h_times hS (rng_in (by omega)) (vp_in_nI (by omega) (by omega)) dX12_findsTimes_100 (fun H locs hP9 hk4 _ hS => ?_)
        rw [nI_clamp (by omega)] at hP9
        have h_times : PP G (ar1 G a 105 120 (upd (upd t k (nI 0)) k (nI ((dl (nK (Ns z) k)) + (tm (Ns z) dl (nF (Ns z) k)))))) H := hP9
        have htk : (upd (upd t k (nI 0)) k (nI ((dl (nK (Ns z) k)) + (tm (Ns z) dl (nF (Ns z) k))))) k = nI (tm (Ns z) dl k) := pk_us.trans (congrArg nI (by rw [hte]; omega))
        refine lv_aload_n hx hb dX12_findsTimes_101 rfl (lv_at hl 3 rfl) ?_
        refine va_get (D := G.1) (ci := 12) (v := .ref (a 105)) (C := RX12) (T := TX12) (N := 23) hx hb hts inX12_findsTimes_12 hown hK (ro hS h_o (dj_cons (rng_no ha (by omega)) (dj_nil))) 0 rfl rfl 11 (by decide) (hts (.fieldLink RX12 43 "GateLedgerModel" "times" "[I") (List.mem_of_getElem? (i := 2) (by decide +kernel))) (fun _ h9 => h9) rfl dX12_findsTimes_102 ?_
        refine lv_iload_n hx hb dX12_findsTimes_105 rfl (lv_at hl 6 rfl) ?_
        refine pp_iald hx hb hK h_times 0 rfl (vp_in_nI (by omega) (by omega)) dX12_findsTimes_106 ?_
        refine lv_as (congrArg (upd (upd t k (nI 0)) k (nI ((dl (nK (Ns z) k)) + (tm (Ns z) dl (nF (Ns z) k))))) (nI_clamp (by omega))) ?_
        refine lv_as (y := nI (tm (Ns z) dl k)) htk ?_
        refine lv_iload_n hx hb dX12_findsTimes_107 rfl (lv_at hl 5 rfl) ?_
        refine lv_icmp_le (tgt := 120) hx hb dX12_findsTimes_108 (by decide) (fun c108 => ?_) (fun c108 => ?_)
        · skip
          have c108 := cv_le (by omega) (by omega) c108
          refine lv_iload_n hx hb dX12_findsTimes_120 rfl (lv_at hl 5 rfl) ?_
          refine lv_istore_n (lv' := [(2, .int (nI (mxT (Ns z) dl k))), (6, .int (nI (tm (Ns z) dl (nS (Ns z) k)))), (5, .int (nI (tm (Ns z) dl (nF (Ns z) k)))), (4, .int (nI ((120 * z) + k))), (0, .ref (a 93)), (1, .int (nI z)), (3, .int (nI k))]) hx hb dX12_findsTimes_121 rfl hl (by decide) rfl (fun ls hl => ?_)
          refine lv_iinc (v := nI (k + 1)) (lv' := [(3, .int (nI (k + 1))), (2, .int (nI (mxT (Ns z) dl k))), (6, .int (nI (tm (Ns z) dl (nS (Ns z) k)))), (5, .int (nI (tm (Ns z) dl (nF (Ns z) k)))), (4, .int (nI ((120 * z) + k))), (0, .ref (a 93)), (1, .int (nI z))]) hx hb dX12_findsTimes_122 hl (k := 6) rfl (by first | exact nI_add _ 1 | decide) (by decide) rfl (fun ls hl => ?_)
          refine lv_goto (tgt := 4) hx hb dX12_findsTimes_125 (by decide) ?_
          exact ih1 (k + 1) (upd (upd t k (nI 0)) k (nI ((dl (nK (Ns z) k)) + (tm (Ns z) dl (nF (Ns z) k))))) _ _ _ ⟨h_times, hS, (by rw [show mxT (Ns z) dl (k + 1) = mxT (Ns z) dl k from (by show max _ _ = _; omega)]; exact lv_sub hl [5, 6, 1, 0] rfl), by omega, fun r h => by by_cases e : r = k; rw [e]; exact htk; rw [pk_un e, pk_un e]; exact hti r (by omega)⟩ (by show nG (Ns z) - (k + 1) < nG (Ns z) - k; omega)
        · skip
          have c108 := cv_nle (by omega) (by omega) c108
          refine lv_aload_n hx hb dX12_findsTimes_111 rfl (lv_at hl 3 rfl) ?_
          refine va_get (D := G.1) (ci := 12) (v := .ref (a 105)) (C := RX12) (T := TX12) (N := 23) hx hb hts inX12_findsTimes_12 hown hK (ro hS h_o (dj_cons (rng_no ha (by omega)) (dj_nil))) 0 rfl rfl 11 (by decide) (hts (.fieldLink RX12 43 "GateLedgerModel" "times" "[I") (List.mem_of_getElem? (i := 2) (by decide +kernel))) (fun _ h9 => h9) rfl dX12_findsTimes_112 ?_
          refine lv_iload_n hx hb dX12_findsTimes_115 rfl (lv_at hl 6 rfl) ?_
          refine pp_iald hx hb hK h_times 0 rfl (vp_in_nI (by omega) (by omega)) dX12_findsTimes_116 ?_
          refine lv_as (congrArg (upd (upd t k (nI 0)) k (nI ((dl (nK (Ns z) k)) + (tm (Ns z) dl (nF (Ns z) k))))) (nI_clamp (by omega))) ?_
          refine lv_as (y := nI (tm (Ns z) dl k)) htk ?_
          refine lv_goto (tgt := 121) hx hb dX12_findsTimes_117 (by decide) ?_
          refine lv_istore_n (lv' := [(2, .int (nI (tm (Ns z) dl k))), (6, .int (nI (tm (Ns z) dl (nS (Ns z) k)))), (5, .int (nI (tm (Ns z) dl (nF (Ns z) k)))), (4, .int (nI ((120 * z) + k))), (0, .ref (a 93)), (1, .int (nI z)), (3, .int (nI k))]) hx hb dX12_findsTimes_121 rfl hl (by decide) rfl (fun ls hl => ?_)
          refine lv_iinc (v := nI (k + 1)) (lv' := [(3, .int (nI (k + 1))), (2, .int (nI (tm (Ns z) dl k))), (6, .int (nI (tm (Ns z) dl (nS (Ns z) k)))), (5, .int (nI (tm (Ns z) dl (nF (Ns z) k)))), (4, .int (nI ((120 * z) + k))), (0, .ref (a 93)), (1, .int (nI z))]) hx hb dX12_findsTimes_122 hl (k := 6) rfl (by first | exact nI_add _ 1 | decide) (by decide) rfl (fun ls hl => ?_)
          refine lv_goto (tgt := 4) hx hb dX12_findsTimes_125 (by decide) ?_
          exact ih1 (k + 1) (upd (upd t k (nI 0)) k (nI ((dl (nK (Ns z) k)) + (tm (Ns z) dl (nF (Ns z) k))))) _ _ _ ⟨h_times, hS, (by rw [show mxT (Ns z) dl (k + 1) = tm (Ns z) dl k from (by show max _ _ = _; omega)]; exact lv_sub hl [5, 6, 1, 0] rfl), by omega, fun r h => by by_cases e : r = k; rw [e]; exact htk; rw [pk_un e, pk_un e]; exact hti r (by omega)⟩ (by show nG (Ns z) - (k + 1) < nG (Ns z) - k; omega)
set_option maxRecDepth 20000 in
theorem inX12_delayOf_12 : ∀ w ∈ u_ws RX12 TX12 23, w ∈ wsX12_delayOf := by decide +kernel
set_option maxHeartbeats 4000000 in
set_option maxRecDepth 100000 in
/-- delayOf -/
theorem c_X12_delayOf (l : Launch) (G : GG) (a : Nat → Nat) (ha : Inj a) (cy th : Int32) (Ns : Nat → NT) (z : Nat) (fs sc : FN) (dl : Nat → Nat) (t0 : FN) (hz : z < 4) (hN : WF (Ns z)) (hFS : FS Ns fs sc) (hd : DL dl)  : Met l yX12_delayOf wsX12_delayOf ({ frames := 1, cells := 0, slots := 0, locals := 26 } : Room) (PcB G [.ref (a 93), .int (nI z)] (fun H => PP G (modO a cy th) H ∧ PP G (sixW G a Ns fs sc) H ∧ PP G (twoW G a Ns) H ∧ PP G (ar1 G a 102 4 (fun z => nI (dl z))) H ∧ PP G (ar1 G a 105 120 t0) H)) (QI (fun (r : Int32) (u : FN) => r = nI (mxO (Ns z) (tm (Ns z) dl) (nO (Ns z))) ∧ ∀ q, q < nG (Ns z) → u q = nI (tm (Ns z) dl q)) (fun u H => PP G (ar1 G a 105 120 u) H) (rng a 105 1)) 0 0 (rng a 105 1) := by
  refine Met.ofW (cc := cX12_delayOf) (maxL := 5) (ret := (some .int)) (by decide) rfl ?_
  intro p e s m args below meth c s₁ B hml hv
  obtain ⟨rfl, hB, hK, hNW⟩ := hv
  have hx := B.exec
  have hb := B.bytes
  have hr := B.returns
  have hts := atoms_spec (ws := wsX12_delayOf) B.pre
  have hown : s.vm.findClass RX12 = some m.cls := findClass_of_methodNamed B.named
  have hlocks := B.notSynchronized
  have FX : CallFix p m c cX12_delayOf 5 s ([.ref (a 93), .int (nI z)] : List Value).toArray wsX12_delayOf RX12 := ⟨hx, hb, hml, hown, hts⟩
  have hl := lv_entry ([.ref (a 93), .int (nI z)]) (n := 5) (Nat.le_of_ble_eq_true rfl)
  rw [lg_entry_eq]
  generalize (lg_sl ([.ref (a 93), .int (nI z)]) ++ List.replicate (5 - (lg_sl ([.ref (a 93), .int (nI z)])).length) Slot.unset).toArray = ls at hl ⊢
  have hl : lv_has ls 5 [(0, .ref (a 93)), (1, .int (nI z))] := hl
  obtain ⟨h_o, h_x, h_y, h_delay, h_times⟩ := hB
  have hS : va_S (rng a 105 1) s.heap s.heap [] := va_S.rf
  have hg9 := hN.g
  have ho9 := hN.o
  have hi9 := hN.2.1
  refine lv_aload_n hx hb dX12_delayOf_0 rfl (lv_at hl 0 rfl) ?_
  refine lv_iload_n hx hb dX12_delayOf_1 rfl (lv_at hl 1 rfl) ?_
  refine wr_i (va_runV (As := [.int (nI z)]) (rest := []) FX (c_X12_findsTimes l G a ha cy th Ns z fs sc dl t0 hz hN hFS hd) (cwV 1 hts gX12_delayOf_X12_findsTimes rfl rfl rfl (by decide +kernel) ⟨Nat.le_of_ble_eq_true rfl, Nat.le_of_ble_eq_true rfl⟩) (preV hK hNW (⟨(ro hS h_o (dj_cons (rng_no ha (by omega)) (dj_nil))), (ro hS h_x (dj_cons (rng_no ha (by omega)) (dj_cons (rng_no ha (by omega)) (dj_cons (rng_no ha (by omega)) (dj_cons (rng_no ha (by omega)) (dj_cons (rng_no ha (by omega)) (dj_cons (rng_no ha (by omega)) (dj_nil)))))))), (ro hS h_delay (dj_cons (rng_no ha (by omega)) (dj_nil))), h_times⟩) (va_recv hK (ro hS h_o (dj_cons (rng_no ha (by omega)) (dj_nil))) (ci := 12) (q0 := 0) rfl rfl)) rfl rfl hl.1 rfl (lv_room (Nat.le_of_ble_eq_true rfl)) dX12_delayOf_2 ⟨Nat.le_of_ble_eq_true rfl, Nat.le_of_ble_eq_true rfl⟩) hS (rng_sub (by omega)) (fun rr u1 H locs ⟨er3, ht2⟩ hP9 hk4 hS => ?_)
  have h_times : PP G (ar1 G a 105 120 u1) H := hP9
  refine lv_as (y := nI (mxT (Ns z) dl (nG (Ns z)))) er3 ?_
  have htx := ht2
  refine lv_pop hx hb dX12_delayOf_5 rfl ?_
  refine lv_iconst (v := nI 0) hx hb dX12_delayOf_6 (by decide) ?_
  refine lv_istore_n (lv' := [(2, .int (nI 0)), (0, .ref (a 93)), (1, .int (nI z))]) hx hb dX12_delayOf_7 rfl hl (by decide) rfl (fun ls hl => ?_)
  refine lv_iconst (v := nI 0) hx hb dX12_delayOf_8 (by decide) ?_
  refine lv_istore_n (lv' := [(3, .int (nI 0)), (2, .int (nI 0)), (0, .ref (a 93)), (1, .int (nI z))]) hx hb dX12_delayOf_9 rfl hl (by decide) rfl (fun ls hl => ?_)
  refine lv_loop1 10 (fun (q : Nat) => nO (Ns z) - q) (fun (q : Nat) (H : Heap) (locs : List Loc) (ls : Array Slot) => (PP G (ar1 G a 105 120 u1) H) ∧ (va_S (rng a 105 1) s.heap H locs) ∧ (lv_has ls 5 [(0, .ref (a 93)), (1, .int (nI z)), (2, .int (nI (mxO (Ns z) (tm (Ns z) dl) q))), (3, .int (nI q))]) ∧ (q ≤ nO (Ns z))) (fun _ => []) (fun q H locs ls hI ih => ?_) 0 ⟨h_times, hS, lv_sub hl [2, 3, 1, 0] rfl, by omega⟩ rfl
  obtain ⟨h_times, hS, hl, hq⟩ := hI
  have ih6 := @ih
  clear ih
  refine lv_iload_n hx hb dX12_delayOf_10 rfl (lv_at hl 3 rfl) ?_
  refine lv_aload_n hx hb dX12_delayOf_11 rfl (lv_at hl 0 rfl) ?_
  refine va_get (D := G.1) (ci := 12) (v := .ref (a 101)) (C := RX12) (T := TX12) (N := 23) hx hb hts inX12_delayOf_12 hown hK (ro hS h_o (dj_cons (rng_no ha (by omega)) (dj_nil))) 0 rfl rfl 7 (by decide) (hts (.fieldLink RX12 31 "GateLedgerModel" "outMany" "[I") (List.mem_of_getElem? (i := 1) (by decide +kernel))) (fun _ h9 => h9) rfl dX12_delayOf_12 ?_
  refine lv_iload_n hx hb dX12_delayOf_15 rfl (lv_at hl 1 rfl) ?_
  refine pp_iald hx hb hK (ro hS h_y (dj_cons (rng_no ha (by omega)) (dj_cons (rng_no ha (by omega)) (dj_nil)))) 1 rfl (vp_in_nI (by omega) (by omega)) dX12_delayOf_16 ?_
  refine lv_as (congrArg (OF Ns) (nI_clamp (by omega))) ?_
  refine lv_as (y := nI (nO (Ns z))) rfl ?_
  refine lv_icmp_ge (tgt := 57) hx hb dX12_delayOf_17 (by decide) (fun c17 => ?_) (fun c17 => ?_)
  · skip
    have c17 := cv_le (by omega) (by omega) c17
    refine lv_iload_n hx hb dX12_delayOf_57 rfl (lv_at hl 2 rfl) ?_
    exact en_wi u1 hx hb hr hlocks hS ⟨by rw [show q = nO (Ns z) by omega], htx⟩ h_times dX12_delayOf_58
  · skip
    have c17 := cv_nle (by omega) (by omega) c17
    have hu9 := hN.u c17
    have htl := tm_lt hN hd hu9
    have hml := mxO_lt hN hd q hq
    refine lv_aload_n hx hb dX12_delayOf_20 rfl (lv_at hl 0 rfl) ?_
    refine va_get (D := G.1) (ci := 12) (v := .ref (a 105)) (C := RX12) (T := TX12) (N := 23) hx hb hts inX12_delayOf_12 hown hK (ro hS h_o (dj_cons (rng_no ha (by omega)) (dj_nil))) 0 rfl rfl 11 (by decide) (hts (.fieldLink RX12 43 "GateLedgerModel" "times" "[I") (List.mem_of_getElem? (i := 2) (by decide +kernel))) (fun _ h9 => h9) rfl dX12_delayOf_21 ?_
    refine lv_aload_n hx hb dX12_delayOf_24 rfl (lv_at hl 0 rfl) ?_
    refine va_get (D := G.1) (ci := 12) (v := .ref (a 100)) (C := RX12) (T := TX12) (N := 23) hx hb hts inX12_delayOf_12 hown hK (ro hS h_o (dj_cons (rng_no ha (by omega)) (dj_nil))) 0 rfl rfl 6 (by decide) (hts (.fieldLink RX12 28 "GateLedgerModel" "outs" "[I") (List.mem_of_getElem? (i := 3) (by decide +kernel))) (fun _ h9 => h9) rfl dX12_delayOf_25 ?_
    refine lv_bipush (v := nI 16) hx hb dX12_delayOf_28 (by decide) ?_
    refine lv_iload_n hx hb dX12_delayOf_30 rfl (lv_at hl 1 rfl) ?_
    refine lv_imul hx hb dX12_delayOf_31 ?_
    refine lv_as (pk_mul _ _) ?_
    refine lv_iload_n hx hb dX12_delayOf_32 rfl (lv_at hl 3 rfl) ?_
    refine lv_iadd hx hb dX12_delayOf_33 ?_
    refine lv_as (nI_add _ _) ?_
    refine pp_iald hx hb hK (ro hS h_y (dj_cons (rng_no ha (by omega)) (dj_cons (rng_no ha (by omega)) (dj_nil)))) 0 rfl (vp_in_nI (by omega) (by omega)) dX12_delayOf_34 ?_
    refine lv_as (congrArg (UF Ns) (nI_clamp (by omega))) ?_
    refine lv_as (y := nI (nU (Ns z) q)) (UF_at (by omega)) ?_
    refine pp_iald hx hb hK h_times 0 rfl (vp_in_nI (by omega) (by omega)) dX12_delayOf_35 ?_
    refine lv_as (congrArg u1 (nI_clamp (by omega))) ?_
    refine lv_as (y := nI (tm (Ns z) dl (nU (Ns z) q))) (htx _ hu9) ?_
    refine lv_istore (lv' := [(4, .int (nI (tm (Ns z) dl (nU (Ns z) q)))), (0, .ref (a 93)), (1, .int (nI z)), (2, .int (nI (mxO (Ns z) (tm (Ns z) dl) q))), (3, .int (nI q))]) hx hb dX12_delayOf_36 hl (by decide) rfl (fun ls hl => ?_)
    refine lv_iload hx hb dX12_delayOf_38 (lv_at hl 0 rfl) ?_
    refine lv_iload_n hx hb dX12_delayOf_40 rfl (lv_at hl 3 rfl) ?_
    refine lv_icmp_le (tgt := 49) hx hb dX12_delayOf_41 (by decide) (fun c41 => ?_) (fun c41 => ?_)
    · skip
      have c41 := cv_le (by omega) (by omega) c41
      refine lv_iload_n hx hb dX12_delayOf_49 rfl (lv_at hl 3 rfl) ?_
      refine lv_istore_n (lv' := [(2, .int (nI (mxO (Ns z) (tm (Ns z) dl) q))), (4, .int (nI (tm (Ns z) dl (nU (Ns z) q)))), (0, .ref (a 93)), (1, .int (nI z)), (3, .int (nI q))]) hx hb dX12_delayOf_50 rfl hl (by decide) rfl (fun ls hl => ?_)
      refine lv_iinc (v := nI (q + 1)) (lv' := [(3, .int (nI (q + 1))), (2, .int (nI (mxO (Ns z) (tm (Ns z) dl) q))), (4, .int (nI (tm (Ns z) dl (nU (Ns z) q)))), (0, .ref (a 93)), (1, .int (nI z))]) hx hb dX12_delayOf_51 hl (k := 4) rfl (by first | exact nI_add _ 1 | decide) (by decide) rfl (fun ls hl => ?_)
      refine lv_goto (tgt := 10) hx hb dX12_delayOf_54 (by decide) ?_
      exact ih6 (q + 1) _ _ _ ⟨h_times, hS, (by rw [show mxO (Ns z) (tm (Ns z) dl) (q + 1) = mxO (Ns z) (tm (Ns z) dl) q from (by show max _ _ = _; omega)]; exact lv_sub hl [3, 4, 1, 0] rfl), by omega⟩ (by show nO (Ns z) - (q + 1) < nO (Ns z) - q; omega)
    · skip
      have c41 := cv_nle (by omega) (by omega) c41
      refine lv_iload hx hb dX12_delayOf_44 (lv_at hl 0 rfl) ?_
      refine lv_goto (tgt := 50) hx hb dX12_delayOf_46 (by decide) ?_
      refine lv_istore_n (lv' := [(2, .int (nI (tm (Ns z) dl (nU (Ns z) q)))), (4, .int (nI (tm (Ns z) dl (nU (Ns z) q)))), (0, .ref (a 93)), (1, .int (nI z)), (3, .int (nI q))]) hx hb dX12_delayOf_50 rfl hl (by decide) rfl (fun ls hl => ?_)
      refine lv_iinc (v := nI (q + 1)) (lv' := [(3, .int (nI (q + 1))), (2, .int (nI (tm (Ns z) dl (nU (Ns z) q)))), (4, .int (nI (tm (Ns z) dl (nU (Ns z) q)))), (0, .ref (a 93)), (1, .int (nI z))]) hx hb dX12_delayOf_51 hl (k := 4) rfl (by first | exact nI_add _ 1 | decide) (by decide) rfl (fun ls hl => ?_)
      refine lv_goto (tgt := 10) hx hb dX12_delayOf_54 (by decide) ?_
      exact ih6 (q + 1) _ _ _ ⟨h_times, hS, (by rw [show mxO (Ns z) (tm (Ns z) dl) (q + 1) = tm (Ns z) dl (nU (Ns z) q) from (by show max _ _ = _; omega)]; exact lv_sub hl [3, 4, 1, 0] rfl), by omega⟩ (by show nO (Ns z) - (q + 1) < nO (Ns z) - q; omega)
set_option maxRecDepth 20000 in
theorem inX12_time_12 : ∀ w ∈ u_ws RX12 TX12 23, w ∈ wsX12_time := by decide +kernel
set_option maxHeartbeats 4000000 in
set_option maxRecDepth 100000 in
/-- time -/
theorem c_X12_time (l : Launch) (G : GG) (a : Nat → Nat) (ha : Inj a) (cy th : Int32) (Ns : Nat → NT) (fs sc : FN) (dl : Nat → Nat) (t0 : FN) (p9 g9 : Int32) (hW : ∀ z, z < 4 → WF (Ns z)) (hFS : FS Ns fs sc) (hd : DL dl)  : Met l yX12_time wsX12_time ({ frames := 3, cells := 0, slots := 0, locals := 64 } : Room) (PcB G [.ref (a 93), .int p9, .int g9] (fun H => PP G (modO a cy th) H ∧ PP G (sixW G a Ns fs sc) H ∧ PP G (ar1 G a 102 4 (fun z => nI (dl z))) H ∧ PP G (ar1 G a 105 120 t0) H)) (QI (fun (r : Int32) (u : FN) => (cTi Ns p9 g9 = 0 → r = nI (tm (Ns (ix p9)) dl (ix g9))) ∧ True) (fun u H => PP G (modO a cy (nI (cTi Ns p9 g9))) H ∧ PP G (ar1 G a 105 120 u) H) (orA (rng a 93 1) (rng a 105 1))) 0 0 (orA (rng a 93 1) (rng a 105 1)) := by
  refine Met.ofW (cc := cX12_time) (maxL := 3) (ret := (some .int)) (by decide) rfl ?_
  intro p e s m args below meth c s₁ B hml hv
  obtain ⟨rfl, hB, hK, hNW⟩ := hv
  have hx := B.exec
  have hb := B.bytes
  have hr := B.returns
  have hts := atoms_spec (ws := wsX12_time) B.pre
  have hown : s.vm.findClass RX12 = some m.cls := findClass_of_methodNamed B.named
  have hlocks := B.notSynchronized
  have FX : CallFix p m c cX12_time 3 s ([.ref (a 93), .int p9, .int g9] : List Value).toArray wsX12_time RX12 := ⟨hx, hb, hml, hown, hts⟩
  have hl := lv_entry ([.ref (a 93), .int p9, .int g9]) (n := 3) (Nat.le_of_ble_eq_true rfl)
  rw [lg_entry_eq]
  generalize (lg_sl ([.ref (a 93), .int p9, .int g9]) ++ List.replicate (3 - (lg_sl ([.ref (a 93), .int p9, .int g9])).length) Slot.unset).toArray = ls at hl ⊢
  have hl : lv_has ls 3 [(0, .ref (a 93)), (1, .int p9), (2, .int g9)] := hl
  obtain ⟨h_o, h_x, h_delay, h_times⟩ := hB
  have hS : va_S (orA (rng a 93 1) (rng a 105 1)) s.heap s.heap [] := va_S.rf
  refine lv_aload_n hx hb dX12_time_0 rfl (lv_at hl 0 rfl) ?_
  refine lv_aload_n hx hb dX12_time_1 rfl (lv_at hl 0 rfl) ?_
  refine lv_iload_n hx hb dX12_time_2 rfl (lv_at hl 1 rfl) ?_
  refine lv_iload_n hx hb dX12_time_3 rfl (lv_at hl 2 rfl) ?_
  refine ro_i (va_runV (As := [.int p9, .int g9]) (rest := [.ref (a 93)]) FX (c_X12_isGate l G a cy th Ns fs sc p9 g9 (fun z hz => (hW z hz).g)) (cwV 2 hts gX12_time_X12_isGate rfl rfl rfl (by decide +kernel) ⟨Nat.le_of_ble_eq_true rfl, Nat.le_of_ble_eq_true rfl⟩) (preV hK hNW (⟨h_o, (ro hS h_x (dj_cons (or_no (rng_no ha (by omega)) (rng_no ha (by omega))) (dj_cons (or_no (rng_no ha (by omega)) (rng_no ha (by omega))) (dj_cons (or_no (rng_no ha (by omega)) (rng_no ha (by omega))) (dj_cons (or_no (rng_no ha (by omega)) (rng_no ha (by omega))) (dj_cons (or_no (rng_no ha (by omega)) (rng_no ha (by omega))) (dj_cons (or_no (rng_no ha (by omega)) (rng_no ha (by omega))) (dj_nil))))))))⟩) (va_recv hK h_o (ci := 12) (q0 := 0) rfl rfl)) rfl rfl hl.1 rfl (lv_room (Nat.le_of_ble_eq_true rfl)) dX12_time_4 ⟨Nat.le_of_ble_eq_true rfl, Nat.le_of_ble_eq_true rfl⟩) ?_
  refine lv_if_eq (tgt := 14) hx hb dX12_time_7 (by decide) (fun c7 => ?_) (fun c7 => ?_)
  · skip
    have c7 := bI_0.mp c7
    refine lv_iconst (v := nI 1) hx hb dX12_time_14 (by decide) ?_
    refine pp_put (ci := 12) (v := .int (nI 1)) (ty := .int) (C := RX12) (T := TX12) (N := 23) hx hb hts inX12_time_12 tyX12 tyX12_ok nmX12 hown hK h_o hS (Or.inl (rng_in (by omega))) rfl 22 (by decide) (hts (.fieldLink RX12 73 "GateLedgerModel" "thrown" "I") (List.mem_of_getElem? (i := 1) (by decide +kernel))) (fun _ h9 => h9) rfl (by decide +kernel) rfl rfl (Nat.le_of_ble_eq_true rfl) dX12_time_15 (fun H locs hP9 hk1 _ hS => ?_)
    have h_o : PP G (modO a cy (nI 1)) H := hP9
    have h_times : PP G (ar1 G a 105 120 t0) H := kp hk1 h_times (dj_cons (ne_a ha (by omega)) (dj_nil))
    refine lv_aload_n hx hb dX12_time_18 rfl (lv_at hl 0 rfl) ?_
    refine va_get (D := G.1) (ci := 12) (v := .int (nI 1)) (C := RX12) (T := TX12) (N := 23) hx hb hts inX12_time_12 hown hK h_o 0 rfl rfl 22 (by decide) (hts (.fieldLink RX12 73 "GateLedgerModel" "thrown" "I") (List.mem_of_getElem? (i := 1) (by decide +kernel))) (fun _ h9 => h9) rfl dX12_time_19 ?_
    refine lv_if_le (tgt := 27) hx hb dX12_time_22 (by decide) (fun c22 => ?_) (fun c22 => ?_)
    · exact absurd c22 (by decide)
    · skip
      refine lv_iconst (v := nI 0) hx hb dX12_time_25 (by decide) ?_
      have e1 : cTi Ns p9 g9 = 1 := by unfold cTi; by_cases q1 : inBd p9 4; rw [if_pos q1, if_neg (fun q2 => c7 ⟨q1, q2⟩)]; rw [if_neg q1]
      exact en_wi t0 hx hb hr hlocks hS ⟨fun q => absurd (e1.symm.trans q) (by decide), trivial⟩ (by rw [e1]; exact ⟨h_o, h_times⟩) dX12_time_26
  · skip
    have c7 := bI_1 c7
    obtain ⟨c5, cg⟩ := c7
    obtain ⟨z, hz, ez, ep⟩ := inBd_z c5 (by omega)
    rw [ep] at hl
    have hl : lv_has ls 3 [(0, .ref (a 93)), (1, .int (nI z)), (2, .int g9)] := hl
    have hN := hW _ hz
    have hg9 := hN.g
    have ho9 := hN.o
    have hi9 := hN.2.1
    have cg0 := cg
    rw [ez] at cg
    obtain ⟨g, hgl, eg, epg⟩ := inBd_z cg (by omega)
    rw [epg] at hl
    have hl : lv_has ls 3 [(0, .ref (a 93)), (1, .int (nI z)), (2, .int (nI g))] := hl
    refine lv_iconst (v := nI 0) hx hb dX12_time_10 (by decide) ?_
    refine lv_goto (tgt := 15) hx hb dX12_time_11 (by decide) ?_
    refine pp_put (ci := 12) (v := .int (nI 0)) (ty := .int) (C := RX12) (T := TX12) (N := 23) hx hb hts inX12_time_12 tyX12 tyX12_ok nmX12 hown hK h_o hS (Or.inl (rng_in (by omega))) rfl 22 (by decide) (hts (.fieldLink RX12 73 "GateLedgerModel" "thrown" "I") (List.mem_of_getElem? (i := 1) (by decide +kernel))) (fun _ h9 => h9) rfl (by decide +kernel) rfl rfl (Nat.le_of_ble_eq_true rfl) dX12_time_15 (fun H locs hP9 hk2 _ hS => ?_)
    have h_o : PP G (modO a cy (nI 0)) H := hP9
    have h_times : PP G (ar1 G a 105 120 t0) H := kp hk2 h_times (dj_cons (ne_a ha (by omega)) (dj_nil))
    refine lv_aload_n hx hb dX12_time_18 rfl (lv_at hl 0 rfl) ?_
    refine va_get (D := G.1) (ci := 12) (v := .int (nI 0)) (C := RX12) (T := TX12) (N := 23) hx hb hts inX12_time_12 hown hK h_o 0 rfl rfl 22 (by decide) (hts (.fieldLink RX12 73 "GateLedgerModel" "thrown" "I") (List.mem_of_getElem? (i := 1) (by decide +kernel))) (fun _ h9 => h9) rfl dX12_time_19 ?_
    refine lv_if_le (tgt := 27) hx hb dX12_time_22 (by decide) (fun c22 => ?_) (fun c22 => ?_)
    · skip
      refine lv_aload_n hx hb dX12_time_27 rfl (lv_at hl 0 rfl) ?_
      refine lv_iload_n hx hb dX12_time_28 rfl (lv_at hl 1 rfl) ?_
      refine wr_i (va_runV (As := [.int (nI z)]) (rest := []) FX (c_X12_findsTimes l G a ha cy (nI 0) Ns z fs sc dl t0 hz hN hFS hd) (cwV 1 hts gX12_time_X12_findsTimes rfl rfl rfl (by decide +kernel) ⟨Nat.le_of_ble_eq_true rfl, Nat.le_of_ble_eq_true rfl⟩) (preV hK hNW (⟨h_o, (ro hS h_x (dj_cons (or_no (rng_no ha (by omega)) (rng_no ha (by omega))) (dj_cons (or_no (rng_no ha (by omega)) (rng_no ha (by omega))) (dj_cons (or_no (rng_no ha (by omega)) (rng_no ha (by omega))) (dj_cons (or_no (rng_no ha (by omega)) (rng_no ha (by omega))) (dj_cons (or_no (rng_no ha (by omega)) (rng_no ha (by omega))) (dj_cons (or_no (rng_no ha (by omega)) (rng_no ha (by omega))) (dj_nil)))))))), (ro hS h_delay (dj_cons (or_no (rng_no ha (by omega)) (rng_no ha (by omega))) (dj_nil))), h_times⟩) (va_recv hK h_o (ci := 12) (q0 := 0) rfl rfl)) rfl rfl hl.1 rfl (lv_room (Nat.le_of_ble_eq_true rfl)) dX12_time_29 ⟨Nat.le_of_ble_eq_true rfl, Nat.le_of_ble_eq_true rfl⟩) hS (fun q h => Or.inr ((rng_sub (by omega)) q h)) (fun rr u3 H locs ⟨er5, ht4⟩ hP9 hk6 hS => ?_)
      have h_times : PP G (ar1 G a 105 120 u3) H := hP9
      have h_o : PP G (modO a cy (nI 0)) H := kp hk6 h_o (dj_cons (rng_no ha (by omega)) (dj_nil))
      refine lv_as (y := nI (mxT (Ns z) dl (nG (Ns z)))) er5 ?_
      refine lv_pop hx hb dX12_time_32 rfl ?_
      refine lv_aload_n hx hb dX12_time_33 rfl (lv_at hl 0 rfl) ?_
      refine va_get (D := G.1) (ci := 12) (v := .ref (a 105)) (C := RX12) (T := TX12) (N := 23) hx hb hts inX12_time_12 hown hK h_o 0 rfl rfl 11 (by decide) (hts (.fieldLink RX12 43 "GateLedgerModel" "times" "[I") (List.mem_of_getElem? (i := 2) (by decide +kernel))) (fun _ h9 => h9) rfl dX12_time_34 ?_
      refine lv_iload_n hx hb dX12_time_37 rfl (lv_at hl 2 rfl) ?_
      refine pp_iald hx hb hK h_times 0 rfl (vp_in_nI (by omega) (by omega)) dX12_time_38 ?_
      refine lv_as (congrArg u3 (nI_clamp (by omega))) ?_
      have e1 : cTi Ns p9 g9 = 0 := (if_pos c5).trans (if_pos cg0)
      exact en_wi u3 hx hb hr hlocks hS ⟨fun _ => by rw [ez, eg]; exact ht4 _ hgl, trivial⟩ (by rw [e1]; exact ⟨h_o, h_times⟩) dX12_time_39
    · exact absurd c22 (by decide)
set_option maxRecDepth 20000 in
theorem inX12_path_12 : ∀ w ∈ u_ws RX12 TX12 23, w ∈ wsX12_path := by decide +kernel
set_option maxHeartbeats 4000000 in
set_option maxRecDepth 100000 in
/-- path -/
theorem c_X12_path (l : Launch) (G : GG) (a : Nat → Nat) (ha : Inj a) (cy th : Int32) (Ns : Nat → NT) (fs sc : FN) (dl : Nat → Nat) (t0 : FN) (p9 x9 : Int32) (hW : ∀ z, z < 4 → WF (Ns z)) (hFS : FS Ns fs sc) (hd : DL dl)  : Met l yX12_path wsX12_path ({ frames := 2, cells := 0, slots := 0, locals := 50 } : Room) (PcB G [.ref (a 93), .int p9, .int x9] (fun H => PP G (modO a cy th) H ∧ PP G (sixW G a Ns fs sc) H ∧ PP G (twoW G a Ns) H ∧ PP G (ar1 G a 102 4 (fun z => nI (dl z))) H ∧ PP G (ar1 G a 105 120 t0) H)) (QI (fun (r : Int32) (u : FN) => (cPa p9 x9 = 0 → r = paV (Ns (ix p9)) dl x9) ∧ True) (fun u H => PP G (modO a cy (nI (cPa p9 x9))) H ∧ PP G (ar1 G a 105 120 u) H) (orA (rng a 93 1) (rng a 105 1))) 0 0 (orA (rng a 93 1) (rng a 105 1)) := by
  refine Met.ofW (cc := cX12_path) (maxL := 8) (ret := (some .int)) (by decide) rfl ?_
  intro p e s m args below meth c s₁ B hml hv
  obtain ⟨rfl, hB, hK, hNW⟩ := hv
  have hx := B.exec
  have hb := B.bytes
  have hr := B.returns
  have hts := atoms_spec (ws := wsX12_path) B.pre
  have hown : s.vm.findClass RX12 = some m.cls := findClass_of_methodNamed B.named
  have hlocks := B.notSynchronized
  have FX : CallFix p m c cX12_path 8 s ([.ref (a 93), .int p9, .int x9] : List Value).toArray wsX12_path RX12 := ⟨hx, hb, hml, hown, hts⟩
  have hl := lv_entry ([.ref (a 93), .int p9, .int x9]) (n := 8) (Nat.le_of_ble_eq_true rfl)
  rw [lg_entry_eq]
  generalize (lg_sl ([.ref (a 93), .int p9, .int x9]) ++ List.replicate (8 - (lg_sl ([.ref (a 93), .int p9, .int x9])).length) Slot.unset).toArray = ls at hl ⊢
  have hl : lv_has ls 8 [(0, .ref (a 93)), (1, .int p9), (2, .int x9)] := hl
  obtain ⟨h_o, h_x, h_y, h_delay, h_times⟩ := hB
  have hS : va_S (orA (rng a 93 1) (rng a 105 1)) s.heap s.heap [] := va_S.rf
  refine lv_aload_n hx hb dX12_path_0 rfl (lv_at hl 0 rfl) ?_
  refine lv_iload_n hx hb dX12_path_1 rfl (lv_at hl 1 rfl) ?_
  refine ro_i (va_runS (As := [.int p9]) (rest := [.ref (a 93)]) FX (c_X12_isNet l G p9) (va_cwS 1 hts gX12_path_X12_isNet rfl rfl rfl (by decide +kernel) ⟨Nat.le_of_ble_eq_true rfl, Nat.le_of_ble_eq_true rfl⟩) (preS hK hNW trivial) rfl rfl hl.1 rfl (lv_room (Nat.le_of_ble_eq_true rfl)) dX12_path_2 ⟨Nat.le_of_ble_eq_true rfl, Nat.le_of_ble_eq_true rfl⟩) ?_
  refine lv_if_eq (tgt := 16) hx hb dX12_path_5 (by decide) (fun c5 => ?_) (fun c5 => ?_)
  · skip
    have c5 := bI_0.mp c5
    refine lv_iconst (v := nI 1) hx hb dX12_path_16 (by decide) ?_
    refine pp_put (ci := 12) (v := .int (nI 1)) (ty := .int) (C := RX12) (T := TX12) (N := 23) hx hb hts inX12_path_12 tyX12 tyX12_ok nmX12 hown hK h_o hS (Or.inl (rng_in (by omega))) rfl 22 (by decide) (hts (.fieldLink RX12 73 "GateLedgerModel" "thrown" "I") (List.mem_of_getElem? (i := 1) (by decide +kernel))) (fun _ h9 => h9) rfl (by decide +kernel) rfl rfl (Nat.le_of_ble_eq_true rfl) dX12_path_17 (fun H locs hP9 hk1 _ hS => ?_)
    have h_o : PP G (modO a cy (nI 1)) H := hP9
    have h_times : PP G (ar1 G a 105 120 t0) H := kp hk1 h_times (dj_cons (ne_a ha (by omega)) (dj_nil))
    refine lv_aload_n hx hb dX12_path_20 rfl (lv_at hl 0 rfl) ?_
    refine va_get (D := G.1) (ci := 12) (v := .int (nI 1)) (C := RX12) (T := TX12) (N := 23) hx hb hts inX12_path_12 hown hK h_o 0 rfl rfl 22 (by decide) (hts (.fieldLink RX12 73 "GateLedgerModel" "thrown" "I") (List.mem_of_getElem? (i := 1) (by decide +kernel))) (fun _ h9 => h9) rfl dX12_path_21 ?_
    refine lv_if_le (tgt := 29) hx hb dX12_path_24 (by decide) (fun c24 => ?_) (fun c24 => ?_)
    · exact absurd c24 (by decide)
    · skip
      refine lv_iconst (v := nI 0) hx hb dX12_path_27 (by decide) ?_
      have e1 : cPa p9 x9 = 1 := if_neg c5
      exact en_wi t0 hx hb hr hlocks hS ⟨fun q => absurd (e1.symm.trans q) (by decide), trivial⟩ (by rw [e1]; exact ⟨h_o, h_times⟩) dX12_path_28
  · skip
    have c5 := bI_1 c5
    obtain ⟨z, hz, ez, ep⟩ := inBd_z c5 (by omega)
    rw [ep] at hl
    have hl : lv_has ls 8 [(0, .ref (a 93)), (1, .int (nI z)), (2, .int x9)] := hl
    have hN := hW _ hz
    have hg9 := hN.g
    have ho9 := hN.o
    have hi9 := hN.2.1
    refine lv_iload_n hx hb dX12_path_8 rfl (lv_at hl 2 rfl) ?_
    refine lv_if_lt (tgt := 16) hx hb dX12_path_9 (by decide) (fun c9 => ?_) (fun c9 => ?_)
    · skip
      refine lv_iconst (v := nI 1) hx hb dX12_path_16 (by decide) ?_
      refine pp_put (ci := 12) (v := .int (nI 1)) (ty := .int) (C := RX12) (T := TX12) (N := 23) hx hb hts inX12_path_12 tyX12 tyX12_ok nmX12 hown hK h_o hS (Or.inl (rng_in (by omega))) rfl 22 (by decide) (hts (.fieldLink RX12 73 "GateLedgerModel" "thrown" "I") (List.mem_of_getElem? (i := 1) (by decide +kernel))) (fun _ h9 => h9) rfl (by decide +kernel) rfl rfl (Nat.le_of_ble_eq_true rfl) dX12_path_17 (fun H locs hP9 hk2 _ hS => ?_)
      have h_o : PP G (modO a cy (nI 1)) H := hP9
      have h_times : PP G (ar1 G a 105 120 t0) H := kp hk2 h_times (dj_cons (ne_a ha (by omega)) (dj_nil))
      refine lv_aload_n hx hb dX12_path_20 rfl (lv_at hl 0 rfl) ?_
      refine va_get (D := G.1) (ci := 12) (v := .int (nI 1)) (C := RX12) (T := TX12) (N := 23) hx hb hts inX12_path_12 hown hK h_o 0 rfl rfl 22 (by decide) (hts (.fieldLink RX12 73 "GateLedgerModel" "thrown" "I") (List.mem_of_getElem? (i := 1) (by decide +kernel))) (fun _ h9 => h9) rfl dX12_path_21 ?_
      refine lv_if_le (tgt := 29) hx hb dX12_path_24 (by decide) (fun c24 => ?_) (fun c24 => ?_)
      · exact absurd c24 (by decide)
      · skip
        refine lv_iconst (v := nI 0) hx hb dX12_path_27 (by decide) ?_
        have e1 : cPa p9 x9 = 1 := (if_pos c5).trans (if_neg (fun q => q c9))
        exact en_wi t0 hx hb hr hlocks hS ⟨fun q => absurd (e1.symm.trans q) (by decide), trivial⟩ (by rw [e1]; exact ⟨h_o, h_times⟩) dX12_path_28
    · skip
      obtain ⟨x, ex, epx, hxl⟩ := ge0_z c9
      rw [epx] at hl
      have hl : lv_has ls 8 [(0, .ref (a 93)), (1, .int (nI z)), (2, .int (nI x))] := hl
      refine lv_iconst (v := nI 0) hx hb dX12_path_12 (by decide) ?_
      refine lv_goto (tgt := 17) hx hb dX12_path_13 (by decide) ?_
      refine pp_put (ci := 12) (v := .int (nI 0)) (ty := .int) (C := RX12) (T := TX12) (N := 23) hx hb hts inX12_path_12 tyX12 tyX12_ok nmX12 hown hK h_o hS (Or.inl (rng_in (by omega))) rfl 22 (by decide) (hts (.fieldLink RX12 73 "GateLedgerModel" "thrown" "I") (List.mem_of_getElem? (i := 1) (by decide +kernel))) (fun _ h9 => h9) rfl (by decide +kernel) rfl rfl (Nat.le_of_ble_eq_true rfl) dX12_path_17 (fun H locs hP9 hk3 _ hS => ?_)
      have h_o : PP G (modO a cy (nI 0)) H := hP9
      have h_times : PP G (ar1 G a 105 120 t0) H := kp hk3 h_times (dj_cons (ne_a ha (by omega)) (dj_nil))
      refine lv_aload_n hx hb dX12_path_20 rfl (lv_at hl 0 rfl) ?_
      refine va_get (D := G.1) (ci := 12) (v := .int (nI 0)) (C := RX12) (T := TX12) (N := 23) hx hb hts inX12_path_12 hown hK h_o 0 rfl rfl 22 (by decide) (hts (.fieldLink RX12 73 "GateLedgerModel" "thrown" "I") (List.mem_of_getElem? (i := 1) (by decide +kernel))) (fun _ h9 => h9) rfl dX12_path_21 ?_
      refine lv_if_le (tgt := 29) hx hb dX12_path_24 (by decide) (fun c24 => ?_) (fun c24 => ?_)
      · skip
        refine lv_aload_n hx hb dX12_path_29 rfl (lv_at hl 0 rfl) ?_
        refine lv_iload_n hx hb dX12_path_30 rfl (lv_at hl 1 rfl) ?_
        refine wr_i (va_runV (As := [.int (nI z)]) (rest := []) FX (c_X12_delayOf l G a ha cy (nI 0) Ns z fs sc dl t0 hz hN hFS hd) (cwV 1 hts gX12_path_X12_delayOf rfl rfl rfl (by decide +kernel) ⟨Nat.le_of_ble_eq_true rfl, Nat.le_of_ble_eq_true rfl⟩) (preV hK hNW (⟨h_o, (ro hS h_x (dj_cons (or_no (rng_no ha (by omega)) (rng_no ha (by omega))) (dj_cons (or_no (rng_no ha (by omega)) (rng_no ha (by omega))) (dj_cons (or_no (rng_no ha (by omega)) (rng_no ha (by omega))) (dj_cons (or_no (rng_no ha (by omega)) (rng_no ha (by omega))) (dj_cons (or_no (rng_no ha (by omega)) (rng_no ha (by omega))) (dj_cons (or_no (rng_no ha (by omega)) (rng_no ha (by omega))) (dj_nil)))))))), (ro hS h_y (dj_cons (or_no (rng_no ha (by omega)) (rng_no ha (by omega))) (dj_cons (or_no (rng_no ha (by omega)) (rng_no ha (by omega))) (dj_nil)))), (ro hS h_delay (dj_cons (or_no (rng_no ha (by omega)) (rng_no ha (by omega))) (dj_nil))), h_times⟩) (va_recv hK h_o (ci := 12) (q0 := 0) rfl rfl)) rfl rfl hl.1 rfl (lv_room (Nat.le_of_ble_eq_true rfl)) dX12_path_31 ⟨Nat.le_of_ble_eq_true rfl, Nat.le_of_ble_eq_true rfl⟩) hS (fun q h => Or.inr ((rng_sub (by omega)) q h)) (fun rr u4 H locs ⟨er6, ht5⟩ hP9 hk7 hS => ?_)
        have h_times : PP G (ar1 G a 105 120 u4) H := hP9
        have h_o : PP G (modO a cy (nI 0)) H := kp hk7 h_o (dj_cons (rng_no ha (by omega)) (dj_nil))
        refine lv_as (y := nI (mxO (Ns z) (tm (Ns z) dl) (nO (Ns z)))) er6 ?_
        have htx := ht5
        refine lv_istore_n (lv' := [(3, .int (nI (mxO (Ns z) (tm (Ns z) dl) (nO (Ns z))))), (0, .ref (a 93)), (1, .int (nI z)), (2, .int (nI x))]) hx hb dX12_path_34 rfl hl (by decide) rfl (fun ls hl => ?_)
        refine lv_iconst (v := -1) hx hb dX12_path_35 (by decide) ?_
        refine lv_istore (lv' := [(4, .int (-1)), (3, .int (nI (mxO (Ns z) (tm (Ns z) dl) (nO (Ns z))))), (0, .ref (a 93)), (1, .int (nI z)), (2, .int (nI x))]) hx hb dX12_path_36 hl (by decide) rfl (fun ls hl => ?_)
        refine lv_aload_n hx hb dX12_path_38 rfl (lv_at hl 2 rfl) ?_
        refine va_get (D := G.1) (ci := 12) (v := .ref (a 101)) (C := RX12) (T := TX12) (N := 23) hx hb hts inX12_path_12 hown hK h_o 0 rfl rfl 7 (by decide) (hts (.fieldLink RX12 31 "GateLedgerModel" "outMany" "[I") (List.mem_of_getElem? (i := 2) (by decide +kernel))) (fun _ h9 => h9) rfl dX12_path_39 ?_
        refine lv_iload_n hx hb dX12_path_42 rfl (lv_at hl 3 rfl) ?_
        refine pp_iald hx hb hK (ro hS h_y (dj_cons (or_no (rng_no ha (by omega)) (rng_no ha (by omega))) (dj_cons (or_no (rng_no ha (by omega)) (rng_no ha (by omega))) (dj_nil)))) 1 rfl (vp_in_nI (by omega) (by omega)) dX12_path_43 ?_
        refine lv_as (congrArg (OF Ns) (nI_clamp (by omega))) ?_
        refine lv_as (y := nI (nO (Ns z))) rfl ?_
        refine lv_iconst (v := nI 1) hx hb dX12_path_44 (by decide) ?_
        refine lv_isub hx hb dX12_path_45 ?_
        refine lv_istore (lv' := [(5, .int ((nI (nO (Ns z))) - (nI 1))), (4, .int (-1)), (3, .int (nI (mxO (Ns z) (tm (Ns z) dl) (nO (Ns z))))), (0, .ref (a 93)), (1, .int (nI z)), (2, .int (nI x))]) hx hb dX12_path_46 hl (by decide) rfl (fun ls hl => ?_)
        refine lv_loop1 48 (fun (n : Nat) => n) (fun (n : Nat) (H : Heap) (locs : List Loc) (ls : Array Slot) => (PP G (modO a cy (nI 0)) H) ∧ (PP G (ar1 G a 105 120 u4) H) ∧ (va_S (orA (rng a 93 1) (rng a 105 1)) s.heap H locs) ∧ (lv_has ls 8 [(0, .ref (a 93)), (1, .int (nI z)), (2, .int (nI x)), (3, .int (nI (mxO (Ns z) (tm (Ns z) dl) (nO (Ns z))))), (4, .int (oI (fsO (Ns z) (tm (Ns z) dl) (mxO (Ns z) (tm (Ns z) dl) (nO (Ns z))) (nO (Ns z)) (nO (Ns z) - n)))), (5, .int (nI n - nI 1))]) ∧ (n ≤ nO (Ns z))) (fun _ => []) (fun n H locs ls hI ih => ?_) (nO (Ns z)) ⟨h_o, h_times, hS, (by rw [Nat.sub_self]; exact lv_sub hl [3, 4, 5, 2, 1, 0] rfl), by omega⟩ rfl
        obtain ⟨h_o, h_times, hS, hl, hn⟩ := hI
        have ih9 := @ih
        clear ih
        refine lv_iload hx hb dX12_path_48 (lv_at hl 5 rfl) ?_
        refine lv_if_lt (tgt := 93) hx hb dX12_path_50 (by decide) (fun c50 => ?_) (fun c50 => ?_)
        · skip
          have en : n = 0 := dn_lt (by omega) c50
          rw [en, Nat.sub_zero, fsO_bst] at hl
          have hl : lv_has ls 8 [(0, .ref (a 93)), (1, .int (nI z)), (2, .int (nI x)), (3, .int (nI (mxO (Ns z) (tm (Ns z) dl) (nO (Ns z))))), (4, .int (oI (pt (Ns z) dl 0))), (5, .int (nI 0 - nI 1))] := hl
          refine lv_iconst (v := nI 0) hx hb dX12_path_93 (by decide) ?_
          refine lv_istore (lv' := [(5, .int (nI 0)), (0, .ref (a 93)), (1, .int (nI z)), (2, .int (nI x)), (3, .int (nI (mxO (Ns z) (tm (Ns z) dl) (nO (Ns z))))), (4, .int (oI (pt (Ns z) dl 0)))]) hx hb dX12_path_94 hl (by decide) rfl (fun ls hl => ?_)
          refine lv_loop1 96 (fun (k : Nat) => x - k) (fun (k : Nat) (H : Heap) (locs : List Loc) (ls : Array Slot) => (PP G (modO a cy (nI 0)) H) ∧ (PP G (ar1 G a 105 120 u4) H) ∧ (va_S (orA (rng a 93 1) (rng a 105 1)) s.heap H locs) ∧ (lv_has ls 8 [(0, .ref (a 93)), (1, .int (nI z)), (2, .int (nI x)), (3, .int (nI (mxO (Ns z) (tm (Ns z) dl) (nO (Ns z))))), (4, .int (oI (pt (Ns z) dl k))), (5, .int (nI k))]) ∧ (k ≤ x)) (fun _ => []) (fun k H locs ls hI ih => ?_) 0 ⟨h_o, h_times, hS, lv_sub hl [1, 2, 3, 4, 5, 0] rfl, by omega⟩ rfl
          obtain ⟨h_o, h_times, hS, hl, hk⟩ := hI
          have ih10 := @ih
          clear ih
          refine lv_iload hx hb dX12_path_96 (lv_at hl 5 rfl) ?_
          refine lv_iload_n hx hb dX12_path_98 rfl (lv_at hl 2 rfl) ?_
          refine lv_icmp_ge (tgt := 204) hx hb dX12_path_99 (by decide) (fun c99 => ?_) (fun c99 => ?_)
          · skip
            have c99 := cv_le (by omega) (by omega) c99
            refine lv_iload hx hb dX12_path_204 (lv_at hl 4 rfl) ?_
            have e1 : cPa p9 x9 = 0 := (if_pos c5).trans (if_pos c9)
            exact en_wi u4 hx hb hr hlocks hS ⟨fun _ => by rw [pa_eq (hW _ (ix_lt c5 (by omega))) c9, ez, ex]; rw [show k = x by omega], trivial⟩ (by rw [e1]; exact ⟨h_o, h_times⟩) dX12_path_206
          · skip
            have c99 := cv_nle (by omega) (by omega) c99
            refine lv_iload hx hb dX12_path_102 (lv_at hl 4 rfl) ?_
            refine lv_iconst (v := -1) hx hb dX12_path_104 (by decide) ?_
            refine lv_icmp_eq (tgt := 204) hx hb dX12_path_105 (by decide) (fun c105 => ?_) (fun c105 => ?_)
            · skip
              have hn9 := oI_none (fun g hg => Nat.lt_trans (pt_lt hN k g hg) (by omega)) c105
              have hpx := pt_none hn9 (x - k)
              rw [show k + (x - k) = x by omega] at hpx
              refine lv_iload hx hb dX12_path_204 (lv_at hl 4 rfl) ?_
              have e1 : cPa p9 x9 = 0 := (if_pos c5).trans (if_pos c9)
              exact en_wi u4 hx hb hr hlocks hS ⟨fun _ => by rw [pa_eq (hW _ (ix_lt c5 (by omega))) c9, ez, ex]; rw [hn9, hpx], trivial⟩ (by rw [e1]; exact ⟨h_o, h_times⟩) dX12_path_206
            · skip
              obtain ⟨g, hg⟩ := oI_some c105
              have hgl := pt_lt hN k g hg
              have hps := pt_s hg
              rw [hg] at hl
              have hl : lv_has ls 8 [(0, .ref (a 93)), (1, .int (nI z)), (2, .int (nI x)), (3, .int (nI (mxO (Ns z) (tm (Ns z) dl) (nO (Ns z))))), (4, .int (nI g)), (5, .int (nI k))] := hl
              have htg := tm_lt hN hd hgl
              have hkg := hN.k hgl
              refine lv_bipush (v := nI 120) hx hb dX12_path_108 (by decide) ?_
              refine lv_iload_n hx hb dX12_path_110 rfl (lv_at hl 1 rfl) ?_
              refine lv_imul hx hb dX12_path_111 ?_
              refine lv_as (pk_mul _ _) ?_
              refine lv_iload hx hb dX12_path_112 (lv_at hl 4 rfl) ?_
              refine lv_iadd hx hb dX12_path_114 ?_
              refine lv_as (nI_add _ _) ?_
              refine lv_istore (lv' := [(6, .int (nI ((120 * z) + g))), (0, .ref (a 93)), (1, .int (nI z)), (2, .int (nI x)), (3, .int (nI (mxO (Ns z) (tm (Ns z) dl) (nO (Ns z))))), (4, .int (nI g)), (5, .int (nI k))]) hx hb dX12_path_115 hl (by decide) rfl (fun ls hl => ?_)
              refine lv_aload_n hx hb dX12_path_117 rfl (lv_at hl 1 rfl) ?_
              refine va_get (D := G.1) (ci := 12) (v := .ref (a 94)) (C := RX12) (T := TX12) (N := 23) hx hb hts inX12_path_12 hown hK h_o 0 rfl rfl 0 (by decide) (hts (.fieldLink RX12 7 "GateLedgerModel" "kind" "[I") (List.mem_of_getElem? (i := 5) (by decide +kernel))) (fun _ h9 => h9) rfl dX12_path_118 ?_
              refine lv_iload hx hb dX12_path_121 (lv_at hl 0 rfl) ?_
              refine pp_iald hx hb hK (ro hS h_x (dj_cons (or_no (rng_no ha (by omega)) (rng_no ha (by omega))) (dj_cons (or_no (rng_no ha (by omega)) (rng_no ha (by omega))) (dj_cons (or_no (rng_no ha (by omega)) (rng_no ha (by omega))) (dj_cons (or_no (rng_no ha (by omega)) (rng_no ha (by omega))) (dj_cons (or_no (rng_no ha (by omega)) (rng_no ha (by omega))) (dj_cons (or_no (rng_no ha (by omega)) (rng_no ha (by omega))) (dj_nil)))))))) 0 rfl (vp_in_nI (by omega) (by omega)) dX12_path_123 ?_
              refine lv_as (congrArg (KF Ns) (nI_clamp (by omega))) ?_
              refine lv_as (y := nI (nK (Ns z) g)) (KF_at (by omega)) ?_
              refine lv_iconst (v := nI 4) hx hb dX12_path_124 (by decide) ?_
              refine lv_icmp_ne (tgt := 132) hx hb dX12_path_125 (by decide) (fun c125 => ?_) (fun c125 => ?_)
              · skip
                have c125 := cv_ne (by omega) (by omega) c125
                have hfs := hN.fs hgl c125
                have hdk := hd (nK (Ns z) g) (by omega)
                have ht1 := tm_lt hN hd (k := nF (Ns z) g) (by omega)
                refine lv_iconst (v := nI 0) hx hb dX12_path_132 (by decide) ?_
                refine lv_istore (lv' := [(7, .int (nI 0)), (6, .int (nI ((120 * z) + g))), (0, .ref (a 93)), (1, .int (nI z)), (2, .int (nI x)), (3, .int (nI (mxO (Ns z) (tm (Ns z) dl) (nO (Ns z))))), (4, .int (nI g)), (5, .int (nI k))]) hx hb dX12_path_133 hl (by decide) rfl (fun ls hl => ?_)
                refine lv_iload hx hb dX12_path_135 (lv_at hl 0 rfl) ?_
                refine lv_if_eq (tgt := 144) hx hb dX12_path_137 (by decide) (fun c137 => ?_) (fun c137 => ?_)
                · skip
                  refine lv_aload_n hx hb dX12_path_144 rfl (lv_at hl 2 rfl) ?_
                  refine va_get (D := G.1) (ci := 12) (v := .ref (a 105)) (C := RX12) (T := TX12) (N := 23) hx hb hts inX12_path_12 hown hK h_o 0 rfl rfl 11 (by decide) (hts (.fieldLink RX12 43 "GateLedgerModel" "times" "[I") (List.mem_of_getElem? (i := 4) (by decide +kernel))) (fun _ h9 => h9) rfl dX12_path_145 ?_
                  refine lv_aload_n hx hb dX12_path_148 rfl (lv_at hl 2 rfl) ?_
                  refine va_get (D := G.1) (ci := 12) (v := .ref (a 95)) (C := RX12) (T := TX12) (N := 23) hx hb hts inX12_path_12 hown hK h_o 0 rfl rfl 1 (by decide) (hts (.fieldLink RX12 13 "GateLedgerModel" "first" "[I") (List.mem_of_getElem? (i := 6) (by decide +kernel))) (fun _ h9 => h9) rfl dX12_path_149 ?_
                  refine lv_iload hx hb dX12_path_152 (lv_at hl 1 rfl) ?_
                  refine pp_iald hx hb hK (ro hS h_x (dj_cons (or_no (rng_no ha (by omega)) (rng_no ha (by omega))) (dj_cons (or_no (rng_no ha (by omega)) (rng_no ha (by omega))) (dj_cons (or_no (rng_no ha (by omega)) (rng_no ha (by omega))) (dj_cons (or_no (rng_no ha (by omega)) (rng_no ha (by omega))) (dj_cons (or_no (rng_no ha (by omega)) (rng_no ha (by omega))) (dj_cons (or_no (rng_no ha (by omega)) (rng_no ha (by omega))) (dj_nil)))))))) 1 rfl (vp_in_nI (by omega) (by omega)) dX12_path_154 ?_
                  refine lv_as (congrArg fs (nI_clamp (by omega))) ?_
                  refine lv_as (y := nI (nF (Ns z) g)) ((hFS z hz g (by omega) hgl c125).1) ?_
                  refine pp_iald hx hb hK h_times 0 rfl (vp_in_nI (by omega) (by omega)) dX12_path_155 ?_
                  refine lv_as (congrArg u4 (nI_clamp (by omega))) ?_
                  refine lv_as (y := nI (tm (Ns z) dl (nF (Ns z) g))) (htx _ (by omega)) ?_
                  refine lv_aload_n hx hb dX12_path_156 rfl (lv_at hl 2 rfl) ?_
                  refine va_get (D := G.1) (ci := 12) (v := .ref (a 102)) (C := RX12) (T := TX12) (N := 23) hx hb hts inX12_path_12 hown hK h_o 0 rfl rfl 8 (by decide) (hts (.fieldLink RX12 34 "GateLedgerModel" "delay" "[I") (List.mem_of_getElem? (i := 7) (by decide +kernel))) (fun _ h9 => h9) rfl dX12_path_157 ?_
                  refine lv_aload_n hx hb dX12_path_160 rfl (lv_at hl 2 rfl) ?_
                  refine va_get (D := G.1) (ci := 12) (v := .ref (a 94)) (C := RX12) (T := TX12) (N := 23) hx hb hts inX12_path_12 hown hK h_o 0 rfl rfl 0 (by decide) (hts (.fieldLink RX12 7 "GateLedgerModel" "kind" "[I") (List.mem_of_getElem? (i := 5) (by decide +kernel))) (fun _ h9 => h9) rfl dX12_path_161 ?_
                  refine lv_iload hx hb dX12_path_164 (lv_at hl 1 rfl) ?_
                  refine pp_iald hx hb hK (ro hS h_x (dj_cons (or_no (rng_no ha (by omega)) (rng_no ha (by omega))) (dj_cons (or_no (rng_no ha (by omega)) (rng_no ha (by omega))) (dj_cons (or_no (rng_no ha (by omega)) (rng_no ha (by omega))) (dj_cons (or_no (rng_no ha (by omega)) (rng_no ha (by omega))) (dj_cons (or_no (rng_no ha (by omega)) (rng_no ha (by omega))) (dj_cons (or_no (rng_no ha (by omega)) (rng_no ha (by omega))) (dj_nil)))))))) 0 rfl (vp_in_nI (by omega) (by omega)) dX12_path_166 ?_
                  refine lv_as (congrArg (KF Ns) (nI_clamp (by omega))) ?_
                  refine lv_as (y := nI (nK (Ns z) g)) (KF_at (by omega)) ?_
                  refine pp_iald hx hb hK (ro hS h_delay (dj_cons (or_no (rng_no ha (by omega)) (rng_no ha (by omega))) (dj_nil))) 0 rfl (vp_in_nI (by omega) (by omega)) dX12_path_167 ?_
                  refine lv_as (congrArg (fun z => nI (dl z)) (nI_clamp (by omega))) ?_
                  refine lv_st (st' := [.int (nI (dl (nK (Ns z) g))), .int (nI (tm (Ns z) dl (nF (Ns z) g)))]) rfl ?_
                  refine lv_iadd hx hb dX12_path_168 ?_
                  refine lv_as (nI_add _ _) ?_
                  refine lv_aload_n hx hb dX12_path_169 rfl (lv_at hl 2 rfl) ?_
                  refine va_get (D := G.1) (ci := 12) (v := .ref (a 105)) (C := RX12) (T := TX12) (N := 23) hx hb hts inX12_path_12 hown hK h_o 0 rfl rfl 11 (by decide) (hts (.fieldLink RX12 43 "GateLedgerModel" "times" "[I") (List.mem_of_getElem? (i := 4) (by decide +kernel))) (fun _ h9 => h9) rfl dX12_path_170 ?_
                  refine lv_iload hx hb dX12_path_173 (lv_at hl 6 rfl) ?_
                  refine pp_iald hx hb hK h_times 0 rfl (vp_in_nI (by omega) (by omega)) dX12_path_175 ?_
                  refine lv_as (congrArg u4 (nI_clamp (by omega))) ?_
                  refine lv_as (y := nI (tm (Ns z) dl g)) (htx _ hgl) ?_
                  refine lv_icmp_ne (tgt := 189) hx hb dX12_path_176 (by decide) (fun c176 => ?_) (fun c176 => ?_)
                  · skip
                    have c176 := cv_ne (by omega) (by omega) c176
                    refine lv_aload_n hx hb dX12_path_189 rfl (lv_at hl 2 rfl) ?_
                    refine va_get (D := G.1) (ci := 12) (v := .ref (a 96)) (C := RX12) (T := TX12) (N := 23) hx hb hts inX12_path_12 hown hK h_o 0 rfl rfl 2 (by decide) (hts (.fieldLink RX12 16 "GateLedgerModel" "second" "[I") (List.mem_of_getElem? (i := 8) (by decide +kernel))) (fun _ h9 => h9) rfl dX12_path_190 ?_
                    refine lv_iload hx hb dX12_path_193 (lv_at hl 1 rfl) ?_
                    refine pp_iald hx hb hK (ro hS h_x (dj_cons (or_no (rng_no ha (by omega)) (rng_no ha (by omega))) (dj_cons (or_no (rng_no ha (by omega)) (rng_no ha (by omega))) (dj_cons (or_no (rng_no ha (by omega)) (rng_no ha (by omega))) (dj_cons (or_no (rng_no ha (by omega)) (rng_no ha (by omega))) (dj_cons (or_no (rng_no ha (by omega)) (rng_no ha (by omega))) (dj_cons (or_no (rng_no ha (by omega)) (rng_no ha (by omega))) (dj_nil)))))))) 2 rfl (vp_in_nI (by omega) (by omega)) dX12_path_195 ?_
                    refine lv_as (congrArg sc (nI_clamp (by omega))) ?_
                    refine lv_as (y := nI (nS (Ns z) g)) ((hFS z hz g (by omega) hgl c125).2) ?_
                    refine lv_istore (lv' := [(4, .int (nI (nS (Ns z) g))), (7, .int (nI 0)), (6, .int (nI ((120 * z) + g))), (0, .ref (a 93)), (1, .int (nI z)), (2, .int (nI x)), (3, .int (nI (mxO (Ns z) (tm (Ns z) dl) (nO (Ns z))))), (5, .int (nI k))]) hx hb dX12_path_196 hl (by decide) rfl (fun ls hl => ?_)
                    refine lv_iinc (v := nI (k + 1)) (lv' := [(5, .int (nI (k + 1))), (4, .int (nI (nS (Ns z) g))), (7, .int (nI 0)), (6, .int (nI ((120 * z) + g))), (0, .ref (a 93)), (1, .int (nI z)), (2, .int (nI x)), (3, .int (nI (mxO (Ns z) (tm (Ns z) dl) (nO (Ns z)))))]) hx hb dX12_path_198 hl (k := 7) rfl (by first | exact nI_add _ 1 | decide) (by decide) rfl (fun ls hl => ?_)
                    refine lv_goto (tgt := 96) hx hb dX12_path_201 (by decide) ?_
                    exact ih10 (k + 1) _ _ _ ⟨h_o, h_times, hS, (by rw [hps, show nxt (Ns z) dl (tm (Ns z) dl) g = some (nS (Ns z) g) from (if_neg c125).trans (congrArg some (if_neg c176))]; exact lv_sub hl [4, 5, 6, 7, 1, 0] rfl), by omega⟩ (by show x - (k + 1) < x - k; omega)
                  · skip
                    have c176 := cv_eq (by omega) (by omega) c176
                    refine lv_aload_n hx hb dX12_path_179 rfl (lv_at hl 2 rfl) ?_
                    refine va_get (D := G.1) (ci := 12) (v := .ref (a 95)) (C := RX12) (T := TX12) (N := 23) hx hb hts inX12_path_12 hown hK h_o 0 rfl rfl 1 (by decide) (hts (.fieldLink RX12 13 "GateLedgerModel" "first" "[I") (List.mem_of_getElem? (i := 6) (by decide +kernel))) (fun _ h9 => h9) rfl dX12_path_180 ?_
                    refine lv_iload hx hb dX12_path_183 (lv_at hl 1 rfl) ?_
                    refine pp_iald hx hb hK (ro hS h_x (dj_cons (or_no (rng_no ha (by omega)) (rng_no ha (by omega))) (dj_cons (or_no (rng_no ha (by omega)) (rng_no ha (by omega))) (dj_cons (or_no (rng_no ha (by omega)) (rng_no ha (by omega))) (dj_cons (or_no (rng_no ha (by omega)) (rng_no ha (by omega))) (dj_cons (or_no (rng_no ha (by omega)) (rng_no ha (by omega))) (dj_cons (or_no (rng_no ha (by omega)) (rng_no ha (by omega))) (dj_nil)))))))) 1 rfl (vp_in_nI (by omega) (by omega)) dX12_path_185 ?_
                    refine lv_as (congrArg fs (nI_clamp (by omega))) ?_
                    refine lv_as (y := nI (nF (Ns z) g)) ((hFS z hz g (by omega) hgl c125).1) ?_
                    refine lv_goto (tgt := 196) hx hb dX12_path_186 (by decide) ?_
                    refine lv_istore (lv' := [(4, .int (nI (nF (Ns z) g))), (7, .int (nI 0)), (6, .int (nI ((120 * z) + g))), (0, .ref (a 93)), (1, .int (nI z)), (2, .int (nI x)), (3, .int (nI (mxO (Ns z) (tm (Ns z) dl) (nO (Ns z))))), (5, .int (nI k))]) hx hb dX12_path_196 hl (by decide) rfl (fun ls hl => ?_)
                    refine lv_iinc (v := nI (k + 1)) (lv' := [(5, .int (nI (k + 1))), (4, .int (nI (nF (Ns z) g))), (7, .int (nI 0)), (6, .int (nI ((120 * z) + g))), (0, .ref (a 93)), (1, .int (nI z)), (2, .int (nI x)), (3, .int (nI (mxO (Ns z) (tm (Ns z) dl) (nO (Ns z)))))]) hx hb dX12_path_198 hl (k := 7) rfl (by first | exact nI_add _ 1 | decide) (by decide) rfl (fun ls hl => ?_)
                    refine lv_goto (tgt := 96) hx hb dX12_path_201 (by decide) ?_
                    exact ih10 (k + 1) _ _ _ ⟨h_o, h_times, hS, (by rw [hps, show nxt (Ns z) dl (tm (Ns z) dl) g = some (nF (Ns z) g) from (if_neg c125).trans (congrArg some (if_pos c176))]; exact lv_sub hl [4, 5, 6, 7, 1, 0] rfl), by omega⟩ (by show x - (k + 1) < x - k; omega)
                · exact absurd c137 (by decide)
              · skip
                have c125 := cv_eq (by omega) (by omega) c125
                refine lv_iconst (v := nI 1) hx hb dX12_path_128 (by decide) ?_
                refine lv_goto (tgt := 133) hx hb dX12_path_129 (by decide) ?_
                refine lv_istore (lv' := [(7, .int (nI 1)), (6, .int (nI ((120 * z) + g))), (0, .ref (a 93)), (1, .int (nI z)), (2, .int (nI x)), (3, .int (nI (mxO (Ns z) (tm (Ns z) dl) (nO (Ns z))))), (4, .int (nI g)), (5, .int (nI k))]) hx hb dX12_path_133 hl (by decide) rfl (fun ls hl => ?_)
                refine lv_iload hx hb dX12_path_135 (lv_at hl 0 rfl) ?_
                refine lv_if_eq (tgt := 144) hx hb dX12_path_137 (by decide) (fun c137 => ?_) (fun c137 => ?_)
                · exact absurd c137 (by decide)
                · skip
                  refine lv_iconst (v := -1) hx hb dX12_path_140 (by decide) ?_
                  refine lv_goto (tgt := 196) hx hb dX12_path_141 (by decide) ?_
                  refine lv_istore (lv' := [(4, .int (-1)), (7, .int (nI 1)), (6, .int (nI ((120 * z) + g))), (0, .ref (a 93)), (1, .int (nI z)), (2, .int (nI x)), (3, .int (nI (mxO (Ns z) (tm (Ns z) dl) (nO (Ns z))))), (5, .int (nI k))]) hx hb dX12_path_196 hl (by decide) rfl (fun ls hl => ?_)
                  refine lv_iinc (v := nI (k + 1)) (lv' := [(5, .int (nI (k + 1))), (4, .int (-1)), (7, .int (nI 1)), (6, .int (nI ((120 * z) + g))), (0, .ref (a 93)), (1, .int (nI z)), (2, .int (nI x)), (3, .int (nI (mxO (Ns z) (tm (Ns z) dl) (nO (Ns z)))))]) hx hb dX12_path_198 hl (k := 7) rfl (by first | exact nI_add _ 1 | decide) (by decide) rfl (fun ls hl => ?_)
                  refine lv_goto (tgt := 96) hx hb dX12_path_201 (by decide) ?_
                  exact ih10 (k + 1) _ _ _ ⟨h_o, h_times, hS, (by rw [hps, show nxt (Ns z) dl (tm (Ns z) dl) g = none from if_pos c125]; exact lv_sub hl [4, 5, 6, 7, 1, 0] rfl), by omega⟩ (by show x - (k + 1) < x - k; omega)
        · skip
          obtain ⟨v, hv⟩ := dn_ge c50
          subst hv
          rw [dn_pred] at hl
          have hl : lv_has ls 8 [(0, .ref (a 93)), (1, .int (nI z)), (2, .int (nI x)), (3, .int (nI (mxO (Ns z) (tm (Ns z) dl) (nO (Ns z))))), (4, .int (oI (fsO (Ns z) (tm (Ns z) dl) (mxO (Ns z) (tm (Ns z) dl) (nO (Ns z))) (nO (Ns z)) (nO (Ns z) - (v + 1))))), (5, .int (nI v))] := hl
          have hml := mxO_lt hN hd (nO (Ns z)) (Nat.le_refl _)
          have hu9 := hN.u (p := v) (by omega)
          have htl := tm_lt hN hd hu9
          have eo : fsO (Ns z) (tm (Ns z) dl) (mxO (Ns z) (tm (Ns z) dl) (nO (Ns z))) (nO (Ns z)) (nO (Ns z) - (v + 1) + 1) = if tm (Ns z) dl (nU (Ns z) v) = mxO (Ns z) (tm (Ns z) dl) (nO (Ns z)) then some (nU (Ns z) v) else fsO (Ns z) (tm (Ns z) dl) (mxO (Ns z) (tm (Ns z) dl) (nO (Ns z))) (nO (Ns z)) (nO (Ns z) - (v + 1)) := by show (if tm (Ns z) dl (nU (Ns z) (nO (Ns z) - (nO (Ns z) - (v + 1) + 1))) = _ then some (nU (Ns z) (nO (Ns z) - (nO (Ns z) - (v + 1) + 1))) else _) = _; rw [show nO (Ns z) - (nO (Ns z) - (v + 1) + 1) = v by omega]
          refine lv_aload_n hx hb dX12_path_53 rfl (lv_at hl 0 rfl) ?_
          refine va_get (D := G.1) (ci := 12) (v := .ref (a 100)) (C := RX12) (T := TX12) (N := 23) hx hb hts inX12_path_12 hown hK h_o 0 rfl rfl 6 (by decide) (hts (.fieldLink RX12 28 "GateLedgerModel" "outs" "[I") (List.mem_of_getElem? (i := 3) (by decide +kernel))) (fun _ h9 => h9) rfl dX12_path_54 ?_
          refine lv_bipush (v := nI 16) hx hb dX12_path_57 (by decide) ?_
          refine lv_iload_n hx hb dX12_path_59 rfl (lv_at hl 1 rfl) ?_
          refine lv_imul hx hb dX12_path_60 ?_
          refine lv_as (pk_mul _ _) ?_
          refine lv_iload hx hb dX12_path_61 (lv_at hl 5 rfl) ?_
          refine lv_iadd hx hb dX12_path_63 ?_
          refine lv_as (nI_add _ _) ?_
          refine pp_iald hx hb hK (ro hS h_y (dj_cons (or_no (rng_no ha (by omega)) (rng_no ha (by omega))) (dj_cons (or_no (rng_no ha (by omega)) (rng_no ha (by omega))) (dj_nil)))) 0 rfl (vp_in_nI (by omega) (by omega)) dX12_path_64 ?_
          refine lv_as (congrArg (UF Ns) (nI_clamp (by omega))) ?_
          refine lv_as (y := nI (nU (Ns z) v)) (UF_at (by omega)) ?_
          refine lv_istore (lv' := [(6, .int (nI (nU (Ns z) v))), (0, .ref (a 93)), (1, .int (nI z)), (2, .int (nI x)), (3, .int (nI (mxO (Ns z) (tm (Ns z) dl) (nO (Ns z))))), (4, .int (oI (fsO (Ns z) (tm (Ns z) dl) (mxO (Ns z) (tm (Ns z) dl) (nO (Ns z))) (nO (Ns z)) (nO (Ns z) - (v + 1))))), (5, .int (nI v))]) hx hb dX12_path_65 hl (by decide) rfl (fun ls hl => ?_)
          refine lv_aload_n hx hb dX12_path_67 rfl (lv_at hl 1 rfl) ?_
          refine va_get (D := G.1) (ci := 12) (v := .ref (a 105)) (C := RX12) (T := TX12) (N := 23) hx hb hts inX12_path_12 hown hK h_o 0 rfl rfl 11 (by decide) (hts (.fieldLink RX12 43 "GateLedgerModel" "times" "[I") (List.mem_of_getElem? (i := 4) (by decide +kernel))) (fun _ h9 => h9) rfl dX12_path_68 ?_
          refine lv_iload hx hb dX12_path_71 (lv_at hl 0 rfl) ?_
          refine pp_iald hx hb hK h_times 0 rfl (vp_in_nI (by omega) (by omega)) dX12_path_73 ?_
          refine lv_as (congrArg u4 (nI_clamp (by omega))) ?_
          refine lv_as (y := nI (tm (Ns z) dl (nU (Ns z) v))) (htx _ hu9) ?_
          refine lv_iload_n hx hb dX12_path_74 rfl (lv_at hl 4 rfl) ?_
          refine lv_icmp_ne (tgt := 83) hx hb dX12_path_75 (by decide) (fun c75 => ?_) (fun c75 => ?_)
          · skip
            have c75 := cv_ne (by omega) (by omega) c75
            refine lv_iload hx hb dX12_path_83 (lv_at hl 5 rfl) ?_
            refine lv_istore (lv' := [(4, .int (oI (fsO (Ns z) (tm (Ns z) dl) (mxO (Ns z) (tm (Ns z) dl) (nO (Ns z))) (nO (Ns z)) (nO (Ns z) - (v + 1))))), (6, .int (nI (nU (Ns z) v))), (0, .ref (a 93)), (1, .int (nI z)), (2, .int (nI x)), (3, .int (nI (mxO (Ns z) (tm (Ns z) dl) (nO (Ns z))))), (5, .int (nI v))]) hx hb dX12_path_85 hl (by decide) rfl (fun ls hl => ?_)
            refine lv_iinc (v := nI v - nI 1) (lv' := [(5, .int (nI v - nI 1)), (4, .int (oI (fsO (Ns z) (tm (Ns z) dl) (mxO (Ns z) (tm (Ns z) dl) (nO (Ns z))) (nO (Ns z)) (nO (Ns z) - (v + 1))))), (6, .int (nI (nU (Ns z) v))), (0, .ref (a 93)), (1, .int (nI z)), (2, .int (nI x)), (3, .int (nI (mxO (Ns z) (tm (Ns z) dl) (nO (Ns z)))))]) hx hb dX12_path_87 hl (k := 6) rfl (dn_iinc v) (by decide) rfl (fun ls hl => ?_)
            refine lv_goto (tgt := 48) hx hb dX12_path_90 (by decide) ?_
            exact ih9 v _ _ _ ⟨h_o, h_times, hS, (by rw [show nO (Ns z) - v = nO (Ns z) - (v + 1) + 1 by omega, eo, if_neg c75]; exact lv_sub hl [3, 4, 5, 6, 1, 0] rfl), by omega⟩ (by show v < v + 1; omega)
          · skip
            have c75 := cv_eq (by omega) (by omega) c75
            refine lv_iload hx hb dX12_path_78 (lv_at hl 0 rfl) ?_
            refine lv_goto (tgt := 85) hx hb dX12_path_80 (by decide) ?_
            refine lv_istore (lv' := [(4, .int (nI (nU (Ns z) v))), (6, .int (nI (nU (Ns z) v))), (0, .ref (a 93)), (1, .int (nI z)), (2, .int (nI x)), (3, .int (nI (mxO (Ns z) (tm (Ns z) dl) (nO (Ns z))))), (5, .int (nI v))]) hx hb dX12_path_85 hl (by decide) rfl (fun ls hl => ?_)
            refine lv_iinc (v := nI v - nI 1) (lv' := [(5, .int (nI v - nI 1)), (4, .int (nI (nU (Ns z) v))), (6, .int (nI (nU (Ns z) v))), (0, .ref (a 93)), (1, .int (nI z)), (2, .int (nI x)), (3, .int (nI (mxO (Ns z) (tm (Ns z) dl) (nO (Ns z)))))]) hx hb dX12_path_87 hl (k := 6) rfl (dn_iinc v) (by decide) rfl (fun ls hl => ?_)
            refine lv_goto (tgt := 48) hx hb dX12_path_90 (by decide) ?_
            exact ih9 v _ _ _ ⟨h_o, h_times, hS, (by rw [show nO (Ns z) - v = nO (Ns z) - (v + 1) + 1 by omega, eo, if_pos c75]; exact lv_sub hl [3, 4, 5, 6, 1, 0] rfl), by omega⟩ (by show v < v + 1; omega)
      · exact absurd c24 (by decide)
