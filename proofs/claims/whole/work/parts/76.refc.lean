set_option maxRecDepth 20000 in
theorem inX12_ripples_12 : ∀ w ∈ u_ws RX12 TX12 23, w ∈ wsX12_ripples := by decide +kernel
set_option maxHeartbeats 4000000 in
set_option maxRecDepth 100000 in
/-- ripples -/
theorem c_X12_ripples (l : Launch) (G : GG) (a : Nat → Nat) (ha : Inj a) (cy th : Int32) (Ns : Nat → NT) (z : Nat) (N : NT) (fs sc : FN) (w : Nat) (rw0 : FN) (hz : z < 4) (hw : 1 ≤ w ∧ w ≤ 6) (hg : nG N = 2 * w) (ho : nO N = 0) (hFS : FS (upN Ns z N) fs sc)  : Met l yX12_ripples wsX12_ripples ({ frames := 2, cells := 0, slots := 0, locals := 53 } : Room) (PcB G [.ref (a 93), .int (nI z), .int (nI w)] (fun H => PP G (modO a cy th) H ∧ PP G (sixW G a (upN Ns z N) fs sc) H ∧ PP G (twoW G a (upN Ns z N)) H ∧ PP G (ar1 G a 113 16 rw0) H)) (QV (fun u : Int32 × FN × FN × FN => FS (upN Ns z (riO N w)) u.2.1 u.2.2.1) (fun u H => PP G (modO a u.1 th) H ∧ PP G (sixW G a (upN Ns z (riO N w)) u.2.1 u.2.2.1) H ∧ PP G (twoW G a (upN Ns z (riO N w))) H ∧ PP G (ar1 G a 113 16 u.2.2.2) H) (orA (rng a 93 9) (rng a 113 1))) 0 0 (orA (rng a 93 9) (rng a 113 1)) := by
  refine Met.ofW (cc := cX12_ripples) (maxL := 4) (ret := none) (by decide) rfl ?_
  intro p e s m args below meth c s₁ B hml hv
  obtain ⟨rfl, hB, hK, hNW⟩ := hv
  have hx := B.exec
  have hb := B.bytes
  have hr := B.returns
  have hts := atoms_spec (ws := wsX12_ripples) B.pre
  have hown : s.vm.findClass RX12 = some m.cls := findClass_of_methodNamed B.named
  have hlocks := B.notSynchronized
  have FX : CallFix p m c cX12_ripples 4 s ([.ref (a 93), .int (nI z), .int (nI w)] : List Value).toArray wsX12_ripples RX12 := ⟨hx, hb, hml, hown, hts⟩
  have hl := lv_entry ([.ref (a 93), .int (nI z), .int (nI w)]) (n := 4) (Nat.le_of_ble_eq_true rfl)
  rw [lg_entry_eq]
  generalize (lg_sl ([.ref (a 93), .int (nI z), .int (nI w)]) ++ List.replicate (4 - (lg_sl ([.ref (a 93), .int (nI z), .int (nI w)])).length) Slot.unset).toArray = ls at hl ⊢
  have hl : lv_has ls 4 [(0, .ref (a 93)), (1, .int (nI z)), (2, .int (nI w))] := hl
  obtain ⟨h_o, h_x, h_y, h_row⟩ := hB
  have hS : va_S (orA (rng a 93 9) (rng a 113 1)) s.heap s.heap [] := va_S.rf
  refine lv_iconst (v := nI 0) hx hb dX12_ripples_0 (by decide) ?_
  refine lv_istore_n (lv' := [(3, .int (nI 0)), (0, .ref (a 93)), (1, .int (nI z)), (2, .int (nI w))]) hx hb dX12_ripples_1 rfl hl (by decide) rfl (fun ls hl => ?_)
  refine lv_loop5 2 (fun (k : Nat) (f : FN) (g : FN) (c9 : Int32) (rw9 : FN) => w - k) (fun (k : Nat) (f : FN) (g : FN) (c9 : Int32) (rw9 : FN) (H : Heap) (locs : List Loc) (ls : Array Slot) => (PP G (modO a c9 th) H) ∧ (PP G (sixW G a (upN Ns z ((rgT N w k).1)) f g) H) ∧ (PP G (twoW G a (upN Ns z N)) H) ∧ (PP G (ar1 G a 113 16 rw9) H) ∧ (va_S (orA (rng a 93 9) (rng a 113 1)) s.heap H locs) ∧ (lv_has ls 4 [(0, .ref (a 93)), (1, .int (nI z)), (2, .int (nI w)), (3, .int (nI k))]) ∧ (k ≤ w) ∧ (FS (upN Ns z (rgT N w k).1) f g) ∧ (k ≠ 0 → c9 = nI (rgT N w k).2) ∧ (∀ r, r < k → rw9 r = nI (rgS N w r))) (fun _ _ _ _ _ => []) (fun k f g c9 rw9 H locs ls hI ih => ?_) 0 fs sc cy rw0 ⟨h_o, h_x, h_y, h_row, hS, lv_sub hl [1, 2, 3, 0] rfl, by omega, hFS, fun h => absurd rfl h, fun r h => absurd h (Nat.not_lt_zero r)⟩ rfl
  obtain ⟨h_o, h_x, h_y, h_row, hS, hl, hk, hF, hc, hrw⟩ := hI
  have ih1 := @ih
  clear ih
  have hb9 := rgT_b (M := N) (w := w) k
  refine lv_iload_n hx hb dX12_ripples_2 rfl (lv_at hl 3 rfl) ?_
  refine lv_iload_n hx hb dX12_ripples_3 rfl (lv_at hl 2 rfl) ?_
  refine lv_icmp_ge (tgt := 46) hx hb dX12_ripples_4 (by decide) (fun c4 => ?_) (fun c4 => ?_)
  · skip
    have c4 := cv_le (by omega) (by omega) c4
    have ek : k = w := by omega
    refine lv_iconst (v := nI 0) hx hb dX12_ripples_46 (by decide) ?_
    refine lv_istore_n (lv' := [(3, .int (nI 0)), (0, .ref (a 93)), (1, .int (nI z)), (2, .int (nI w))]) hx hb dX12_ripples_47 rfl hl (by decide) rfl (fun ls hl => ?_)
    refine lv_loop1 48 (fun (q : Nat) => w - q) (fun (q : Nat) (H : Heap) (locs : List Loc) (ls : Array Slot) => (PP G (modO a c9 th) H) ∧ (PP G (sixW G a (upN Ns z ((rgT N w k).1)) f g) H) ∧ (PP G (twoW G a (upN Ns z (oaT N (rgS N w) q))) H) ∧ (PP G (ar1 G a 113 16 rw9) H) ∧ (va_S (orA (rng a 93 9) (rng a 113 1)) s.heap H locs) ∧ (lv_has ls 4 [(0, .ref (a 93)), (1, .int (nI z)), (2, .int (nI w)), (3, .int (nI q))]) ∧ (q ≤ w)) (fun _ => []) (fun q H locs ls hI ih => ?_) 0 ⟨h_o, h_x, h_y, h_row, hS, lv_sub hl [1, 2, 3, 0] rfl, by omega⟩ rfl
    obtain ⟨h_o, h_x, h_y, h_row, hS, hl, hq⟩ := hI
    have ih2 := @ih
    clear ih
    have hO := oaT_g (M := N) (Lf := rgS N w) q
    refine lv_iload_n hx hb dX12_ripples_48 rfl (lv_at hl 3 rfl) ?_
    refine lv_iload_n hx hb dX12_ripples_49 rfl (lv_at hl 2 rfl) ?_
    refine lv_icmp_ge (tgt := 71) hx hb dX12_ripples_50 (by decide) (fun c50 => ?_) (fun c50 => ?_)
    · skip
      have c50 := cv_le (by omega) (by omega) c50
      have eq9 : q = w := by omega
      refine lv_aload_n hx hb dX12_ripples_71 rfl (lv_at hl 0 rfl) ?_
      refine lv_iload_n hx hb dX12_ripples_72 rfl (lv_at hl 1 rfl) ?_
      refine lv_aload_n hx hb dX12_ripples_73 rfl (lv_at hl 0 rfl) ?_
      refine va_get (D := G.1) (ci := 12) (v := .int c9) (C := RX12) (T := TX12) (N := 23) hx hb hts inX12_ripples_12 hown hK h_o 0 rfl rfl 21 (by decide) (hts (.fieldLink RX12 97 "GateLedgerModel" "carry" "I") (List.mem_of_getElem? (i := 2) (by decide +kernel))) (fun _ h9 => h9) rfl dX12_ripples_74 ?_
      refine lv_as (y := nI ((rgT N w w).2)) ((hc (by omega)).trans (by rw [ek])) ?_
      refine wr_i (va_runV (As := [.int (nI z), .int (nI ((rgT N w w).2))]) (rest := []) FX (c_X12_addsOut l G a ha c9 th Ns z (oaT N (rgS N w) q) ((rgT N w w).2) hz (by omega)) (cwV 2 hts gX12_ripples_X12_addsOut rfl rfl rfl (by decide +kernel) ⟨Nat.le_of_ble_eq_true rfl, Nat.le_of_ble_eq_true rfl⟩) (preV hK hNW (⟨h_o, h_y⟩) (va_recv hK h_o (ci := 12) (q0 := 0) rfl rfl)) rfl rfl hl.1 rfl (lv_room (Nat.le_of_ble_eq_true rfl)) dX12_ripples_77 ⟨Nat.le_of_ble_eq_true rfl, Nat.le_of_ble_eq_true rfl⟩) hS (fun q h => Or.inl ((rng_sub (by omega)) q h)) (fun rr _ H locs er3 hP9 hk4 hS => ?_)
      have h_y : PP G (twoW G a (upN Ns z (addO (oaT N (rgS N w) q) ((rgT N w w).2)))) H := hP9
      have h_o : PP G (modO a c9 th) H := kp hk4 h_o (dj_cons (rng_no ha (by omega)) (dj_nil))
      have h_x : PP G (sixW G a (upN Ns z ((rgT N w k).1)) f g) H := kp hk4 h_x (dj_cons (rng_no ha (by omega)) (dj_cons (rng_no ha (by omega)) (dj_cons (rng_no ha (by omega)) (dj_cons (rng_no ha (by omega)) (dj_cons (rng_no ha (by omega)) (dj_cons (rng_no ha (by omega)) (dj_nil)))))))
      have h_row : PP G (ar1 G a 113 16 rw9) H := kp hk4 h_row (dj_cons (rng_no ha (by omega)) (dj_nil))
      refine lv_pop hx hb dX12_ripples_80 rfl ?_
      have e9 := oa_same (X := (rgT N w w).1) (L := rgS N w) w
      have hb8 := rgT_b (M := N) (w := w) w
      have u9 := oa_out (X := (rgT N w w).1) (M := N) (L := rgS N w) hb8.2.2.1 hb8.2.2.2 w
      rw [ek] at h_x hF
      rw [eq9] at h_y
      exact en_wv (c9, f, g, rw9) hx hb hr hlocks hS (FS_same (N' := riO N w) hF e9.1 e9.2.2.1 e9.2.2.2.1 e9.2.2.2.2.1) ⟨h_o, six_same (N' := riO N w) h_x e9.1 e9.2.1 e9.2.2.1 e9.2.2.2.2.2, two_same (N' := riO N w) h_y (ao_out u9.1 u9.2).1 (ao_out u9.1 u9.2).2, h_row⟩ dX12_ripples_81
    · skip
      have c50 := cv_nle (by omega) (by omega) c50
      refine lv_aload_n hx hb dX12_ripples_53 rfl (lv_at hl 0 rfl) ?_
      refine lv_iload_n hx hb dX12_ripples_54 rfl (lv_at hl 1 rfl) ?_
      refine lv_aload_n hx hb dX12_ripples_55 rfl (lv_at hl 0 rfl) ?_
      refine va_get (D := G.1) (ci := 12) (v := .ref (a 113)) (C := RX12) (T := TX12) (N := 23) hx hb hts inX12_ripples_12 hown hK h_o 0 rfl rfl 19 (by decide) (hts (.fieldLink RX12 67 "GateLedgerModel" "row" "[I") (List.mem_of_getElem? (i := 1) (by decide +kernel))) (fun _ h9 => h9) rfl dX12_ripples_56 ?_
      refine lv_iload_n hx hb dX12_ripples_59 rfl (lv_at hl 3 rfl) ?_
      refine pp_iald hx hb hK h_row 0 rfl (vp_in_nI (by omega) (by omega)) dX12_ripples_60 ?_
      refine lv_as (congrArg rw9 (nI_clamp (by omega))) ?_
      refine lv_as (y := nI (rgS N w q)) (hrw _ (by omega)) ?_
      refine wr_i (va_runV (As := [.int (nI z), .int (nI (rgS N w q))]) (rest := []) FX (c_X12_addsOut l G a ha c9 th Ns z (oaT N (rgS N w) q) (rgS N w q) hz (by omega)) (cwV 2 hts gX12_ripples_X12_addsOut rfl rfl rfl (by decide +kernel) ⟨Nat.le_of_ble_eq_true rfl, Nat.le_of_ble_eq_true rfl⟩) (preV hK hNW (⟨h_o, h_y⟩) (va_recv hK h_o (ci := 12) (q0 := 0) rfl rfl)) rfl rfl hl.1 rfl (lv_room (Nat.le_of_ble_eq_true rfl)) dX12_ripples_61 ⟨Nat.le_of_ble_eq_true rfl, Nat.le_of_ble_eq_true rfl⟩) hS (fun q h => Or.inl ((rng_sub (by omega)) q h)) (fun rr _ H locs er6 hP9 hk7 hS => ?_)
      have h_y : PP G (twoW G a (upN Ns z (addO (oaT N (rgS N w) q) (rgS N w q)))) H := hP9
      have h_o : PP G (modO a c9 th) H := kp hk7 h_o (dj_cons (rng_no ha (by omega)) (dj_nil))
      have h_x : PP G (sixW G a (upN Ns z ((rgT N w k).1)) f g) H := kp hk7 h_x (dj_cons (rng_no ha (by omega)) (dj_cons (rng_no ha (by omega)) (dj_cons (rng_no ha (by omega)) (dj_cons (rng_no ha (by omega)) (dj_cons (rng_no ha (by omega)) (dj_cons (rng_no ha (by omega)) (dj_nil)))))))
      have h_row : PP G (ar1 G a 113 16 rw9) H := kp hk7 h_row (dj_cons (rng_no ha (by omega)) (dj_nil))
      refine lv_pop hx hb dX12_ripples_64 rfl ?_
      refine lv_iinc (v := nI (q + 1)) (lv' := [(3, .int (nI (q + 1))), (0, .ref (a 93)), (1, .int (nI z)), (2, .int (nI w))]) hx hb dX12_ripples_65 hl (k := 3) rfl (by first | exact nI_add _ 1 | decide) (by decide) rfl (fun ls hl => ?_)
      refine lv_goto (tgt := 48) hx hb dX12_ripples_68 (by decide) ?_
      exact ih2 (q + 1) _ _ _ ⟨h_o, h_x, h_y, h_row, hS, lv_sub hl [1, 2, 3, 0] rfl, by omega⟩ (by show w - (q + 1) < w - q; omega)
  · skip
    have c4 := cv_nle (by omega) (by omega) c4
    refine lv_aload_n hx hb dX12_ripples_7 rfl (lv_at hl 0 rfl) ?_
    refine va_get (D := G.1) (ci := 12) (v := .ref (a 113)) (C := RX12) (T := TX12) (N := 23) hx hb hts inX12_ripples_12 hown hK h_o 0 rfl rfl 19 (by decide) (hts (.fieldLink RX12 67 "GateLedgerModel" "row" "[I") (List.mem_of_getElem? (i := 1) (by decide +kernel))) (fun _ h9 => h9) rfl dX12_ripples_8 ?_
    refine lv_iload_n hx hb dX12_ripples_11 rfl (lv_at hl 3 rfl) ?_
    refine lv_iload_n hx hb dX12_ripples_12 rfl (lv_at hl 3 rfl) ?_
    refine lv_if_ne (tgt := 26) hx hb dX12_ripples_13 (by decide) (fun c13 => ?_) (fun c13 => ?_)
    · skip
      have c13 := cv_ne (by omega) (by omega) (show ¬ nI k = nI 0 from c13)
      refine lv_aload_n hx hb dX12_ripples_26 rfl (lv_at hl 0 rfl) ?_
      refine lv_iload_n hx hb dX12_ripples_27 rfl (lv_at hl 1 rfl) ?_
      refine lv_iload_n hx hb dX12_ripples_28 rfl (lv_at hl 3 rfl) ?_
      refine lv_iload_n hx hb dX12_ripples_29 rfl (lv_at hl 2 rfl) ?_
      refine lv_iload_n hx hb dX12_ripples_30 rfl (lv_at hl 3 rfl) ?_
      refine lv_iadd hx hb dX12_ripples_31 ?_
      refine lv_as (nI_add _ _) ?_
      refine lv_aload_n hx hb dX12_ripples_32 rfl (lv_at hl 0 rfl) ?_
      refine va_get (D := G.1) (ci := 12) (v := .int c9) (C := RX12) (T := TX12) (N := 23) hx hb hts inX12_ripples_12 hown hK h_o 0 rfl rfl 21 (by decide) (hts (.fieldLink RX12 97 "GateLedgerModel" "carry" "I") (List.mem_of_getElem? (i := 2) (by decide +kernel))) (fun _ h9 => h9) rfl dX12_ripples_33 ?_
      refine lv_as (y := nI ((rgT N w k).2)) (hc c13) ?_
      refine wr_i (va_runV (As := [.int (nI z), .int (nI k), .int (nI (w + k)), .int (nI ((rgT N w k).2))]) (rest := [.int (nI k), .ref (a 113)]) FX (c_X12_full l G a ha c9 th Ns z ((rgT N w k).1) f g k (w + k) ((rgT N w k).2) hz (by omega) hF) (cwV 4 hts gX12_ripples_X12_full rfl rfl rfl (by decide +kernel) ⟨Nat.le_of_ble_eq_true rfl, Nat.le_of_ble_eq_true rfl⟩) (preV hK hNW (⟨h_o, h_x⟩) (va_recv hK h_o (ci := 12) (q0 := 0) rfl rfl)) rfl rfl hl.1 rfl (lv_room (Nat.le_of_ble_eq_true rfl)) dX12_ripples_36 ⟨Nat.le_of_ble_eq_true rfl, Nat.le_of_ble_eq_true rfl⟩) hS (fun q h => Or.inl ((rng_sub (by omega)) q h)) (fun rr v9 H locs ⟨er11, hF10⟩ hP9 hk12 hS => ?_)
      have h_o : PP G (modO a (nI (nG ((rgT N w k).1) + 4)) th) H := hP9.1
      have h_x : PP G (sixW G a (upN Ns z (fuN ((rgT N w k).1) k (w + k) ((rgT N w k).2))) v9.1 v9.2) H := hP9.2
      have h_y : PP G (twoW G a (upN Ns z N)) H := kp hk12 h_y (dj_cons (rng_no ha (by omega)) (dj_cons (rng_no ha (by omega)) (dj_nil)))
      have h_row : PP G (ar1 G a 113 16 rw9) H := kp hk12 h_row (dj_cons (rng_no ha (by omega)) (dj_nil))
      refine lv_as (y := nI (nG ((rgT N w k).1) + 1)) er11 ?_
      refine pp_iast hx hb hK h_row hS (Or.inr (rng_in (by omega))) (vp_in_nI (by omega) (by omega)) dX12_ripples_39 (fun H locs hP9 hk14 _ hS => ?_)
      rw [nI_clamp (by omega)] at hP9
      have h_row : PP G (ar1 G a 113 16 (upd rw9 k (nI (nG ((rgT N w k).1) + 1)))) H := hP9
      have h_o : PP G (modO a (nI (nG ((rgT N w k).1) + 4)) th) H := kp hk14 h_o (dj_cons (ne_a ha (by omega)) (dj_nil))
      have h_x : PP G (sixW G a (upN Ns z (fuN ((rgT N w k).1) k (w + k) ((rgT N w k).2))) v9.1 v9.2) H := kp hk14 h_x (dj_cons (ne_a ha (by omega)) (dj_cons (ne_a ha (by omega)) (dj_cons (ne_a ha (by omega)) (dj_cons (ne_a ha (by omega)) (dj_cons (ne_a ha (by omega)) (dj_cons (ne_a ha (by omega)) (dj_nil)))))))
      have h_y : PP G (twoW G a (upN Ns z N)) H := kp hk14 h_y (dj_cons (ne_a ha (by omega)) (dj_cons (ne_a ha (by omega)) (dj_nil)))
      refine lv_iinc (v := nI (k + 1)) (lv' := [(3, .int (nI (k + 1))), (0, .ref (a 93)), (1, .int (nI z)), (2, .int (nI w))]) hx hb dX12_ripples_40 hl (k := 3) rfl (by first | exact nI_add _ 1 | decide) (by decide) rfl (fun ls hl => ?_)
      refine lv_goto (tgt := 2) hx hb dX12_ripples_43 (by decide) ?_
      exact ih1 (k + 1) v9.1 v9.2 (nI (nG ((rgT N w k).1) + 4)) (upd rw9 k (nI (nG ((rgT N w k).1) + 1))) _ _ _ ⟨h_o, (by rw [rg_s c13]; exact h_x), h_y, h_row, hS, lv_sub hl [1, 2, 3, 0] rfl, by omega, by rw [rg_s c13]; exact hF10, fun _ => by rw [rg_s c13], upd_fill (v := fun r => nI (rgS N w r)) hrw (congrArg nI (show nG (rgT N w k).1 + 1 = rgS N w k from (if_neg c13).symm))⟩ (by show w - (k + 1) < w - k; omega)
    · skip
      have c13 := cv_eq (by omega) (by omega) (show nI k = nI 0 from c13)
      refine lv_aload_n hx hb dX12_ripples_16 rfl (lv_at hl 0 rfl) ?_
      refine lv_iload_n hx hb dX12_ripples_17 rfl (lv_at hl 1 rfl) ?_
      refine lv_iconst (v := nI 0) hx hb dX12_ripples_18 (by decide) ?_
      refine lv_iload_n hx hb dX12_ripples_19 rfl (lv_at hl 2 rfl) ?_
      refine wr_i (va_runV (As := [.int (nI z), .int (nI 0), .int (nI w)]) (rest := [.int (nI k), .ref (a 113)]) FX (c_X12_half l G a ha c9 th Ns z ((rgT N w k).1) f g 0 w hz (by omega) hF) (cwV 3 hts gX12_ripples_X12_half rfl rfl rfl (by decide +kernel) ⟨Nat.le_of_ble_eq_true rfl, Nat.le_of_ble_eq_true rfl⟩) (preV hK hNW (⟨h_o, h_x⟩) (va_recv hK h_o (ci := 12) (q0 := 0) rfl rfl)) rfl rfl hl.1 rfl (lv_room (Nat.le_of_ble_eq_true rfl)) dX12_ripples_20 ⟨Nat.le_of_ble_eq_true rfl, Nat.le_of_ble_eq_true rfl⟩) hS (fun q h => Or.inl ((rng_sub (by omega)) q h)) (fun rr v15 H locs ⟨er17, hF16⟩ hP9 hk18 hS => ?_)
      have h_o : PP G (modO a (nI (nG ((rgT N w k).1) + 1)) th) H := hP9.1
      have h_x : PP G (sixW G a (upN Ns z (hfN ((rgT N w k).1) 0 w)) v15.1 v15.2) H := hP9.2
      have h_y : PP G (twoW G a (upN Ns z N)) H := kp hk18 h_y (dj_cons (rng_no ha (by omega)) (dj_cons (rng_no ha (by omega)) (dj_nil)))
      have h_row : PP G (ar1 G a 113 16 rw9) H := kp hk18 h_row (dj_cons (rng_no ha (by omega)) (dj_nil))
      refine lv_as (y := nI (nG ((rgT N w k).1))) er17 ?_
      refine lv_goto (tgt := 39) hx hb dX12_ripples_23 (by decide) ?_
      refine pp_iast hx hb hK h_row hS (Or.inr (rng_in (by omega))) (vp_in_nI (by omega) (by omega)) dX12_ripples_39 (fun H locs hP9 hk20 _ hS => ?_)
      rw [nI_clamp (by omega)] at hP9
      have h_row : PP G (ar1 G a 113 16 (upd rw9 k (nI (nG ((rgT N w k).1))))) H := hP9
      have h_o : PP G (modO a (nI (nG ((rgT N w k).1) + 1)) th) H := kp hk20 h_o (dj_cons (ne_a ha (by omega)) (dj_nil))
      have h_x : PP G (sixW G a (upN Ns z (hfN ((rgT N w k).1) 0 w)) v15.1 v15.2) H := kp hk20 h_x (dj_cons (ne_a ha (by omega)) (dj_cons (ne_a ha (by omega)) (dj_cons (ne_a ha (by omega)) (dj_cons (ne_a ha (by omega)) (dj_cons (ne_a ha (by omega)) (dj_cons (ne_a ha (by omega)) (dj_nil)))))))
      have h_y : PP G (twoW G a (upN Ns z N)) H := kp hk20 h_y (dj_cons (ne_a ha (by omega)) (dj_cons (ne_a ha (by omega)) (dj_nil)))
      refine lv_iinc (v := nI (k + 1)) (lv' := [(3, .int (nI (k + 1))), (0, .ref (a 93)), (1, .int (nI z)), (2, .int (nI w))]) hx hb dX12_ripples_40 hl (k := 3) rfl (by first | exact nI_add _ 1 | decide) (by decide) rfl (fun ls hl => ?_)
      refine lv_goto (tgt := 2) hx hb dX12_ripples_43 (by decide) ?_
      exact ih1 (k + 1) v15.1 v15.2 (nI (nG ((rgT N w k).1) + 1)) (upd rw9 k (nI (nG ((rgT N w k).1)))) _ _ _ ⟨h_o, (by rw [rg_0 c13]; exact h_x), h_y, h_row, hS, lv_sub hl [1, 2, 3, 0] rfl, by omega, by rw [rg_0 c13]; exact hF16, fun _ => by rw [rg_0 c13], upd_fill (v := fun r => nI (rgS N w r)) hrw (congrArg nI (show nG (rgT N w k).1 = rgS N w k from (if_pos c13).symm))⟩ (by show w - (k + 1) < w - k; omega)
set_option maxRecDepth 20000 in
theorem inX12_joins_12 : ∀ w ∈ u_ws RX12 TX12 23, w ∈ wsX12_joins := by decide +kernel
set_option maxHeartbeats 4000000 in
set_option maxRecDepth 100000 in
/-- joins -/
theorem c_X12_joins1 (l : Launch) (G : GG) (a : Nat → Nat) (ha : Inj a) (cy th : Int32) (Ns : Nat → NT) (z : Nat) (N : NT) (fs sc : FN) (w m9 : Nat) (p0 g0 np0 ng0 rw0 : FN) (hz : z < 4) (hw : 1 ≤ w ∧ w ≤ 6) (hm : m9 = 1) (hm2 : m9 < 3) (hg : nG N = 2 * w) (ho : nO N = 0) (hFS : FS (upN Ns z N) fs sc)  : Met l yX12_joins wsX12_joins ({ frames := 1, cells := 0, slots := 0, locals := 25 } : Room) (PcB G [.ref (a 93), .int (nI z), .int (nI m9), .int (nI w)] (fun H => PP G (modO a cy th) H ∧ PP G (sixW G a (upN Ns z N) fs sc) H ∧ PP G (twoW G a (upN Ns z N)) H ∧ PP G (ar1 G a 109 6 p0) H ∧ PP G (ar1 G a 110 6 g0) H ∧ PP G (ar1 G a 111 6 np0) H ∧ PP G (ar1 G a 112 6 ng0) H ∧ PP G (ar1 G a 113 16 rw0) H)) (QV (fun u : FN × FN × FN × FN × FN × FN × FN => FS (upN Ns z (joO (m9 = 1) N w)) u.1 u.2.1) (fun u H => PP G (sixW G a (upN Ns z (joO (m9 = 1) N w)) u.1 u.2.1) H ∧ PP G (twoW G a (upN Ns z (joO (m9 = 1) N w))) H ∧ PP G (ar1 G a 109 6 u.2.2.1) H ∧ PP G (ar1 G a 110 6 u.2.2.2.1) H ∧ PP G (ar1 G a 111 6 u.2.2.2.2.1) H ∧ PP G (ar1 G a 112 6 u.2.2.2.2.2.1) H ∧ PP G (ar1 G a 113 16 u.2.2.2.2.2.2) H) (orA (rng a 94 8) (rng a 109 5))) 0 0 (orA (rng a 94 8) (rng a 109 5)) := by
  refine Met.ofW (cc := cX12_joins) (maxL := 9) (ret := none) (by decide) rfl ?_
  intro p e s m args below meth c s₁ B hml hv
  obtain ⟨rfl, hB, hK, hNW⟩ := hv
  have hx := B.exec
  have hb := B.bytes
  have hr := B.returns
  have hts := atoms_spec (ws := wsX12_joins) B.pre
  have hown : s.vm.findClass RX12 = some m.cls := findClass_of_methodNamed B.named
  have hlocks := B.notSynchronized
  have FX : CallFix p m c cX12_joins 9 s ([.ref (a 93), .int (nI z), .int (nI m9), .int (nI w)] : List Value).toArray wsX12_joins RX12 := ⟨hx, hb, hml, hown, hts⟩
  have hl := lv_entry ([.ref (a 93), .int (nI z), .int (nI m9), .int (nI w)]) (n := 9) (Nat.le_of_ble_eq_true rfl)
  rw [lg_entry_eq]
  generalize (lg_sl ([.ref (a 93), .int (nI z), .int (nI m9), .int (nI w)]) ++ List.replicate (9 - (lg_sl ([.ref (a 93), .int (nI z), .int (nI m9), .int (nI w)])).length) Slot.unset).toArray = ls at hl ⊢
  have hl : lv_has ls 9 [(0, .ref (a 93)), (1, .int (nI z)), (2, .int (nI m9)), (3, .int (nI w))] := hl
  obtain ⟨h_o, h_x, h_y, h_p, h_g, h_nextP, h_nextG, h_row⟩ := hB
  have hS : va_S (orA (rng a 94 8) (rng a 109 5)) s.heap s.heap [] := va_S.rf
  refine lv_iconst (v := nI 0) hx hb dX12_joins_0 (by decide) ?_
  refine lv_istore (lv' := [(4, .int (nI 0)), (0, .ref (a 93)), (1, .int (nI z)), (2, .int (nI m9)), (3, .int (nI w))]) hx hb dX12_joins_1 hl (by decide) rfl (fun ls hl => ?_)
  refine lv_loop6 3 (fun (k : Nat) (f : FN) (g : FN) (f1 : FN) (f2 : FN) (f5 : FN) => w - k) (fun (k : Nat) (f : FN) (g : FN) (f1 : FN) (f2 : FN) (f5 : FN) (H : Heap) (locs : List Loc) (ls : Array Slot) => (PP G (sixW G a (upN Ns z (heT N w k)) f g) H) ∧ (PP G (twoW G a (upN Ns z N)) H) ∧ (PP G (ar1 G a 109 6 f1) H) ∧ (PP G (ar1 G a 110 6 f2) H) ∧ (PP G (ar1 G a 111 6 np0) H) ∧ (PP G (ar1 G a 112 6 ng0) H) ∧ (PP G (ar1 G a 113 16 f5) H) ∧ (va_S (orA (rng a 94 8) (rng a 109 5)) s.heap H locs) ∧ (lv_has ls 9 [(0, .ref (a 93)), (1, .int (nI z)), (2, .int (nI m9)), (3, .int (nI w)), (4, .int (nI k))]) ∧ (k ≤ w) ∧ (FS (upN Ns z (heT N w k)) f g) ∧ (∀ r, r < k → f1 r = nI (nG N + 2 * r)) ∧ (∀ r, r < k → f2 r = nI (nG N + 2 * r + 1)) ∧ (∀ r, r < k → f5 r = nI (nG N + 2 * r))) (fun _ _ _ _ _ _ => []) (fun k f g f1 f2 f5 H locs ls hI ih => ?_) 0 fs sc p0 g0 rw0 ⟨h_x, h_y, h_p, h_g, h_nextP, h_nextG, h_row, hS, lv_sub hl [1, 2, 3, 4, 0] rfl, by omega, hFS, fun r h => absurd h (Nat.not_lt_zero r), fun r h => absurd h (Nat.not_lt_zero r), fun r h => absurd h (Nat.not_lt_zero r)⟩ rfl
  obtain ⟨h_x, h_y, h_p, h_g, h_nextP, h_nextG, h_row, hS, hl, hk, hF, h1, h2, h5⟩ := hI
  have ih1 := @ih
  clear ih
  have hE := heT_g N w k
  refine lv_iload hx hb dX12_joins_3 (lv_at hl 4 rfl) ?_
  refine lv_iload_n hx hb dX12_joins_5 rfl (lv_at hl 3 rfl) ?_
  refine lv_icmp_ge (tgt := 67) hx hb dX12_joins_6 (by decide) (fun c6 => ?_) (fun c6 => ?_)
  · skip
    have c6 := cv_le (by omega) (by omega) c6
    refine lv_iconst (v := nI 1) hx hb dX12_joins_67 (by decide) ?_
    refine lv_istore (lv' := [(4, .int (nI 1)), (0, .ref (a 93)), (1, .int (nI z)), (2, .int (nI m9)), (3, .int (nI w))]) hx hb dX12_joins_68 hl (by decide) rfl (fun ls hl => ?_)
    refine lv_loop8 70 (fun (n : Nat) (f : FN) (g : FN) (f1 : FN) (f2 : FN) (f3 : FN) (f4 : FN) (S9 : JS) => 3 - n) (fun (n : Nat) (f : FN) (g : FN) (f1 : FN) (f2 : FN) (f3 : FN) (f4 : FN) (S9 : JS) (H : Heap) (locs : List Loc) (ls : Array Slot) => (PP G (sixW G a (upN Ns z S9.1) f g) H) ∧ (PP G (twoW G a (upN Ns z N)) H) ∧ (PP G (ar1 G a 109 6 f1) H) ∧ (PP G (ar1 G a 110 6 f2) H) ∧ (PP G (ar1 G a 111 6 f3) H) ∧ (PP G (ar1 G a 112 6 f4) H) ∧ (PP G (ar1 G a 113 16 f5) H) ∧ (va_S (orA (rng a 94 8) (rng a 109 5)) s.heap H locs) ∧ (lv_has ls 9 [(0, .ref (a 93)), (1, .int (nI z)), (2, .int (nI m9)), (3, .int (nI w)), (4, .int (nI (2 ^ n)))]) ∧ (n ≤ 3 ∧ (n = 0 ∨ 2 ^ n < 2 * w)) ∧ (S9 = jdT (m9 = 1) w (joS N w) n) ∧ (FS (upN Ns z S9.1) f g) ∧ (∀ r, r < w → f1 r = nI (S9.2.1 r)) ∧ (∀ r, r < w → f2 r = nI (S9.2.2 r))) (fun _ _ _ _ _ _ _ _ => []) (fun n f g f1 f2 f3 f4 S9 H locs ls hI ih => ?_) 0 f g f1 f2 np0 ng0 (joS N w) ⟨(by rw [show k = w by omega] at h_x; exact h_x), h_y, h_p, h_g, h_nextP, h_nextG, h_row, hS, lv_sub hl [1, 2, 3, 4, 0] rfl, ⟨by omega, Or.inl rfl⟩, rfl, by rw [show k = w by omega] at hF; exact hF, fun r h => h1 r (by omega), fun r h => h2 r (by omega)⟩ rfl
    obtain ⟨h_x, h_y, h_p, h_g, h_nextP, h_nextG, h_row, hS, hl, hn, hS9, hF, hp1, hp2⟩ := hI
    have ih2 := @ih
    clear ih
    have hp9 := pow_case (n := n) hn.1
    have hJ := jdT_g (sp := (m9 = 1)) (w := w) (s := joS N w) n
    rw [← hS9] at hJ
    have hJ0 : nG (joS N w).1 = nG N + 2 * w := (heT_g N w w).1
    have hJ1 : nO (joS N w).1 = nO N := (heT_g N w w).2
    have hq9 : 3 * w * n ≤ 3 * w * 3 := Nat.mul_le_mul_left _ hn.1
    refine lv_iload hx hb dX12_joins_70 (lv_at hl 4 rfl) ?_
    refine lv_iload_n hx hb dX12_joins_72 rfl (lv_at hl 3 rfl) ?_
    refine lv_icmp_ge (tgt := 310) hx hb dX12_joins_73 (by decide) (fun c73 => ?_) (fun c73 => ?_)
    · skip
      have c73 := cv_le (by omega) (by omega) c73
      have en : n = rdN w := rd_eq hw hn.1 c73 hn.2
      have hu9 : nU S9.1 = nU N := by rw [hS9]; exact (jdT_u n).trans (heT_u w)
      have ho9 : nO S9.1 = nO N := hJ.2.2.trans hJ1
      have h_y : PP G (twoW G a (upN Ns z S9.1)) H := two_same h_y ho9 hu9
      refine lv_aload_n hx hb dX12_joins_310 rfl (lv_at hl 0 rfl) ?_
      refine lv_iload_n hx hb dX12_joins_311 rfl (lv_at hl 1 rfl) ?_
      refine lv_aload_n hx hb dX12_joins_312 rfl (lv_at hl 0 rfl) ?_
      refine va_get (D := G.1) (ci := 12) (v := .ref (a 113)) (C := RX12) (T := TX12) (N := 23) hx hb hts inX12_joins_12 hown hK (ro hS h_o (dj_cons (or_no (rng_no ha (by omega)) (rng_no ha (by omega))) (dj_nil))) 0 rfl rfl 19 (by decide) (hts (.fieldLink RX12 67 "GateLedgerModel" "row" "[I") (List.mem_of_getElem? (i := 3) (by decide +kernel))) (fun _ h9 => h9) rfl dX12_joins_313 ?_
      refine lv_iconst (v := nI 0) hx hb dX12_joins_316 (by decide) ?_
      refine pp_iald hx hb hK h_row 0 rfl (vp_in_nI (by omega) (by omega)) dX12_joins_317 ?_
      refine lv_as (congrArg f5 (nI_clamp (by omega))) ?_
      refine lv_as (y := nI (nG N + 2 * 0)) (h5 _ (by omega)) ?_
      refine wr_i (va_runV (As := [.int (nI z), .int (nI (nG N + 2 * 0))]) (rest := []) FX (c_X12_addsOut l G a ha cy th Ns z S9.1 (nG N + 2 * 0) hz (by omega)) (cwV 2 hts gX12_joins_X12_addsOut rfl rfl rfl (by decide +kernel) ⟨Nat.le_of_ble_eq_true rfl, Nat.le_of_ble_eq_true rfl⟩) (preV hK hNW (⟨(ro hS h_o (dj_cons (or_no (rng_no ha (by omega)) (rng_no ha (by omega))) (dj_nil))), h_y⟩) (va_recv hK (ro hS h_o (dj_cons (or_no (rng_no ha (by omega)) (rng_no ha (by omega))) (dj_nil))) (ci := 12) (q0 := 0) rfl rfl)) rfl rfl hl.1 rfl (lv_room (Nat.le_of_ble_eq_true rfl)) dX12_joins_318 ⟨Nat.le_of_ble_eq_true rfl, Nat.le_of_ble_eq_true rfl⟩) hS (fun q h => Or.inl ((rng_sub (by omega)) q h)) (fun rr _ H locs er3 hP9 hk4 hS => ?_)
      have h_y : PP G (twoW G a (upN Ns z (addO S9.1 (nG N + 2 * 0)))) H := hP9
      have h_x : PP G (sixW G a (upN Ns z S9.1) f g) H := kp hk4 h_x (dj_cons (rng_no ha (by omega)) (dj_cons (rng_no ha (by omega)) (dj_cons (rng_no ha (by omega)) (dj_cons (rng_no ha (by omega)) (dj_cons (rng_no ha (by omega)) (dj_cons (rng_no ha (by omega)) (dj_nil)))))))
      have h_p : PP G (ar1 G a 109 6 f1) H := kp hk4 h_p (dj_cons (rng_no ha (by omega)) (dj_nil))
      have h_g : PP G (ar1 G a 110 6 f2) H := kp hk4 h_g (dj_cons (rng_no ha (by omega)) (dj_nil))
      have h_nextP : PP G (ar1 G a 111 6 f3) H := kp hk4 h_nextP (dj_cons (rng_no ha (by omega)) (dj_nil))
      have h_nextG : PP G (ar1 G a 112 6 f4) H := kp hk4 h_nextG (dj_cons (rng_no ha (by omega)) (dj_nil))
      have h_row : PP G (ar1 G a 113 16 f5) H := kp hk4 h_row (dj_cons (rng_no ha (by omega)) (dj_nil))
      refine lv_pop hx hb dX12_joins_321 rfl ?_
      refine lv_iconst (v := nI 1) hx hb dX12_joins_322 (by decide) ?_
      refine lv_istore (lv' := [(4, .int (nI 1)), (0, .ref (a 93)), (1, .int (nI z)), (2, .int (nI m9)), (3, .int (nI w))]) hx hb dX12_joins_323 hl (by decide) rfl (fun ls hl => ?_)
      refine lv_loop3 325 (fun (v : Nat) (f : FN) (g : FN) => w - v) (fun (v : Nat) (f : FN) (g : FN) (H : Heap) (locs : List Loc) (ls : Array Slot) => (PP G (sixW G a (upN Ns z (ojT S9.1 (fun k => nG N + 2 * k) S9.2.2 v)) f g) H) ∧ (PP G (twoW G a (upN Ns z (ojT S9.1 (fun k => nG N + 2 * k) S9.2.2 v))) H) ∧ (PP G (ar1 G a 109 6 f1) H) ∧ (PP G (ar1 G a 110 6 f2) H) ∧ (PP G (ar1 G a 111 6 f3) H) ∧ (PP G (ar1 G a 112 6 f4) H) ∧ (PP G (ar1 G a 113 16 f5) H) ∧ (va_S (orA (rng a 94 8) (rng a 109 5)) s.heap H locs) ∧ (lv_has ls 9 [(0, .ref (a 93)), (1, .int (nI z)), (2, .int (nI m9)), (3, .int (nI w)), (4, .int (nI (v + 1)))]) ∧ (v + 1 ≤ w) ∧ (FS (upN Ns z (ojT S9.1 (fun k => nG N + 2 * k) S9.2.2 v)) f g)) (fun _ _ _ => []) (fun v f g H locs ls hI ih => ?_) 0 f g ⟨(six_same (N' := (ojT S9.1 (fun k => nG N + 2 * k) S9.2.2 0)) h_x rfl rfl rfl rfl), h_y, h_p, h_g, h_nextP, h_nextG, h_row, hS, lv_sub hl [1, 2, 3, 4, 0] rfl, by omega, FS_same (N' := (ojT S9.1 (fun k => nG N + 2 * k) S9.2.2 0)) hF rfl rfl rfl rfl⟩ rfl
      obtain ⟨h_x, h_y, h_p, h_g, h_nextP, h_nextG, h_row, hS, hl, hv, hF⟩ := hI
      have ih6 := @ih
      clear ih
      have hO := ojT_g (M := S9.1) (X := (fun k => nG N + 2 * k)) (C := S9.2.2) v
      refine lv_iload hx hb dX12_joins_325 (lv_at hl 4 rfl) ?_
      refine lv_iload_n hx hb dX12_joins_327 rfl (lv_at hl 3 rfl) ?_
      refine lv_icmp_ge (tgt := 365) hx hb dX12_joins_328 (by decide) (fun c328 => ?_) (fun c328 => ?_)
      · skip
        have c328 := cv_le (by omega) (by omega) c328
        have ev : v = w - 1 := by omega
        refine lv_aload_n hx hb dX12_joins_365 rfl (lv_at hl 0 rfl) ?_
        refine lv_iload_n hx hb dX12_joins_366 rfl (lv_at hl 1 rfl) ?_
        refine lv_aload_n hx hb dX12_joins_367 rfl (lv_at hl 0 rfl) ?_
        refine va_get (D := G.1) (ci := 12) (v := .ref (a 110)) (C := RX12) (T := TX12) (N := 23) hx hb hts inX12_joins_12 hown hK (ro hS h_o (dj_cons (or_no (rng_no ha (by omega)) (rng_no ha (by omega))) (dj_nil))) 0 rfl rfl 16 (by decide) (hts (.fieldLink RX12 58 "GateLedgerModel" "g" "[I") (List.mem_of_getElem? (i := 2) (by decide +kernel))) (fun _ h9 => h9) rfl dX12_joins_368 ?_
        refine lv_iload_n hx hb dX12_joins_371 rfl (lv_at hl 3 rfl) ?_
        refine lv_iconst (v := nI 1) hx hb dX12_joins_372 (by decide) ?_
        refine lv_isub hx hb dX12_joins_373 ?_
        refine lv_as (y := nI (w - 1)) (pk_sub (by omega)) ?_
        refine pp_iald hx hb hK h_g 0 rfl (vp_in_nI (by omega) (by omega)) dX12_joins_374 ?_
        refine lv_as (congrArg f2 (nI_clamp (by omega))) ?_
        refine lv_as (y := nI (S9.2.2 (w - 1))) (hp2 _ (by omega)) ?_
        refine wr_i (va_runV (As := [.int (nI z), .int (nI (S9.2.2 (w - 1)))]) (rest := []) FX (c_X12_addsOut l G a ha cy th Ns z (ojT S9.1 (fun k => nG N + 2 * k) S9.2.2 v) (S9.2.2 (w - 1)) hz (by omega)) (cwV 2 hts gX12_joins_X12_addsOut rfl rfl rfl (by decide +kernel) ⟨Nat.le_of_ble_eq_true rfl, Nat.le_of_ble_eq_true rfl⟩) (preV hK hNW (⟨(ro hS h_o (dj_cons (or_no (rng_no ha (by omega)) (rng_no ha (by omega))) (dj_nil))), h_y⟩) (va_recv hK (ro hS h_o (dj_cons (or_no (rng_no ha (by omega)) (rng_no ha (by omega))) (dj_nil))) (ci := 12) (q0 := 0) rfl rfl)) rfl rfl hl.1 rfl (lv_room (Nat.le_of_ble_eq_true rfl)) dX12_joins_375 ⟨Nat.le_of_ble_eq_true rfl, Nat.le_of_ble_eq_true rfl⟩) hS (fun q h => Or.inl ((rng_sub (by omega)) q h)) (fun rr _ H locs er7 hP9 hk8 hS => ?_)
        have h_y : PP G (twoW G a (upN Ns z (addO (ojT S9.1 (fun k => nG N + 2 * k) S9.2.2 v) (S9.2.2 (w - 1))))) H := hP9
        have h_x : PP G (sixW G a (upN Ns z (ojT S9.1 (fun k => nG N + 2 * k) S9.2.2 v)) f g) H := kp hk8 h_x (dj_cons (rng_no ha (by omega)) (dj_cons (rng_no ha (by omega)) (dj_cons (rng_no ha (by omega)) (dj_cons (rng_no ha (by omega)) (dj_cons (rng_no ha (by omega)) (dj_cons (rng_no ha (by omega)) (dj_nil)))))))
        have h_p : PP G (ar1 G a 109 6 f1) H := kp hk8 h_p (dj_cons (rng_no ha (by omega)) (dj_nil))
        have h_g : PP G (ar1 G a 110 6 f2) H := kp hk8 h_g (dj_cons (rng_no ha (by omega)) (dj_nil))
        have h_nextP : PP G (ar1 G a 111 6 f3) H := kp hk8 h_nextP (dj_cons (rng_no ha (by omega)) (dj_nil))
        have h_nextG : PP G (ar1 G a 112 6 f4) H := kp hk8 h_nextG (dj_cons (rng_no ha (by omega)) (dj_nil))
        have h_row : PP G (ar1 G a 113 16 f5) H := kp hk8 h_row (dj_cons (rng_no ha (by omega)) (dj_nil))
        refine lv_pop hx hb dX12_joins_378 rfl ?_
        have e9 : joO (m9 = 1) N w = addO (ojT S9.1 (fun k => nG N + 2 * k) S9.2.2 (w - 1)) (S9.2.2 (w - 1)) := by unfold joO; rw [← en, ← hS9]
        rw [ev] at h_x h_y hF
        have h_x : PP G (sixW G a (upN Ns z (joO (m9 = 1) N w)) f g) H := by rw [e9]; exact six_same h_x rfl rfl rfl rfl
        have h_y : PP G (twoW G a (upN Ns z (joO (m9 = 1) N w))) H := by rw [e9]; exact h_y
        have hF : FS (upN Ns z (joO (m9 = 1) N w)) f g := by rw [e9]; exact FS_same hF rfl rfl rfl rfl
        exact en_wv (f, g, f1, f2, f3, f4, f5) hx hb hr hlocks hS hF ⟨h_x, h_y, h_p, h_g, h_nextP, h_nextG, h_row⟩ dX12_joins_379
      · skip
        have c328 := cv_nle (by omega) (by omega) c328
        refine lv_aload_n hx hb dX12_joins_331 rfl (lv_at hl 0 rfl) ?_
        refine lv_iload_n hx hb dX12_joins_332 rfl (lv_at hl 1 rfl) ?_
        refine lv_aload_n hx hb dX12_joins_333 rfl (lv_at hl 0 rfl) ?_
        refine lv_iload_n hx hb dX12_joins_334 rfl (lv_at hl 1 rfl) ?_
        refine lv_iconst (v := nI 2) hx hb dX12_joins_335 (by decide) ?_
        refine lv_aload_n hx hb dX12_joins_336 rfl (lv_at hl 0 rfl) ?_
        refine va_get (D := G.1) (ci := 12) (v := .ref (a 113)) (C := RX12) (T := TX12) (N := 23) hx hb hts inX12_joins_12 hown hK (ro hS h_o (dj_cons (or_no (rng_no ha (by omega)) (rng_no ha (by omega))) (dj_nil))) 0 rfl rfl 19 (by decide) (hts (.fieldLink RX12 67 "GateLedgerModel" "row" "[I") (List.mem_of_getElem? (i := 3) (by decide +kernel))) (fun _ h9 => h9) rfl dX12_joins_337 ?_
        refine lv_iload hx hb dX12_joins_340 (lv_at hl 4 rfl) ?_
        refine pp_iald hx hb hK h_row 0 rfl (vp_in_nI (by omega) (by omega)) dX12_joins_342 ?_
        refine lv_as (congrArg f5 (nI_clamp (by omega))) ?_
        refine lv_as (y := nI (nG N + 2 * (v + 1))) (h5 _ (by omega)) ?_
        refine lv_aload_n hx hb dX12_joins_343 rfl (lv_at hl 0 rfl) ?_
        refine va_get (D := G.1) (ci := 12) (v := .ref (a 110)) (C := RX12) (T := TX12) (N := 23) hx hb hts inX12_joins_12 hown hK (ro hS h_o (dj_cons (or_no (rng_no ha (by omega)) (rng_no ha (by omega))) (dj_nil))) 0 rfl rfl 16 (by decide) (hts (.fieldLink RX12 58 "GateLedgerModel" "g" "[I") (List.mem_of_getElem? (i := 2) (by decide +kernel))) (fun _ h9 => h9) rfl dX12_joins_344 ?_
        refine lv_iload hx hb dX12_joins_347 (lv_at hl 4 rfl) ?_
        refine lv_iconst (v := nI 1) hx hb dX12_joins_349 (by decide) ?_
        refine lv_isub hx hb dX12_joins_350 ?_
        refine lv_as (y := nI v) (nI_pred v) ?_
        refine pp_iald hx hb hK h_g 0 rfl (vp_in_nI (by omega) (by omega)) dX12_joins_351 ?_
        refine lv_as (congrArg f2 (nI_clamp (by omega))) ?_
        refine lv_as (y := nI (S9.2.2 v)) (hp2 _ (by omega)) ?_
        refine wr_i (va_runV (As := [.int (nI z), .int (nI 2), .int (nI (nG N + 2 * (v + 1))), .int (nI (S9.2.2 v))]) (rest := [.int (nI z), .ref (a 93)]) FX (c_X12_adds l G a ha cy th Ns z (ojT S9.1 (fun k => nG N + 2 * k) S9.2.2 v) f g 2 (nG N + 2 * (v + 1)) (S9.2.2 v) (nI (S9.2.2 v)) hz (by omega) hF (by omega) (fun _ => rfl) (fun c => absurd c (by omega))) (cwV 4 hts gX12_joins_X12_adds rfl rfl rfl (by decide +kernel) ⟨Nat.le_of_ble_eq_true rfl, Nat.le_of_ble_eq_true rfl⟩) (preV hK hNW (⟨(ro hS h_o (dj_cons (or_no (rng_no ha (by omega)) (rng_no ha (by omega))) (dj_nil))), h_x⟩) (va_recv hK (ro hS h_o (dj_cons (or_no (rng_no ha (by omega)) (rng_no ha (by omega))) (dj_nil))) (ci := 12) (q0 := 0) rfl rfl)) rfl rfl hl.1 rfl (lv_room (Nat.le_of_ble_eq_true rfl)) dX12_joins_352 ⟨Nat.le_of_ble_eq_true rfl, Nat.le_of_ble_eq_true rfl⟩) hS (fun q h => Or.inl ((rng_sub (by omega)) q h)) (fun rr v10 H locs ⟨er12, hF11⟩ hP9 hk13 hS => ?_)
        have h_x : PP G (sixW G a (upN Ns z (addG (ojT S9.1 (fun k => nG N + 2 * k) S9.2.2 v) 2 (nG N + 2 * (v + 1)) (S9.2.2 v))) v10.1 v10.2) H := hP9
        have h_y : PP G (twoW G a (upN Ns z (ojT S9.1 (fun k => nG N + 2 * k) S9.2.2 v))) H := kp hk13 h_y (dj_cons (rng_no ha (by omega)) (dj_cons (rng_no ha (by omega)) (dj_nil)))
        have h_p : PP G (ar1 G a 109 6 f1) H := kp hk13 h_p (dj_cons (rng_no ha (by omega)) (dj_nil))
        have h_g : PP G (ar1 G a 110 6 f2) H := kp hk13 h_g (dj_cons (rng_no ha (by omega)) (dj_nil))
        have h_nextP : PP G (ar1 G a 111 6 f3) H := kp hk13 h_nextP (dj_cons (rng_no ha (by omega)) (dj_nil))
        have h_nextG : PP G (ar1 G a 112 6 f4) H := kp hk13 h_nextG (dj_cons (rng_no ha (by omega)) (dj_nil))
        have h_row : PP G (ar1 G a 113 16 f5) H := kp hk13 h_row (dj_cons (rng_no ha (by omega)) (dj_nil))
        refine lv_as (y := nI (nG (ojT S9.1 (fun k => nG N + 2 * k) S9.2.2 v))) er12 ?_
        have her12 : nG (addG (ojT S9.1 (fun k => nG N + 2 * k) S9.2.2 v) 2 (nG N + 2 * (v + 1)) (S9.2.2 v)) = nG (ojT S9.1 (fun k => nG N + 2 * k) S9.2.2 v) + 1 := rfl
        refine wr_i (va_runV (As := [.int (nI z), .int (nI (nG (ojT S9.1 (fun k => nG N + 2 * k) S9.2.2 v)))]) (rest := []) FX (c_X12_addsOut l G a ha cy th Ns z (ojT S9.1 (fun k => nG N + 2 * k) S9.2.2 v) (nG (ojT S9.1 (fun k => nG N + 2 * k) S9.2.2 v)) hz (by omega)) (cwV 2 hts gX12_joins_X12_addsOut rfl rfl rfl (by decide +kernel) ⟨Nat.le_of_ble_eq_true rfl, Nat.le_of_ble_eq_true rfl⟩) (preV hK hNW (⟨(ro hS h_o (dj_cons (or_no (rng_no ha (by omega)) (rng_no ha (by omega))) (dj_nil))), h_y⟩) (va_recv hK (ro hS h_o (dj_cons (or_no (rng_no ha (by omega)) (rng_no ha (by omega))) (dj_nil))) (ci := 12) (q0 := 0) rfl rfl)) rfl rfl hl.1 rfl (lv_room (Nat.le_of_ble_eq_true rfl)) dX12_joins_355 ⟨Nat.le_of_ble_eq_true rfl, Nat.le_of_ble_eq_true rfl⟩) hS (fun q h => Or.inl ((rng_sub (by omega)) q h)) (fun rr _ H locs er15 hP9 hk16 hS => ?_)
        have h_y : PP G (twoW G a (upN Ns z (addO (ojT S9.1 (fun k => nG N + 2 * k) S9.2.2 v) (nG (ojT S9.1 (fun k => nG N + 2 * k) S9.2.2 v))))) H := hP9
        have h_x : PP G (sixW G a (upN Ns z (addG (ojT S9.1 (fun k => nG N + 2 * k) S9.2.2 v) 2 (nG N + 2 * (v + 1)) (S9.2.2 v))) v10.1 v10.2) H := kp hk16 h_x (dj_cons (rng_no ha (by omega)) (dj_cons (rng_no ha (by omega)) (dj_cons (rng_no ha (by omega)) (dj_cons (rng_no ha (by omega)) (dj_cons (rng_no ha (by omega)) (dj_cons (rng_no ha (by omega)) (dj_nil)))))))
        have h_p : PP G (ar1 G a 109 6 f1) H := kp hk16 h_p (dj_cons (rng_no ha (by omega)) (dj_nil))
        have h_g : PP G (ar1 G a 110 6 f2) H := kp hk16 h_g (dj_cons (rng_no ha (by omega)) (dj_nil))
        have h_nextP : PP G (ar1 G a 111 6 f3) H := kp hk16 h_nextP (dj_cons (rng_no ha (by omega)) (dj_nil))
        have h_nextG : PP G (ar1 G a 112 6 f4) H := kp hk16 h_nextG (dj_cons (rng_no ha (by omega)) (dj_nil))
        have h_row : PP G (ar1 G a 113 16 f5) H := kp hk16 h_row (dj_cons (rng_no ha (by omega)) (dj_nil))
        refine lv_pop hx hb dX12_joins_358 rfl ?_
        refine lv_iinc (v := nI (v + 1 + 1)) (lv' := [(4, .int (nI (v + 1 + 1))), (0, .ref (a 93)), (1, .int (nI z)), (2, .int (nI m9)), (3, .int (nI w))]) hx hb dX12_joins_359 hl (k := 4) rfl (by first | exact nI_add _ 1 | decide) (by decide) rfl (fun ls hl => ?_)
        refine lv_goto (tgt := 325) hx hb dX12_joins_362 (by decide) ?_
        exact ih6 (v + 1) v10.1 v10.2 _ _ _ ⟨(six_same (N' := (ojT S9.1 (fun k => nG N + 2 * k) S9.2.2 (v + 1))) h_x rfl rfl rfl rfl), (two_same (N' := (ojT S9.1 (fun k => nG N + 2 * k) S9.2.2 (v + 1))) h_y rfl rfl), h_p, h_g, h_nextP, h_nextG, h_row, hS, lv_sub hl [1, 2, 3, 4, 0] rfl, by omega, FS_same (N' := (ojT S9.1 (fun k => nG N + 2 * k) S9.2.2 (v + 1))) hF11 rfl rfl rfl rfl⟩ (by show w - (v + 1) < w - v; omega)
    · skip
      have c73 := cv_nle (by omega) (by omega) c73
      refine lv_iconst (v := nI 0) hx hb dX12_joins_76 (by decide) ?_
      refine lv_istore (lv' := [(5, .int (nI 0)), (0, .ref (a 93)), (1, .int (nI z)), (2, .int (nI m9)), (3, .int (nI w)), (4, .int (nI (2 ^ n)))]) hx hb dX12_joins_77 hl (by decide) rfl (fun ls hl => ?_)
      refine lv_loop6 79 (fun (k : Nat) (f : FN) (g : FN) (f3 : FN) (f4 : FN) (T9 : JS) => w - k) (fun (k : Nat) (f : FN) (g : FN) (f3 : FN) (f4 : FN) (T9 : JS) (H : Heap) (locs : List Loc) (ls : Array Slot) => (PP G (sixW G a (upN Ns z T9.1) f g) H) ∧ (PP G (twoW G a (upN Ns z N)) H) ∧ (PP G (ar1 G a 109 6 f1) H) ∧ (PP G (ar1 G a 110 6 f2) H) ∧ (PP G (ar1 G a 111 6 f3) H) ∧ (PP G (ar1 G a 112 6 f4) H) ∧ (PP G (ar1 G a 113 16 f5) H) ∧ (va_S (orA (rng a 94 8) (rng a 109 5)) s.heap H locs) ∧ (lv_has ls 9 [(0, .ref (a 93)), (1, .int (nI z)), (2, .int (nI m9)), (3, .int (nI w)), (4, .int (nI (2 ^ n))), (5, .int (nI k))]) ∧ (k ≤ w) ∧ (T9 = joT (m9 = 1) (2 ^ n) S9 k) ∧ (FS (upN Ns z T9.1) f g) ∧ (∀ r, r < k → f3 r = nI (T9.2.1 r)) ∧ (∀ r, r < k → f4 r = nI (T9.2.2 r))) (fun _ _ _ _ _ _ => []) (fun k f g f3 f4 T9 H locs ls hI ih => ?_) 0 f g f3 f4 S9 ⟨h_x, h_y, h_p, h_g, h_nextP, h_nextG, h_row, hS, lv_sub hl [1, 2, 3, 4, 5, 0] rfl, by omega, rfl, hF, fun r h => absurd h (Nat.not_lt_zero r), fun r h => absurd h (Nat.not_lt_zero r)⟩ rfl
      obtain ⟨h_x, h_y, h_p, h_g, h_nextP, h_nextG, h_row, hS, hl, hk, hT9, hF, h3, h4⟩ := hI
      have ih18 := @ih
      clear ih
      have hT := joT_g (sp := (m9 = 1)) (d := 2 ^ n) (s := S9) k
      have hH := joT_hi (sp := (m9 = 1)) (d := 2 ^ n) (s := S9) k k (Nat.le_refl _)
      rw [← hT9] at hT hH
      refine lv_iload hx hb dX12_joins_79 (lv_at hl 5 rfl) ?_
      refine lv_iload_n hx hb dX12_joins_81 rfl (lv_at hl 3 rfl) ?_
      refine lv_icmp_ge (tgt := 258) hx hb dX12_joins_82 (by decide) (fun c82 => ?_) (fun c82 => ?_)
      · skip
        have c82 := cv_le (by omega) (by omega) c82
        have ek : k = w := by omega
        refine lv_iconst (v := nI 0) hx hb dX12_joins_258 (by decide) ?_
        refine lv_istore (lv' := [(5, .int (nI 0)), (0, .ref (a 93)), (1, .int (nI z)), (2, .int (nI m9)), (3, .int (nI w)), (4, .int (nI (2 ^ n)))]) hx hb dX12_joins_259 hl (by decide) rfl (fun ls hl => ?_)
        refine lv_loop3 261 (fun (q : Nat) (f5b : FN) (f6b : FN) => w - q) (fun (q : Nat) (f5b : FN) (f6b : FN) (H : Heap) (locs : List Loc) (ls : Array Slot) => (PP G (sixW G a (upN Ns z T9.1) f g) H) ∧ (PP G (twoW G a (upN Ns z N)) H) ∧ (PP G (ar1 G a 109 6 f5b) H) ∧ (PP G (ar1 G a 110 6 f6b) H) ∧ (PP G (ar1 G a 111 6 f3) H) ∧ (PP G (ar1 G a 112 6 f4) H) ∧ (PP G (ar1 G a 113 16 f5) H) ∧ (va_S (orA (rng a 94 8) (rng a 109 5)) s.heap H locs) ∧ (lv_has ls 9 [(0, .ref (a 93)), (1, .int (nI z)), (2, .int (nI m9)), (3, .int (nI w)), (4, .int (nI (2 ^ n))), (5, .int (nI q))]) ∧ (q ≤ w) ∧ (∀ r, r < q → f5b r = nI (T9.2.1 r)) ∧ (∀ r, r < q → f6b r = nI (T9.2.2 r))) (fun _ _ _ => []) (fun q f5b f6b H locs ls hI ih => ?_) 0 f1 f2 ⟨h_x, h_y, h_p, h_g, h_nextP, h_nextG, h_row, hS, lv_sub hl [1, 2, 3, 4, 5, 0] rfl, by omega, fun r h => absurd h (Nat.not_lt_zero r), fun r h => absurd h (Nat.not_lt_zero r)⟩ rfl
        obtain ⟨h_x, h_y, h_p, h_g, h_nextP, h_nextG, h_row, hS, hl, hq, hq1, hq2⟩ := hI
        have ih19 := @ih
        clear ih
        refine lv_iload hx hb dX12_joins_261 (lv_at hl 5 rfl) ?_
        refine lv_iload_n hx hb dX12_joins_263 rfl (lv_at hl 3 rfl) ?_
        refine lv_icmp_ge (tgt := 301) hx hb dX12_joins_264 (by decide) (fun c264 => ?_) (fun c264 => ?_)
        · skip
          have c264 := cv_le (by omega) (by omega) c264
          refine lv_iload hx hb dX12_joins_301 (lv_at hl 4 rfl) ?_
          refine lv_iconst (v := nI 2) hx hb dX12_joins_303 (by decide) ?_
          refine lv_imul hx hb dX12_joins_304 ?_
          refine lv_as (y := nI (2 ^ (n + 1))) (nI_p2 n) ?_
          refine lv_istore (lv' := [(4, .int (nI (2 ^ (n + 1)))), (0, .ref (a 93)), (1, .int (nI z)), (2, .int (nI m9)), (3, .int (nI w)), (5, .int (nI q))]) hx hb dX12_joins_305 hl (by decide) rfl (fun ls hl => ?_)
          refine lv_goto (tgt := 70) hx hb dX12_joins_307 (by decide) ?_
          exact ih2 (n + 1) f g f5b f6b f3 f4 T9 _ _ _ ⟨h_x, h_y, h_p, h_g, h_nextP, h_nextG, h_row, hS, lv_sub hl [1, 2, 3, 4, 0] rfl, ⟨by omega, Or.inr (by rw [Nat.pow_succ]; omega)⟩, hT9.trans (by rw [ek, hS9]; rfl), hF, fun r h => hq1 r (by omega), fun r h => hq2 r (by omega)⟩ (by show 3 - (n + 1) < 3 - n; omega)
        · skip
          have c264 := cv_nle (by omega) (by omega) c264
          refine lv_aload_n hx hb dX12_joins_267 rfl (lv_at hl 0 rfl) ?_
          refine va_get (D := G.1) (ci := 12) (v := .ref (a 109)) (C := RX12) (T := TX12) (N := 23) hx hb hts inX12_joins_12 hown hK (ro hS h_o (dj_cons (or_no (rng_no ha (by omega)) (rng_no ha (by omega))) (dj_nil))) 0 rfl rfl 15 (by decide) (hts (.fieldLink RX12 55 "GateLedgerModel" "p" "[I") (List.mem_of_getElem? (i := 1) (by decide +kernel))) (fun _ h9 => h9) rfl dX12_joins_268 ?_
          refine lv_iload hx hb dX12_joins_271 (lv_at hl 5 rfl) ?_
          refine lv_aload_n hx hb dX12_joins_273 rfl (lv_at hl 0 rfl) ?_
          refine va_get (D := G.1) (ci := 12) (v := .ref (a 111)) (C := RX12) (T := TX12) (N := 23) hx hb hts inX12_joins_12 hown hK (ro hS h_o (dj_cons (or_no (rng_no ha (by omega)) (rng_no ha (by omega))) (dj_nil))) 0 rfl rfl 17 (by decide) (hts (.fieldLink RX12 61 "GateLedgerModel" "nextP" "[I") (List.mem_of_getElem? (i := 4) (by decide +kernel))) (fun _ h9 => h9) rfl dX12_joins_274 ?_
          refine lv_iload hx hb dX12_joins_277 (lv_at hl 5 rfl) ?_
          refine pp_iald hx hb hK h_nextP 0 rfl (vp_in_nI (by omega) (by omega)) dX12_joins_279 ?_
          refine lv_as (congrArg f3 (nI_clamp (by omega))) ?_
          refine lv_as (y := nI (T9.2.1 q)) (h3 _ (by omega)) ?_
          refine pp_iast hx hb hK h_p hS (Or.inr (rng_in (by omega))) (vp_in_nI (by omega) (by omega)) dX12_joins_280 (fun H locs hP9 hk20 _ hS => ?_)
          rw [nI_clamp (by omega)] at hP9
          have h_p : PP G (ar1 G a 109 6 (upd f5b q (nI (T9.2.1 q)))) H := hP9
          have h_x : PP G (sixW G a (upN Ns z T9.1) f g) H := kp hk20 h_x (dj_cons (ne_a ha (by omega)) (dj_cons (ne_a ha (by omega)) (dj_cons (ne_a ha (by omega)) (dj_cons (ne_a ha (by omega)) (dj_cons (ne_a ha (by omega)) (dj_cons (ne_a ha (by omega)) (dj_nil)))))))
          have h_y : PP G (twoW G a (upN Ns z N)) H := kp hk20 h_y (dj_cons (ne_a ha (by omega)) (dj_cons (ne_a ha (by omega)) (dj_nil)))
          have h_g : PP G (ar1 G a 110 6 f6b) H := kp hk20 h_g (dj_cons (ne_a ha (by omega)) (dj_nil))
          have h_nextP : PP G (ar1 G a 111 6 f3) H := kp hk20 h_nextP (dj_cons (ne_a ha (by omega)) (dj_nil))
          have h_nextG : PP G (ar1 G a 112 6 f4) H := kp hk20 h_nextG (dj_cons (ne_a ha (by omega)) (dj_nil))
          have h_row : PP G (ar1 G a 113 16 f5) H := kp hk20 h_row (dj_cons (ne_a ha (by omega)) (dj_nil))
          refine lv_aload_n hx hb dX12_joins_281 rfl (lv_at hl 0 rfl) ?_
          refine va_get (D := G.1) (ci := 12) (v := .ref (a 110)) (C := RX12) (T := TX12) (N := 23) hx hb hts inX12_joins_12 hown hK (ro hS h_o (dj_cons (or_no (rng_no ha (by omega)) (rng_no ha (by omega))) (dj_nil))) 0 rfl rfl 16 (by decide) (hts (.fieldLink RX12 58 "GateLedgerModel" "g" "[I") (List.mem_of_getElem? (i := 2) (by decide +kernel))) (fun _ h9 => h9) rfl dX12_joins_282 ?_
          refine lv_iload hx hb dX12_joins_285 (lv_at hl 5 rfl) ?_
          refine lv_aload_n hx hb dX12_joins_287 rfl (lv_at hl 0 rfl) ?_
          refine va_get (D := G.1) (ci := 12) (v := .ref (a 112)) (C := RX12) (T := TX12) (N := 23) hx hb hts inX12_joins_12 hown hK (ro hS h_o (dj_cons (or_no (rng_no ha (by omega)) (rng_no ha (by omega))) (dj_nil))) 0 rfl rfl 18 (by decide) (hts (.fieldLink RX12 64 "GateLedgerModel" "nextG" "[I") (List.mem_of_getElem? (i := 5) (by decide +kernel))) (fun _ h9 => h9) rfl dX12_joins_288 ?_
          refine lv_iload hx hb dX12_joins_291 (lv_at hl 5 rfl) ?_
          refine pp_iald hx hb hK h_nextG 0 rfl (vp_in_nI (by omega) (by omega)) dX12_joins_293 ?_
          refine lv_as (congrArg f4 (nI_clamp (by omega))) ?_
          refine lv_as (y := nI (T9.2.2 q)) (h4 _ (by omega)) ?_
          refine pp_iast hx hb hK h_g hS (Or.inr (rng_in (by omega))) (vp_in_nI (by omega) (by omega)) dX12_joins_294 (fun H locs hP9 hk21 _ hS => ?_)
          rw [nI_clamp (by omega)] at hP9
          have h_g : PP G (ar1 G a 110 6 (upd f6b q (nI (T9.2.2 q)))) H := hP9
          have h_x : PP G (sixW G a (upN Ns z T9.1) f g) H := kp hk21 h_x (dj_cons (ne_a ha (by omega)) (dj_cons (ne_a ha (by omega)) (dj_cons (ne_a ha (by omega)) (dj_cons (ne_a ha (by omega)) (dj_cons (ne_a ha (by omega)) (dj_cons (ne_a ha (by omega)) (dj_nil)))))))
          have h_y : PP G (twoW G a (upN Ns z N)) H := kp hk21 h_y (dj_cons (ne_a ha (by omega)) (dj_cons (ne_a ha (by omega)) (dj_nil)))
          have h_p : PP G (ar1 G a 109 6 (upd f5b q (nI (T9.2.1 q)))) H := kp hk21 h_p (dj_cons (ne_a ha (by omega)) (dj_nil))
          have h_nextP : PP G (ar1 G a 111 6 f3) H := kp hk21 h_nextP (dj_cons (ne_a ha (by omega)) (dj_nil))
          have h_nextG : PP G (ar1 G a 112 6 f4) H := kp hk21 h_nextG (dj_cons (ne_a ha (by omega)) (dj_nil))
          have h_row : PP G (ar1 G a 113 16 f5) H := kp hk21 h_row (dj_cons (ne_a ha (by omega)) (dj_nil))
          refine lv_iinc (v := nI (q + 1)) (lv' := [(5, .int (nI (q + 1))), (0, .ref (a 93)), (1, .int (nI z)), (2, .int (nI m9)), (3, .int (nI w)), (4, .int (nI (2 ^ n)))]) hx hb dX12_joins_295 hl (k := 5) rfl (by first | exact nI_add _ 1 | decide) (by decide) rfl (fun ls hl => ?_)
          refine lv_goto (tgt := 261) hx hb dX12_joins_298 (by decide) ?_
          exact ih19 (q + 1) (upd f5b q (nI (T9.2.1 q))) (upd f6b q (nI (T9.2.2 q))) _ _ _ ⟨h_x, h_y, h_p, h_g, h_nextP, h_nextG, h_row, hS, lv_sub hl [1, 2, 3, 4, 5, 0] rfl, by omega, upd_fill (v := fun r => nI (T9.2.1 r)) hq1 rfl, upd_fill (v := fun r => nI (T9.2.2 r)) hq2 rfl⟩ (by show w - (q + 1) < w - q; omega)
      · skip
        have c82 := cv_nle (by omega) (by omega) c82
        refine lv_iload_n hx hb dX12_joins_85 rfl (lv_at hl 2 rfl) ?_
        refine lv_iconst (v := nI 1) hx hb dX12_joins_86 (by decide) ?_
        refine lv_icmp_ne (tgt := 109) hx hb dX12_joins_87 (by decide) (fun c87 => ?_) (fun c87 => ?_)
        · skip
          have c87 := cv_ne (by omega) (by omega) c87
          exact absurd c87 (by omega)
        · skip
          have c87 := cv_eq (by omega) (by omega) c87
          refine lv_iload hx hb dX12_joins_90 (lv_at hl 5 rfl) ?_
          refine lv_iload hx hb dX12_joins_92 (lv_at hl 4 rfl) ?_
          have hdl := Nat.div_le_self k (2 ^ n)
          have hdm := Nat.div_mul_le_self k (2 ^ n)
          refine lv_idiv hx hb dX12_joins_94 (nI_ne0 (by omega) (by omega)) ?_
          refine lv_as (pk_div (by omega) (by omega) (by omega)) ?_
          refine lv_iconst (v := nI 2) hx hb dX12_joins_95 (by decide) ?_
          refine lv_irem hx hb dX12_joins_96 (nI_ne0 (by omega) (by omega)) ?_
          refine lv_as (pk_rem (by omega) (by omega) (by omega)) ?_
          refine lv_iconst (v := nI 1) hx hb dX12_joins_97 (by decide) ?_
          refine lv_icmp_ne (tgt := 105) hx hb dX12_joins_98 (by decide) (fun c98 => ?_) (fun c98 => ?_)
          · skip
            have c98 := cv_ne (by omega) (by omega) c98
            refine lv_iconst (v := nI 0) hx hb dX12_joins_105 (by decide) ?_
            refine lv_goto (tgt := 121) hx hb dX12_joins_106 (by decide) ?_
            refine lv_istore (lv' := [(6, .int (nI 0)), (0, .ref (a 93)), (1, .int (nI z)), (2, .int (nI m9)), (3, .int (nI w)), (4, .int (nI (2 ^ n))), (5, .int (nI k))]) hx hb dX12_joins_121 hl (by decide) rfl (fun ls hl => ?_)
            refine lv_iload_n hx hb dX12_joins_123 rfl (lv_at hl 3 rfl) ?_
            refine lv_iconst (v := nI 1) hx hb dX12_joins_124 (by decide) ?_
            refine lv_icmp_ne (tgt := 141) hx hb dX12_joins_125 (by decide) (fun c125 => ?_) (fun c125 => ?_)
            · skip
              have c125 := cv_ne (by omega) (by omega) c125
              exact absurd c125 (by omega)
            · skip
              have c125 := cv_eq (by omega) (by omega) c125
              refine lv_iload hx hb dX12_joins_128 (lv_at hl 6 rfl) ?_
              refine lv_iload hx hb dX12_joins_130 (lv_at hl 5 rfl) ?_
              refine lv_idiv hx hb dX12_joins_132 (nI_ne0 (by omega) (by omega)) ?_
              refine lv_as (pk_div (by omega) (by omega) (by omega)) ?_
              refine lv_iload hx hb dX12_joins_133 (lv_at hl 5 rfl) ?_
              refine lv_imul hx hb dX12_joins_135 ?_
              refine lv_as (pk_mul _ _) ?_
              refine lv_iconst (v := nI 1) hx hb dX12_joins_136 (by decide) ?_
              refine lv_isub hx hb dX12_joins_137 ?_
              refine lv_goto (tgt := 146) hx hb dX12_joins_138 (by decide) ?_
              refine lv_istore (lv' := [(7, .int ((nI ((k / (2 ^ n)) * (2 ^ n))) - (nI 1))), (6, .int (nI 0)), (0, .ref (a 93)), (1, .int (nI z)), (2, .int (nI m9)), (3, .int (nI w)), (4, .int (nI (2 ^ n))), (5, .int (nI k))]) hx hb dX12_joins_146 hl (by decide) rfl (fun ls hl => ?_)
              refine lv_aload_n hx hb dX12_joins_148 rfl (lv_at hl 2 rfl) ?_
              refine va_get (D := G.1) (ci := 12) (v := .ref (a 111)) (C := RX12) (T := TX12) (N := 23) hx hb hts inX12_joins_12 hown hK (ro hS h_o (dj_cons (or_no (rng_no ha (by omega)) (rng_no ha (by omega))) (dj_nil))) 0 rfl rfl 17 (by decide) (hts (.fieldLink RX12 61 "GateLedgerModel" "nextP" "[I") (List.mem_of_getElem? (i := 4) (by decide +kernel))) (fun _ h9 => h9) rfl dX12_joins_149 ?_
              refine lv_iload hx hb dX12_joins_152 (lv_at hl 7 rfl) ?_
              refine lv_aload_n hx hb dX12_joins_154 rfl (lv_at hl 2 rfl) ?_
              refine va_get (D := G.1) (ci := 12) (v := .ref (a 109)) (C := RX12) (T := TX12) (N := 23) hx hb hts inX12_joins_12 hown hK (ro hS h_o (dj_cons (or_no (rng_no ha (by omega)) (rng_no ha (by omega))) (dj_nil))) 0 rfl rfl 15 (by decide) (hts (.fieldLink RX12 55 "GateLedgerModel" "p" "[I") (List.mem_of_getElem? (i := 1) (by decide +kernel))) (fun _ h9 => h9) rfl dX12_joins_155 ?_
              refine lv_iload hx hb dX12_joins_158 (lv_at hl 7 rfl) ?_
              refine pp_iald hx hb hK h_p 0 rfl (vp_in_nI (by omega) (by omega)) dX12_joins_160 ?_
              refine lv_as (congrArg f1 (nI_clamp (by omega))) ?_
              refine lv_as (y := nI (S9.2.1 k)) (hp1 _ (by omega)) ?_
              refine pp_iast hx hb hK h_nextP hS (Or.inr (rng_in (by omega))) (vp_in_nI (by omega) (by omega)) dX12_joins_161 (fun H locs hP9 hk22 _ hS => ?_)
              rw [nI_clamp (by omega)] at hP9
              have h_nextP : PP G (ar1 G a 111 6 (upd f3 k (nI (S9.2.1 k)))) H := hP9
              have h_x : PP G (sixW G a (upN Ns z T9.1) f g) H := kp hk22 h_x (dj_cons (ne_a ha (by omega)) (dj_cons (ne_a ha (by omega)) (dj_cons (ne_a ha (by omega)) (dj_cons (ne_a ha (by omega)) (dj_cons (ne_a ha (by omega)) (dj_cons (ne_a ha (by omega)) (dj_nil)))))))
              have h_y : PP G (twoW G a (upN Ns z N)) H := kp hk22 h_y (dj_cons (ne_a ha (by omega)) (dj_cons (ne_a ha (by omega)) (dj_nil)))
              have h_p : PP G (ar1 G a 109 6 f1) H := kp hk22 h_p (dj_cons (ne_a ha (by omega)) (dj_nil))
              have h_g : PP G (ar1 G a 110 6 f2) H := kp hk22 h_g (dj_cons (ne_a ha (by omega)) (dj_nil))
              have h_nextG : PP G (ar1 G a 112 6 f4) H := kp hk22 h_nextG (dj_cons (ne_a ha (by omega)) (dj_nil))
              have h_row : PP G (ar1 G a 113 16 f5) H := kp hk22 h_row (dj_cons (ne_a ha (by omega)) (dj_nil))
              refine lv_aload_n hx hb dX12_joins_162 rfl (lv_at hl 2 rfl) ?_
              refine va_get (D := G.1) (ci := 12) (v := .ref (a 112)) (C := RX12) (T := TX12) (N := 23) hx hb hts inX12_joins_12 hown hK (ro hS h_o (dj_cons (or_no (rng_no ha (by omega)) (rng_no ha (by omega))) (dj_nil))) 0 rfl rfl 18 (by decide) (hts (.fieldLink RX12 64 "GateLedgerModel" "nextG" "[I") (List.mem_of_getElem? (i := 5) (by decide +kernel))) (fun _ h9 => h9) rfl dX12_joins_163 ?_
              refine lv_iload hx hb dX12_joins_166 (lv_at hl 7 rfl) ?_
              refine lv_aload_n hx hb dX12_joins_168 rfl (lv_at hl 2 rfl) ?_
              refine va_get (D := G.1) (ci := 12) (v := .ref (a 110)) (C := RX12) (T := TX12) (N := 23) hx hb hts inX12_joins_12 hown hK (ro hS h_o (dj_cons (or_no (rng_no ha (by omega)) (rng_no ha (by omega))) (dj_nil))) 0 rfl rfl 16 (by decide) (hts (.fieldLink RX12 58 "GateLedgerModel" "g" "[I") (List.mem_of_getElem? (i := 2) (by decide +kernel))) (fun _ h9 => h9) rfl dX12_joins_169 ?_
              refine lv_iload hx hb dX12_joins_172 (lv_at hl 7 rfl) ?_
              refine pp_iald hx hb hK h_g 0 rfl (vp_in_nI (by omega) (by omega)) dX12_joins_174 ?_
              refine lv_as (congrArg f2 (nI_clamp (by omega))) ?_
              refine lv_as (y := nI (S9.2.2 k)) (hp2 _ (by omega)) ?_
              refine pp_iast hx hb hK h_nextG hS (Or.inr (rng_in (by omega))) (vp_in_nI (by omega) (by omega)) dX12_joins_175 (fun H locs hP9 hk23 _ hS => ?_)
              rw [nI_clamp (by omega)] at hP9
              have h_nextG : PP G (ar1 G a 112 6 (upd f4 k (nI (S9.2.2 k)))) H := hP9
              have h_x : PP G (sixW G a (upN Ns z T9.1) f g) H := kp hk23 h_x (dj_cons (ne_a ha (by omega)) (dj_cons (ne_a ha (by omega)) (dj_cons (ne_a ha (by omega)) (dj_cons (ne_a ha (by omega)) (dj_cons (ne_a ha (by omega)) (dj_cons (ne_a ha (by omega)) (dj_nil)))))))
              have h_y : PP G (twoW G a (upN Ns z N)) H := kp hk23 h_y (dj_cons (ne_a ha (by omega)) (dj_cons (ne_a ha (by omega)) (dj_nil)))
              have h_p : PP G (ar1 G a 109 6 f1) H := kp hk23 h_p (dj_cons (ne_a ha (by omega)) (dj_nil))
              have h_g : PP G (ar1 G a 110 6 f2) H := kp hk23 h_g (dj_cons (ne_a ha (by omega)) (dj_nil))
              have h_nextP : PP G (ar1 G a 111 6 (upd f3 k (nI (S9.2.1 k)))) H := kp hk23 h_nextP (dj_cons (ne_a ha (by omega)) (dj_nil))
              have h_row : PP G (ar1 G a 113 16 f5) H := kp hk23 h_row (dj_cons (ne_a ha (by omega)) (dj_nil))
              refine lv_iload hx hb dX12_joins_176 (lv_at hl 1 rfl) ?_
              refine lv_if_eq (tgt := 252) hx hb dX12_joins_178 (by decide) (fun c178 => ?_) (fun c178 => ?_)
              · skip
                have hj0 : jp (m9 = 1) (2 ^ n) k = 0 := js_1n hm c98
                refine lv_iinc (v := nI (k + 1)) (lv' := [(5, .int (nI (k + 1))), (7, .int ((nI ((k / (2 ^ n)) * (2 ^ n))) - (nI 1))), (6, .int (nI 0)), (0, .ref (a 93)), (1, .int (nI z)), (2, .int (nI m9)), (3, .int (nI w)), (4, .int (nI (2 ^ n)))]) hx hb dX12_joins_252 hl (k := 7) rfl (by first | exact nI_add _ 1 | decide) (by decide) rfl (fun ls hl => ?_)
                refine lv_goto (tgt := 79) hx hb dX12_joins_255 (by decide) ?_
                exact ih18 (k + 1) f g (upd f3 k (nI (S9.2.1 k))) (upd f4 k (nI (S9.2.2 k))) T9 _ _ _ ⟨h_x, h_y, h_p, h_g, h_nextP, h_nextG, h_row, hS, lv_sub hl [3, 4, 5, 6, 7, 0] rfl, by omega, by show _ = jst (m9 = 1) (2 ^ n) k S9.2.1 S9.2.2 (joT (m9 = 1) (2 ^ n) S9 k); rw [← hT9]; exact (if_pos hj0).symm, hF, upd_fill (v := fun r => nI (T9.2.1 r)) h3 (congrArg nI hH.1.symm), upd_fill (v := fun r => nI (T9.2.2 r)) h4 (congrArg nI hH.2.symm)⟩ (by show w - (k + 1) < w - k; omega)
              · exact absurd c178 (by decide)
          · skip
            have c98 := cv_eq (by omega) (by omega) c98
            refine lv_iconst (v := nI 1) hx hb dX12_joins_101 (by decide) ?_
            refine lv_goto (tgt := 121) hx hb dX12_joins_102 (by decide) ?_
            refine lv_istore (lv' := [(6, .int (nI 1)), (0, .ref (a 93)), (1, .int (nI z)), (2, .int (nI m9)), (3, .int (nI w)), (4, .int (nI (2 ^ n))), (5, .int (nI k))]) hx hb dX12_joins_121 hl (by decide) rfl (fun ls hl => ?_)
            refine lv_iload_n hx hb dX12_joins_123 rfl (lv_at hl 3 rfl) ?_
            refine lv_iconst (v := nI 1) hx hb dX12_joins_124 (by decide) ?_
            refine lv_icmp_ne (tgt := 141) hx hb dX12_joins_125 (by decide) (fun c125 => ?_) (fun c125 => ?_)
            · skip
              have c125 := cv_ne (by omega) (by omega) c125
              exact absurd c125 (by omega)
            · skip
              have c125 := cv_eq (by omega) (by omega) c125
              refine lv_iload hx hb dX12_joins_128 (lv_at hl 6 rfl) ?_
              refine lv_iload hx hb dX12_joins_130 (lv_at hl 5 rfl) ?_
              refine lv_idiv hx hb dX12_joins_132 (nI_ne0 (by omega) (by omega)) ?_
              refine lv_as (pk_div (by omega) (by omega) (by omega)) ?_
              refine lv_iload hx hb dX12_joins_133 (lv_at hl 5 rfl) ?_
              refine lv_imul hx hb dX12_joins_135 ?_
              refine lv_as (pk_mul _ _) ?_
              refine lv_iconst (v := nI 1) hx hb dX12_joins_136 (by decide) ?_
              refine lv_isub hx hb dX12_joins_137 ?_
              refine lv_goto (tgt := 146) hx hb dX12_joins_138 (by decide) ?_
              refine lv_istore (lv' := [(7, .int ((nI ((k / (2 ^ n)) * (2 ^ n))) - (nI 1))), (6, .int (nI 1)), (0, .ref (a 93)), (1, .int (nI z)), (2, .int (nI m9)), (3, .int (nI w)), (4, .int (nI (2 ^ n))), (5, .int (nI k))]) hx hb dX12_joins_146 hl (by decide) rfl (fun ls hl => ?_)
              refine lv_aload_n hx hb dX12_joins_148 rfl (lv_at hl 2 rfl) ?_
              refine va_get (D := G.1) (ci := 12) (v := .ref (a 111)) (C := RX12) (T := TX12) (N := 23) hx hb hts inX12_joins_12 hown hK (ro hS h_o (dj_cons (or_no (rng_no ha (by omega)) (rng_no ha (by omega))) (dj_nil))) 0 rfl rfl 17 (by decide) (hts (.fieldLink RX12 61 "GateLedgerModel" "nextP" "[I") (List.mem_of_getElem? (i := 4) (by decide +kernel))) (fun _ h9 => h9) rfl dX12_joins_149 ?_
              refine lv_iload hx hb dX12_joins_152 (lv_at hl 7 rfl) ?_
              refine lv_aload_n hx hb dX12_joins_154 rfl (lv_at hl 2 rfl) ?_
              refine va_get (D := G.1) (ci := 12) (v := .ref (a 109)) (C := RX12) (T := TX12) (N := 23) hx hb hts inX12_joins_12 hown hK (ro hS h_o (dj_cons (or_no (rng_no ha (by omega)) (rng_no ha (by omega))) (dj_nil))) 0 rfl rfl 15 (by decide) (hts (.fieldLink RX12 55 "GateLedgerModel" "p" "[I") (List.mem_of_getElem? (i := 1) (by decide +kernel))) (fun _ h9 => h9) rfl dX12_joins_155 ?_
              refine lv_iload hx hb dX12_joins_158 (lv_at hl 7 rfl) ?_
              refine pp_iald hx hb hK h_p 0 rfl (vp_in_nI (by omega) (by omega)) dX12_joins_160 ?_
              refine lv_as (congrArg f1 (nI_clamp (by omega))) ?_
              refine lv_as (y := nI (S9.2.1 k)) (hp1 _ (by omega)) ?_
              refine pp_iast hx hb hK h_nextP hS (Or.inr (rng_in (by omega))) (vp_in_nI (by omega) (by omega)) dX12_joins_161 (fun H locs hP9 hk24 _ hS => ?_)
              rw [nI_clamp (by omega)] at hP9
              have h_nextP : PP G (ar1 G a 111 6 (upd f3 k (nI (S9.2.1 k)))) H := hP9
              have h_x : PP G (sixW G a (upN Ns z T9.1) f g) H := kp hk24 h_x (dj_cons (ne_a ha (by omega)) (dj_cons (ne_a ha (by omega)) (dj_cons (ne_a ha (by omega)) (dj_cons (ne_a ha (by omega)) (dj_cons (ne_a ha (by omega)) (dj_cons (ne_a ha (by omega)) (dj_nil)))))))
              have h_y : PP G (twoW G a (upN Ns z N)) H := kp hk24 h_y (dj_cons (ne_a ha (by omega)) (dj_cons (ne_a ha (by omega)) (dj_nil)))
              have h_p : PP G (ar1 G a 109 6 f1) H := kp hk24 h_p (dj_cons (ne_a ha (by omega)) (dj_nil))
              have h_g : PP G (ar1 G a 110 6 f2) H := kp hk24 h_g (dj_cons (ne_a ha (by omega)) (dj_nil))
              have h_nextG : PP G (ar1 G a 112 6 f4) H := kp hk24 h_nextG (dj_cons (ne_a ha (by omega)) (dj_nil))
              have h_row : PP G (ar1 G a 113 16 f5) H := kp hk24 h_row (dj_cons (ne_a ha (by omega)) (dj_nil))
              refine lv_aload_n hx hb dX12_joins_162 rfl (lv_at hl 2 rfl) ?_
              refine va_get (D := G.1) (ci := 12) (v := .ref (a 112)) (C := RX12) (T := TX12) (N := 23) hx hb hts inX12_joins_12 hown hK (ro hS h_o (dj_cons (or_no (rng_no ha (by omega)) (rng_no ha (by omega))) (dj_nil))) 0 rfl rfl 18 (by decide) (hts (.fieldLink RX12 64 "GateLedgerModel" "nextG" "[I") (List.mem_of_getElem? (i := 5) (by decide +kernel))) (fun _ h9 => h9) rfl dX12_joins_163 ?_
              refine lv_iload hx hb dX12_joins_166 (lv_at hl 7 rfl) ?_
              refine lv_aload_n hx hb dX12_joins_168 rfl (lv_at hl 2 rfl) ?_
              refine va_get (D := G.1) (ci := 12) (v := .ref (a 110)) (C := RX12) (T := TX12) (N := 23) hx hb hts inX12_joins_12 hown hK (ro hS h_o (dj_cons (or_no (rng_no ha (by omega)) (rng_no ha (by omega))) (dj_nil))) 0 rfl rfl 16 (by decide) (hts (.fieldLink RX12 58 "GateLedgerModel" "g" "[I") (List.mem_of_getElem? (i := 2) (by decide +kernel))) (fun _ h9 => h9) rfl dX12_joins_169 ?_
              refine lv_iload hx hb dX12_joins_172 (lv_at hl 7 rfl) ?_
              refine pp_iald hx hb hK h_g 0 rfl (vp_in_nI (by omega) (by omega)) dX12_joins_174 ?_
              refine lv_as (congrArg f2 (nI_clamp (by omega))) ?_
              refine lv_as (y := nI (S9.2.2 k)) (hp2 _ (by omega)) ?_
              refine pp_iast hx hb hK h_nextG hS (Or.inr (rng_in (by omega))) (vp_in_nI (by omega) (by omega)) dX12_joins_175 (fun H locs hP9 hk25 _ hS => ?_)
              rw [nI_clamp (by omega)] at hP9
              have h_nextG : PP G (ar1 G a 112 6 (upd f4 k (nI (S9.2.2 k)))) H := hP9
              have h_x : PP G (sixW G a (upN Ns z T9.1) f g) H := kp hk25 h_x (dj_cons (ne_a ha (by omega)) (dj_cons (ne_a ha (by omega)) (dj_cons (ne_a ha (by omega)) (dj_cons (ne_a ha (by omega)) (dj_cons (ne_a ha (by omega)) (dj_cons (ne_a ha (by omega)) (dj_nil)))))))
              have h_y : PP G (twoW G a (upN Ns z N)) H := kp hk25 h_y (dj_cons (ne_a ha (by omega)) (dj_cons (ne_a ha (by omega)) (dj_nil)))
              have h_p : PP G (ar1 G a 109 6 f1) H := kp hk25 h_p (dj_cons (ne_a ha (by omega)) (dj_nil))
              have h_g : PP G (ar1 G a 110 6 f2) H := kp hk25 h_g (dj_cons (ne_a ha (by omega)) (dj_nil))
              have h_nextP : PP G (ar1 G a 111 6 (upd f3 k (nI (S9.2.1 k)))) H := kp hk25 h_nextP (dj_cons (ne_a ha (by omega)) (dj_nil))
              have h_row : PP G (ar1 G a 113 16 f5) H := kp hk25 h_row (dj_cons (ne_a ha (by omega)) (dj_nil))
              refine lv_iload hx hb dX12_joins_176 (lv_at hl 1 rfl) ?_
              refine lv_if_eq (tgt := 252) hx hb dX12_joins_178 (by decide) (fun c178 => ?_) (fun c178 => ?_)
              · exact absurd c178 (by decide)
              · skip
                obtain ⟨J, hj1, hj2, hj3⟩ := js_1 (n := n) hm c98
                rw [hj2] at hl
                have hl : lv_has ls 9 [(7, .int (nI J)), (6, .int (nI 1)), (0, .ref (a 93)), (1, .int (nI z)), (2, .int (nI m9)), (3, .int (nI w)), (4, .int (nI (2 ^ n))), (5, .int (nI k))] := hl
                refine lv_aload_n hx hb dX12_joins_181 rfl (lv_at hl 2 rfl) ?_
                refine lv_iload_n hx hb dX12_joins_182 rfl (lv_at hl 3 rfl) ?_
                refine lv_iconst (v := nI 0) hx hb dX12_joins_183 (by decide) ?_
                refine lv_aload_n hx hb dX12_joins_184 rfl (lv_at hl 2 rfl) ?_
                refine va_get (D := G.1) (ci := 12) (v := .ref (a 109)) (C := RX12) (T := TX12) (N := 23) hx hb hts inX12_joins_12 hown hK (ro hS h_o (dj_cons (or_no (rng_no ha (by omega)) (rng_no ha (by omega))) (dj_nil))) 0 rfl rfl 15 (by decide) (hts (.fieldLink RX12 55 "GateLedgerModel" "p" "[I") (List.mem_of_getElem? (i := 1) (by decide +kernel))) (fun _ h9 => h9) rfl dX12_joins_185 ?_
                refine lv_iload hx hb dX12_joins_188 (lv_at hl 7 rfl) ?_
                refine pp_iald hx hb hK h_p 0 rfl (vp_in_nI (by omega) (by omega)) dX12_joins_190 ?_
                refine lv_as (congrArg f1 (nI_clamp (by omega))) ?_
                refine lv_as (y := nI (S9.2.1 k)) (hp1 _ (by omega)) ?_
                refine lv_aload_n hx hb dX12_joins_191 rfl (lv_at hl 2 rfl) ?_
                refine va_get (D := G.1) (ci := 12) (v := .ref (a 110)) (C := RX12) (T := TX12) (N := 23) hx hb hts inX12_joins_12 hown hK (ro hS h_o (dj_cons (or_no (rng_no ha (by omega)) (rng_no ha (by omega))) (dj_nil))) 0 rfl rfl 16 (by decide) (hts (.fieldLink RX12 58 "GateLedgerModel" "g" "[I") (List.mem_of_getElem? (i := 2) (by decide +kernel))) (fun _ h9 => h9) rfl dX12_joins_192 ?_
                refine lv_iload hx hb dX12_joins_195 (lv_at hl 0 rfl) ?_
                refine pp_iald hx hb hK h_g 0 rfl (vp_in_nI (by omega) (by omega)) dX12_joins_197 ?_
                refine lv_as (congrArg f2 (nI_clamp (by omega))) ?_
                refine lv_as (y := nI (S9.2.2 J)) (hp2 _ (by omega)) ?_
                refine wr_i (va_runV (As := [.int (nI z), .int (nI 0), .int (nI (S9.2.1 k)), .int (nI (S9.2.2 J))]) (rest := []) FX (c_X12_adds l G a ha cy th Ns z T9.1 f g 0 (S9.2.1 k) (S9.2.2 J) (nI (S9.2.2 J)) hz (by omega) hF (by omega) (fun _ => rfl) (fun c => absurd c (by omega))) (cwV 4 hts gX12_joins_X12_adds rfl rfl rfl (by decide +kernel) ⟨Nat.le_of_ble_eq_true rfl, Nat.le_of_ble_eq_true rfl⟩) (preV hK hNW (⟨(ro hS h_o (dj_cons (or_no (rng_no ha (by omega)) (rng_no ha (by omega))) (dj_nil))), h_x⟩) (va_recv hK (ro hS h_o (dj_cons (or_no (rng_no ha (by omega)) (rng_no ha (by omega))) (dj_nil))) (ci := 12) (q0 := 0) rfl rfl)) rfl rfl hl.1 rfl (lv_room (Nat.le_of_ble_eq_true rfl)) dX12_joins_198 ⟨Nat.le_of_ble_eq_true rfl, Nat.le_of_ble_eq_true rfl⟩) hS (fun q h => Or.inl ((rng_sub (by omega)) q h)) (fun rr v26 H locs ⟨er28, hF27⟩ hP9 hk29 hS => ?_)
                have h_x : PP G (sixW G a (upN Ns z (addG T9.1 0 (S9.2.1 k) (S9.2.2 J))) v26.1 v26.2) H := hP9
                have h_y : PP G (twoW G a (upN Ns z N)) H := kp hk29 h_y (dj_cons (rng_no ha (by omega)) (dj_cons (rng_no ha (by omega)) (dj_nil)))
                have h_p : PP G (ar1 G a 109 6 f1) H := kp hk29 h_p (dj_cons (rng_no ha (by omega)) (dj_nil))
                have h_g : PP G (ar1 G a 110 6 f2) H := kp hk29 h_g (dj_cons (rng_no ha (by omega)) (dj_nil))
                have h_nextP : PP G (ar1 G a 111 6 (upd f3 k (nI (S9.2.1 k)))) H := kp hk29 h_nextP (dj_cons (rng_no ha (by omega)) (dj_nil))
                have h_nextG : PP G (ar1 G a 112 6 (upd f4 k (nI (S9.2.2 k)))) H := kp hk29 h_nextG (dj_cons (rng_no ha (by omega)) (dj_nil))
                have h_row : PP G (ar1 G a 113 16 f5) H := kp hk29 h_row (dj_cons (rng_no ha (by omega)) (dj_nil))
                refine lv_as (y := nI (nG T9.1)) er28 ?_
                have her28 : nG (addG T9.1 0 (S9.2.1 k) (S9.2.2 J)) = nG T9.1 + 1 := rfl
                refine lv_istore (lv' := [(8, .int (nI (nG T9.1))), (7, .int (nI J)), (6, .int (nI 1)), (0, .ref (a 93)), (1, .int (nI z)), (2, .int (nI m9)), (3, .int (nI w)), (4, .int (nI (2 ^ n))), (5, .int (nI k))]) hx hb dX12_joins_201 hl (by decide) rfl (fun ls hl => ?_)
                refine lv_aload_n hx hb dX12_joins_203 rfl (lv_at hl 3 rfl) ?_
                refine va_get (D := G.1) (ci := 12) (v := .ref (a 112)) (C := RX12) (T := TX12) (N := 23) hx hb hts inX12_joins_12 hown hK (ro hS h_o (dj_cons (or_no (rng_no ha (by omega)) (rng_no ha (by omega))) (dj_nil))) 0 rfl rfl 18 (by decide) (hts (.fieldLink RX12 64 "GateLedgerModel" "nextG" "[I") (List.mem_of_getElem? (i := 5) (by decide +kernel))) (fun _ h9 => h9) rfl dX12_joins_204 ?_
                refine lv_iload hx hb dX12_joins_207 (lv_at hl 8 rfl) ?_
                refine lv_aload_n hx hb dX12_joins_209 rfl (lv_at hl 3 rfl) ?_
                refine lv_iload_n hx hb dX12_joins_210 rfl (lv_at hl 4 rfl) ?_
                refine lv_iconst (v := nI 1) hx hb dX12_joins_211 (by decide) ?_
                refine lv_aload_n hx hb dX12_joins_212 rfl (lv_at hl 3 rfl) ?_
                refine va_get (D := G.1) (ci := 12) (v := .ref (a 110)) (C := RX12) (T := TX12) (N := 23) hx hb hts inX12_joins_12 hown hK (ro hS h_o (dj_cons (or_no (rng_no ha (by omega)) (rng_no ha (by omega))) (dj_nil))) 0 rfl rfl 16 (by decide) (hts (.fieldLink RX12 58 "GateLedgerModel" "g" "[I") (List.mem_of_getElem? (i := 2) (by decide +kernel))) (fun _ h9 => h9) rfl dX12_joins_213 ?_
                refine lv_iload hx hb dX12_joins_216 (lv_at hl 8 rfl) ?_
                refine pp_iald hx hb hK h_g 0 rfl (vp_in_nI (by omega) (by omega)) dX12_joins_218 ?_
                refine lv_as (congrArg f2 (nI_clamp (by omega))) ?_
                refine lv_as (y := nI (S9.2.2 k)) (hp2 _ (by omega)) ?_
                refine lv_iload hx hb dX12_joins_219 (lv_at hl 0 rfl) ?_
                refine wr_i (va_runV (As := [.int (nI z), .int (nI 1), .int (nI (S9.2.2 k)), .int (nI (nG T9.1))]) (rest := [.int (nI k), .ref (a 112)]) FX (c_X12_adds l G a ha cy th Ns z (addG T9.1 0 (S9.2.1 k) (S9.2.2 J)) v26.1 v26.2 1 (S9.2.2 k) (nG T9.1) (nI (nG T9.1)) hz (by omega) hF27 (by omega) (fun _ => rfl) (fun c => absurd c (by omega))) (cwV 4 hts gX12_joins_X12_adds rfl rfl rfl (by decide +kernel) ⟨Nat.le_of_ble_eq_true rfl, Nat.le_of_ble_eq_true rfl⟩) (preV hK hNW (⟨(ro hS h_o (dj_cons (or_no (rng_no ha (by omega)) (rng_no ha (by omega))) (dj_nil))), h_x⟩) (va_recv hK (ro hS h_o (dj_cons (or_no (rng_no ha (by omega)) (rng_no ha (by omega))) (dj_nil))) (ci := 12) (q0 := 0) rfl rfl)) rfl rfl hl.1 rfl (lv_room (Nat.le_of_ble_eq_true rfl)) dX12_joins_221 ⟨Nat.le_of_ble_eq_true rfl, Nat.le_of_ble_eq_true rfl⟩) hS (fun q h => Or.inl ((rng_sub (by omega)) q h)) (fun rr v31 H locs ⟨er33, hF32⟩ hP9 hk34 hS => ?_)
                have h_x : PP G (sixW G a (upN Ns z (addG (addG T9.1 0 (S9.2.1 k) (S9.2.2 J)) 1 (S9.2.2 k) (nG T9.1))) v31.1 v31.2) H := hP9
                have h_y : PP G (twoW G a (upN Ns z N)) H := kp hk34 h_y (dj_cons (rng_no ha (by omega)) (dj_cons (rng_no ha (by omega)) (dj_nil)))
                have h_p : PP G (ar1 G a 109 6 f1) H := kp hk34 h_p (dj_cons (rng_no ha (by omega)) (dj_nil))
                have h_g : PP G (ar1 G a 110 6 f2) H := kp hk34 h_g (dj_cons (rng_no ha (by omega)) (dj_nil))
                have h_nextP : PP G (ar1 G a 111 6 (upd f3 k (nI (S9.2.1 k)))) H := kp hk34 h_nextP (dj_cons (rng_no ha (by omega)) (dj_nil))
                have h_nextG : PP G (ar1 G a 112 6 (upd f4 k (nI (S9.2.2 k)))) H := kp hk34 h_nextG (dj_cons (rng_no ha (by omega)) (dj_nil))
                have h_row : PP G (ar1 G a 113 16 f5) H := kp hk34 h_row (dj_cons (rng_no ha (by omega)) (dj_nil))
                refine lv_as (y := nI (nG T9.1 + 1)) er33 ?_
                have her33 : nG (addG (addG T9.1 0 (S9.2.1 k) (S9.2.2 J)) 1 (S9.2.2 k) (nG T9.1)) = nG T9.1 + 1 + 1 := rfl
                refine pp_iast hx hb hK h_nextG hS (Or.inr (rng_in (by omega))) (vp_in_nI (by omega) (by omega)) dX12_joins_224 (fun H locs hP9 hk36 _ hS => ?_)
                rw [nI_clamp (by omega)] at hP9
                have h_nextG : PP G (ar1 G a 112 6 (upd (upd f4 k (nI (S9.2.2 k))) k (nI (nG T9.1 + 1)))) H := hP9
                have h_x : PP G (sixW G a (upN Ns z (addG (addG T9.1 0 (S9.2.1 k) (S9.2.2 J)) 1 (S9.2.2 k) (nG T9.1))) v31.1 v31.2) H := kp hk36 h_x (dj_cons (ne_a ha (by omega)) (dj_cons (ne_a ha (by omega)) (dj_cons (ne_a ha (by omega)) (dj_cons (ne_a ha (by omega)) (dj_cons (ne_a ha (by omega)) (dj_cons (ne_a ha (by omega)) (dj_nil)))))))
                have h_y : PP G (twoW G a (upN Ns z N)) H := kp hk36 h_y (dj_cons (ne_a ha (by omega)) (dj_cons (ne_a ha (by omega)) (dj_nil)))
                have h_p : PP G (ar1 G a 109 6 f1) H := kp hk36 h_p (dj_cons (ne_a ha (by omega)) (dj_nil))
                have h_g : PP G (ar1 G a 110 6 f2) H := kp hk36 h_g (dj_cons (ne_a ha (by omega)) (dj_nil))
                have h_nextP : PP G (ar1 G a 111 6 (upd f3 k (nI (S9.2.1 k)))) H := kp hk36 h_nextP (dj_cons (ne_a ha (by omega)) (dj_nil))
                have h_row : PP G (ar1 G a 113 16 f5) H := kp hk36 h_row (dj_cons (ne_a ha (by omega)) (dj_nil))
                refine lv_aload_n hx hb dX12_joins_225 rfl (lv_at hl 3 rfl) ?_
                refine va_get (D := G.1) (ci := 12) (v := .ref (a 111)) (C := RX12) (T := TX12) (N := 23) hx hb hts inX12_joins_12 hown hK (ro hS h_o (dj_cons (or_no (rng_no ha (by omega)) (rng_no ha (by omega))) (dj_nil))) 0 rfl rfl 17 (by decide) (hts (.fieldLink RX12 61 "GateLedgerModel" "nextP" "[I") (List.mem_of_getElem? (i := 4) (by decide +kernel))) (fun _ h9 => h9) rfl dX12_joins_226 ?_
                refine lv_iload hx hb dX12_joins_229 (lv_at hl 8 rfl) ?_
                refine lv_aload_n hx hb dX12_joins_231 rfl (lv_at hl 3 rfl) ?_
                refine lv_iload_n hx hb dX12_joins_232 rfl (lv_at hl 4 rfl) ?_
                refine lv_iconst (v := nI 0) hx hb dX12_joins_233 (by decide) ?_
                refine lv_aload_n hx hb dX12_joins_234 rfl (lv_at hl 3 rfl) ?_
                refine va_get (D := G.1) (ci := 12) (v := .ref (a 109)) (C := RX12) (T := TX12) (N := 23) hx hb hts inX12_joins_12 hown hK (ro hS h_o (dj_cons (or_no (rng_no ha (by omega)) (rng_no ha (by omega))) (dj_nil))) 0 rfl rfl 15 (by decide) (hts (.fieldLink RX12 55 "GateLedgerModel" "p" "[I") (List.mem_of_getElem? (i := 1) (by decide +kernel))) (fun _ h9 => h9) rfl dX12_joins_235 ?_
                refine lv_iload hx hb dX12_joins_238 (lv_at hl 8 rfl) ?_
                refine pp_iald hx hb hK h_p 0 rfl (vp_in_nI (by omega) (by omega)) dX12_joins_240 ?_
                refine lv_as (congrArg f1 (nI_clamp (by omega))) ?_
                refine lv_as (y := nI (S9.2.1 k)) (hp1 _ (by omega)) ?_
                refine lv_aload_n hx hb dX12_joins_241 rfl (lv_at hl 3 rfl) ?_
                refine va_get (D := G.1) (ci := 12) (v := .ref (a 109)) (C := RX12) (T := TX12) (N := 23) hx hb hts inX12_joins_12 hown hK (ro hS h_o (dj_cons (or_no (rng_no ha (by omega)) (rng_no ha (by omega))) (dj_nil))) 0 rfl rfl 15 (by decide) (hts (.fieldLink RX12 55 "GateLedgerModel" "p" "[I") (List.mem_of_getElem? (i := 1) (by decide +kernel))) (fun _ h9 => h9) rfl dX12_joins_242 ?_
                refine lv_iload hx hb dX12_joins_245 (lv_at hl 1 rfl) ?_
                refine pp_iald hx hb hK h_p 0 rfl (vp_in_nI (by omega) (by omega)) dX12_joins_247 ?_
                refine lv_as (congrArg f1 (nI_clamp (by omega))) ?_
                refine lv_as (y := nI (S9.2.1 J)) (hp1 _ (by omega)) ?_
                refine wr_i (va_runV (As := [.int (nI z), .int (nI 0), .int (nI (S9.2.1 k)), .int (nI (S9.2.1 J))]) (rest := [.int (nI k), .ref (a 111)]) FX (c_X12_adds l G a ha cy th Ns z (addG (addG T9.1 0 (S9.2.1 k) (S9.2.2 J)) 1 (S9.2.2 k) (nG T9.1)) v31.1 v31.2 0 (S9.2.1 k) (S9.2.1 J) (nI (S9.2.1 J)) hz (by omega) hF32 (by omega) (fun _ => rfl) (fun c => absurd c (by omega))) (cwV 4 hts gX12_joins_X12_adds rfl rfl rfl (by decide +kernel) ⟨Nat.le_of_ble_eq_true rfl, Nat.le_of_ble_eq_true rfl⟩) (preV hK hNW (⟨(ro hS h_o (dj_cons (or_no (rng_no ha (by omega)) (rng_no ha (by omega))) (dj_nil))), h_x⟩) (va_recv hK (ro hS h_o (dj_cons (or_no (rng_no ha (by omega)) (rng_no ha (by omega))) (dj_nil))) (ci := 12) (q0 := 0) rfl rfl)) rfl rfl hl.1 rfl (lv_room (Nat.le_of_ble_eq_true rfl)) dX12_joins_248 ⟨Nat.le_of_ble_eq_true rfl, Nat.le_of_ble_eq_true rfl⟩) hS (fun q h => Or.inl ((rng_sub (by omega)) q h)) (fun rr v37 H locs ⟨er39, hF38⟩ hP9 hk40 hS => ?_)
                have h_x : PP G (sixW G a (upN Ns z (addG (addG (addG T9.1 0 (S9.2.1 k) (S9.2.2 J)) 1 (S9.2.2 k) (nG T9.1)) 0 (S9.2.1 k) (S9.2.1 J))) v37.1 v37.2) H := hP9
                have h_y : PP G (twoW G a (upN Ns z N)) H := kp hk40 h_y (dj_cons (rng_no ha (by omega)) (dj_cons (rng_no ha (by omega)) (dj_nil)))
                have h_p : PP G (ar1 G a 109 6 f1) H := kp hk40 h_p (dj_cons (rng_no ha (by omega)) (dj_nil))
                have h_g : PP G (ar1 G a 110 6 f2) H := kp hk40 h_g (dj_cons (rng_no ha (by omega)) (dj_nil))
                have h_nextP : PP G (ar1 G a 111 6 (upd f3 k (nI (S9.2.1 k)))) H := kp hk40 h_nextP (dj_cons (rng_no ha (by omega)) (dj_nil))
                have h_nextG : PP G (ar1 G a 112 6 (upd (upd f4 k (nI (S9.2.2 k))) k (nI (nG T9.1 + 1)))) H := kp hk40 h_nextG (dj_cons (rng_no ha (by omega)) (dj_nil))
                have h_row : PP G (ar1 G a 113 16 f5) H := kp hk40 h_row (dj_cons (rng_no ha (by omega)) (dj_nil))
                refine lv_as (y := nI (nG T9.1 + 2)) er39 ?_
                have her39 : nG (addG (addG (addG T9.1 0 (S9.2.1 k) (S9.2.2 J)) 1 (S9.2.2 k) (nG T9.1)) 0 (S9.2.1 k) (S9.2.1 J)) = nG T9.1 + 2 + 1 := rfl
                refine pp_iast hx hb hK h_nextP hS (Or.inr (rng_in (by omega))) (vp_in_nI (by omega) (by omega)) dX12_joins_251 (fun H locs hP9 hk42 _ hS => ?_)
                rw [nI_clamp (by omega)] at hP9
                have h_nextP : PP G (ar1 G a 111 6 (upd (upd f3 k (nI (S9.2.1 k))) k (nI (nG T9.1 + 2)))) H := hP9
                have h_x : PP G (sixW G a (upN Ns z (addG (addG (addG T9.1 0 (S9.2.1 k) (S9.2.2 J)) 1 (S9.2.2 k) (nG T9.1)) 0 (S9.2.1 k) (S9.2.1 J))) v37.1 v37.2) H := kp hk42 h_x (dj_cons (ne_a ha (by omega)) (dj_cons (ne_a ha (by omega)) (dj_cons (ne_a ha (by omega)) (dj_cons (ne_a ha (by omega)) (dj_cons (ne_a ha (by omega)) (dj_cons (ne_a ha (by omega)) (dj_nil)))))))
                have h_y : PP G (twoW G a (upN Ns z N)) H := kp hk42 h_y (dj_cons (ne_a ha (by omega)) (dj_cons (ne_a ha (by omega)) (dj_nil)))
                have h_p : PP G (ar1 G a 109 6 f1) H := kp hk42 h_p (dj_cons (ne_a ha (by omega)) (dj_nil))
                have h_g : PP G (ar1 G a 110 6 f2) H := kp hk42 h_g (dj_cons (ne_a ha (by omega)) (dj_nil))
                have h_nextG : PP G (ar1 G a 112 6 (upd (upd f4 k (nI (S9.2.2 k))) k (nI (nG T9.1 + 1)))) H := kp hk42 h_nextG (dj_cons (ne_a ha (by omega)) (dj_nil))
                have h_row : PP G (ar1 G a 113 16 f5) H := kp hk42 h_row (dj_cons (ne_a ha (by omega)) (dj_nil))
                refine lv_iinc (v := nI (k + 1)) (lv' := [(5, .int (nI (k + 1))), (8, .int (nI (nG T9.1))), (7, .int (nI J)), (6, .int (nI 1)), (0, .ref (a 93)), (1, .int (nI z)), (2, .int (nI m9)), (3, .int (nI w)), (4, .int (nI (2 ^ n)))]) hx hb dX12_joins_252 hl (k := 8) rfl (by first | exact nI_add _ 1 | decide) (by decide) rfl (fun ls hl => ?_)
                refine lv_goto (tgt := 79) hx hb dX12_joins_255 (by decide) ?_
                exact ih18 (k + 1) v37.1 v37.2 (upd (upd f3 k (nI (S9.2.1 k))) k (nI (nG T9.1 + 2))) (upd (upd f4 k (nI (S9.2.2 k))) k (nI (nG T9.1 + 1))) (addG (addG (addG T9.1 0 (S9.2.1 k) (S9.2.2 J)) 1 (S9.2.2 k) (nG T9.1)) 0 (S9.2.1 k) (S9.2.1 J), un T9.2.1 k (nG T9.1 + 2), un T9.2.2 k (nG T9.1 + 1)) _ _ _ ⟨h_x, h_y, h_p, h_g, h_nextP, h_nextG, h_row, hS, lv_sub hl [4, 5, 6, 7, 8, 0] rfl, by omega, by show _ = jst (m9 = 1) (2 ^ n) k S9.2.1 S9.2.2 (joT (m9 = 1) (2 ^ n) S9 k); rw [← hT9, jst_J hj1], hF38, up2_un h3, up2_un h4⟩ (by show w - (k + 1) < w - k; omega)
  · skip
    have c6 := cv_nle (by omega) (by omega) c6
    refine lv_aload_n hx hb dX12_joins_9 rfl (lv_at hl 0 rfl) ?_
    refine va_get (D := G.1) (ci := 12) (v := .ref (a 109)) (C := RX12) (T := TX12) (N := 23) hx hb hts inX12_joins_12 hown hK (ro hS h_o (dj_cons (or_no (rng_no ha (by omega)) (rng_no ha (by omega))) (dj_nil))) 0 rfl rfl 15 (by decide) (hts (.fieldLink RX12 55 "GateLedgerModel" "p" "[I") (List.mem_of_getElem? (i := 1) (by decide +kernel))) (fun _ h9 => h9) rfl dX12_joins_10 ?_
    refine lv_iload hx hb dX12_joins_13 (lv_at hl 4 rfl) ?_
    refine lv_aload_n hx hb dX12_joins_15 rfl (lv_at hl 0 rfl) ?_
    refine lv_iload_n hx hb dX12_joins_16 rfl (lv_at hl 1 rfl) ?_
    refine lv_iconst (v := nI 2) hx hb dX12_joins_17 (by decide) ?_
    refine lv_iload hx hb dX12_joins_18 (lv_at hl 4 rfl) ?_
    refine lv_iload_n hx hb dX12_joins_20 rfl (lv_at hl 3 rfl) ?_
    refine lv_iload hx hb dX12_joins_21 (lv_at hl 4 rfl) ?_
    refine lv_iadd hx hb dX12_joins_23 ?_
    refine lv_as (nI_add _ _) ?_
    refine wr_i (va_runV (As := [.int (nI z), .int (nI 2), .int (nI k), .int (nI (w + k))]) (rest := [.int (nI k), .ref (a 109)]) FX (c_X12_adds l G a ha cy th Ns z (heT N w k) f g 2 k (w + k) (nI (w + k)) hz (by omega) hF (by omega) (fun _ => rfl) (fun c => absurd c (by omega))) (cwV 4 hts gX12_joins_X12_adds rfl rfl rfl (by decide +kernel) ⟨Nat.le_of_ble_eq_true rfl, Nat.le_of_ble_eq_true rfl⟩) (preV hK hNW (⟨(ro hS h_o (dj_cons (or_no (rng_no ha (by omega)) (rng_no ha (by omega))) (dj_nil))), h_x⟩) (va_recv hK (ro hS h_o (dj_cons (or_no (rng_no ha (by omega)) (rng_no ha (by omega))) (dj_nil))) (ci := 12) (q0 := 0) rfl rfl)) rfl rfl hl.1 rfl (lv_room (Nat.le_of_ble_eq_true rfl)) dX12_joins_24 ⟨Nat.le_of_ble_eq_true rfl, Nat.le_of_ble_eq_true rfl⟩) hS (fun q h => Or.inl ((rng_sub (by omega)) q h)) (fun rr v43 H locs ⟨er45, hF44⟩ hP9 hk46 hS => ?_)
    have h_x : PP G (sixW G a (upN Ns z (addG (heT N w k) 2 k (w + k))) v43.1 v43.2) H := hP9
    have h_y : PP G (twoW G a (upN Ns z N)) H := kp hk46 h_y (dj_cons (rng_no ha (by omega)) (dj_cons (rng_no ha (by omega)) (dj_nil)))
    have h_p : PP G (ar1 G a 109 6 f1) H := kp hk46 h_p (dj_cons (rng_no ha (by omega)) (dj_nil))
    have h_g : PP G (ar1 G a 110 6 f2) H := kp hk46 h_g (dj_cons (rng_no ha (by omega)) (dj_nil))
    have h_nextP : PP G (ar1 G a 111 6 np0) H := kp hk46 h_nextP (dj_cons (rng_no ha (by omega)) (dj_nil))
    have h_nextG : PP G (ar1 G a 112 6 ng0) H := kp hk46 h_nextG (dj_cons (rng_no ha (by omega)) (dj_nil))
    have h_row : PP G (ar1 G a 113 16 f5) H := kp hk46 h_row (dj_cons (rng_no ha (by omega)) (dj_nil))
    refine lv_as (y := nI (nG (heT N w k))) er45 ?_
    have her45 : nG (addG (heT N w k) 2 k (w + k)) = nG (heT N w k) + 1 := rfl
    refine pp_iast hx hb hK h_p hS (Or.inr (rng_in (by omega))) (vp_in_nI (by omega) (by omega)) dX12_joins_27 (fun H locs hP9 hk48 _ hS => ?_)
    rw [nI_clamp (by omega)] at hP9
    have h_p : PP G (ar1 G a 109 6 (upd f1 k (nI (nG (heT N w k))))) H := hP9
    have h_x : PP G (sixW G a (upN Ns z (addG (heT N w k) 2 k (w + k))) v43.1 v43.2) H := kp hk48 h_x (dj_cons (ne_a ha (by omega)) (dj_cons (ne_a ha (by omega)) (dj_cons (ne_a ha (by omega)) (dj_cons (ne_a ha (by omega)) (dj_cons (ne_a ha (by omega)) (dj_cons (ne_a ha (by omega)) (dj_nil)))))))
    have h_y : PP G (twoW G a (upN Ns z N)) H := kp hk48 h_y (dj_cons (ne_a ha (by omega)) (dj_cons (ne_a ha (by omega)) (dj_nil)))
    have h_g : PP G (ar1 G a 110 6 f2) H := kp hk48 h_g (dj_cons (ne_a ha (by omega)) (dj_nil))
    have h_nextP : PP G (ar1 G a 111 6 np0) H := kp hk48 h_nextP (dj_cons (ne_a ha (by omega)) (dj_nil))
    have h_nextG : PP G (ar1 G a 112 6 ng0) H := kp hk48 h_nextG (dj_cons (ne_a ha (by omega)) (dj_nil))
    have h_row : PP G (ar1 G a 113 16 f5) H := kp hk48 h_row (dj_cons (ne_a ha (by omega)) (dj_nil))
    refine lv_aload_n hx hb dX12_joins_28 rfl (lv_at hl 0 rfl) ?_
    refine va_get (D := G.1) (ci := 12) (v := .ref (a 110)) (C := RX12) (T := TX12) (N := 23) hx hb hts inX12_joins_12 hown hK (ro hS h_o (dj_cons (or_no (rng_no ha (by omega)) (rng_no ha (by omega))) (dj_nil))) 0 rfl rfl 16 (by decide) (hts (.fieldLink RX12 58 "GateLedgerModel" "g" "[I") (List.mem_of_getElem? (i := 2) (by decide +kernel))) (fun _ h9 => h9) rfl dX12_joins_29 ?_
    refine lv_iload hx hb dX12_joins_32 (lv_at hl 4 rfl) ?_
    refine lv_aload_n hx hb dX12_joins_34 rfl (lv_at hl 0 rfl) ?_
    refine lv_iload_n hx hb dX12_joins_35 rfl (lv_at hl 1 rfl) ?_
    refine lv_iconst (v := nI 0) hx hb dX12_joins_36 (by decide) ?_
    refine lv_iload hx hb dX12_joins_37 (lv_at hl 4 rfl) ?_
    refine lv_iload_n hx hb dX12_joins_39 rfl (lv_at hl 3 rfl) ?_
    refine lv_iload hx hb dX12_joins_40 (lv_at hl 4 rfl) ?_
    refine lv_iadd hx hb dX12_joins_42 ?_
    refine lv_as (nI_add _ _) ?_
    refine wr_i (va_runV (As := [.int (nI z), .int (nI 0), .int (nI k), .int (nI (w + k))]) (rest := [.int (nI k), .ref (a 110)]) FX (c_X12_adds l G a ha cy th Ns z (addG (heT N w k) 2 k (w + k)) v43.1 v43.2 0 k (w + k) (nI (w + k)) hz (by omega) hF44 (by omega) (fun _ => rfl) (fun c => absurd c (by omega))) (cwV 4 hts gX12_joins_X12_adds rfl rfl rfl (by decide +kernel) ⟨Nat.le_of_ble_eq_true rfl, Nat.le_of_ble_eq_true rfl⟩) (preV hK hNW (⟨(ro hS h_o (dj_cons (or_no (rng_no ha (by omega)) (rng_no ha (by omega))) (dj_nil))), h_x⟩) (va_recv hK (ro hS h_o (dj_cons (or_no (rng_no ha (by omega)) (rng_no ha (by omega))) (dj_nil))) (ci := 12) (q0 := 0) rfl rfl)) rfl rfl hl.1 rfl (lv_room (Nat.le_of_ble_eq_true rfl)) dX12_joins_43 ⟨Nat.le_of_ble_eq_true rfl, Nat.le_of_ble_eq_true rfl⟩) hS (fun q h => Or.inl ((rng_sub (by omega)) q h)) (fun rr v49 H locs ⟨er51, hF50⟩ hP9 hk52 hS => ?_)
    have h_x : PP G (sixW G a (upN Ns z (addG (addG (heT N w k) 2 k (w + k)) 0 k (w + k))) v49.1 v49.2) H := hP9
    have h_y : PP G (twoW G a (upN Ns z N)) H := kp hk52 h_y (dj_cons (rng_no ha (by omega)) (dj_cons (rng_no ha (by omega)) (dj_nil)))
    have h_p : PP G (ar1 G a 109 6 (upd f1 k (nI (nG (heT N w k))))) H := kp hk52 h_p (dj_cons (rng_no ha (by omega)) (dj_nil))
    have h_g : PP G (ar1 G a 110 6 f2) H := kp hk52 h_g (dj_cons (rng_no ha (by omega)) (dj_nil))
    have h_nextP : PP G (ar1 G a 111 6 np0) H := kp hk52 h_nextP (dj_cons (rng_no ha (by omega)) (dj_nil))
    have h_nextG : PP G (ar1 G a 112 6 ng0) H := kp hk52 h_nextG (dj_cons (rng_no ha (by omega)) (dj_nil))
    have h_row : PP G (ar1 G a 113 16 f5) H := kp hk52 h_row (dj_cons (rng_no ha (by omega)) (dj_nil))
    refine lv_as (y := nI (nG (heT N w k) + 1)) er51 ?_
    have her51 : nG (addG (addG (heT N w k) 2 k (w + k)) 0 k (w + k)) = nG (heT N w k) + 1 + 1 := rfl
    refine pp_iast hx hb hK h_g hS (Or.inr (rng_in (by omega))) (vp_in_nI (by omega) (by omega)) dX12_joins_46 (fun H locs hP9 hk54 _ hS => ?_)
    rw [nI_clamp (by omega)] at hP9
    have h_g : PP G (ar1 G a 110 6 (upd f2 k (nI (nG (heT N w k) + 1)))) H := hP9
    have h_x : PP G (sixW G a (upN Ns z (addG (addG (heT N w k) 2 k (w + k)) 0 k (w + k))) v49.1 v49.2) H := kp hk54 h_x (dj_cons (ne_a ha (by omega)) (dj_cons (ne_a ha (by omega)) (dj_cons (ne_a ha (by omega)) (dj_cons (ne_a ha (by omega)) (dj_cons (ne_a ha (by omega)) (dj_cons (ne_a ha (by omega)) (dj_nil)))))))
    have h_y : PP G (twoW G a (upN Ns z N)) H := kp hk54 h_y (dj_cons (ne_a ha (by omega)) (dj_cons (ne_a ha (by omega)) (dj_nil)))
    have h_p : PP G (ar1 G a 109 6 (upd f1 k (nI (nG (heT N w k))))) H := kp hk54 h_p (dj_cons (ne_a ha (by omega)) (dj_nil))
    have h_nextP : PP G (ar1 G a 111 6 np0) H := kp hk54 h_nextP (dj_cons (ne_a ha (by omega)) (dj_nil))
    have h_nextG : PP G (ar1 G a 112 6 ng0) H := kp hk54 h_nextG (dj_cons (ne_a ha (by omega)) (dj_nil))
    have h_row : PP G (ar1 G a 113 16 f5) H := kp hk54 h_row (dj_cons (ne_a ha (by omega)) (dj_nil))
    refine lv_aload_n hx hb dX12_joins_47 rfl (lv_at hl 0 rfl) ?_
    refine va_get (D := G.1) (ci := 12) (v := .ref (a 113)) (C := RX12) (T := TX12) (N := 23) hx hb hts inX12_joins_12 hown hK (ro hS h_o (dj_cons (or_no (rng_no ha (by omega)) (rng_no ha (by omega))) (dj_nil))) 0 rfl rfl 19 (by decide) (hts (.fieldLink RX12 67 "GateLedgerModel" "row" "[I") (List.mem_of_getElem? (i := 3) (by decide +kernel))) (fun _ h9 => h9) rfl dX12_joins_48 ?_
    refine lv_iload hx hb dX12_joins_51 (lv_at hl 4 rfl) ?_
    refine lv_aload_n hx hb dX12_joins_53 rfl (lv_at hl 0 rfl) ?_
    refine va_get (D := G.1) (ci := 12) (v := .ref (a 109)) (C := RX12) (T := TX12) (N := 23) hx hb hts inX12_joins_12 hown hK (ro hS h_o (dj_cons (or_no (rng_no ha (by omega)) (rng_no ha (by omega))) (dj_nil))) 0 rfl rfl 15 (by decide) (hts (.fieldLink RX12 55 "GateLedgerModel" "p" "[I") (List.mem_of_getElem? (i := 1) (by decide +kernel))) (fun _ h9 => h9) rfl dX12_joins_54 ?_
    refine lv_iload hx hb dX12_joins_57 (lv_at hl 4 rfl) ?_
    refine pp_iald hx hb hK h_p 0 rfl (vp_in_nI (by omega) (by omega)) dX12_joins_59 ?_
    refine lv_as (congrArg (upd f1 k (nI (nG (heT N w k)))) (nI_clamp (by omega))) ?_
    refine lv_as (y := nI (nG N + 2 * k)) (pk_us.trans (by rw [hE.1])) ?_
    refine pp_iast hx hb hK h_row hS (Or.inr (rng_in (by omega))) (vp_in_nI (by omega) (by omega)) dX12_joins_60 (fun H locs hP9 hk55 _ hS => ?_)
    rw [nI_clamp (by omega)] at hP9
    have h_row : PP G (ar1 G a 113 16 (upd f5 k (nI (nG N + 2 * k)))) H := hP9
    have h_x : PP G (sixW G a (upN Ns z (addG (addG (heT N w k) 2 k (w + k)) 0 k (w + k))) v49.1 v49.2) H := kp hk55 h_x (dj_cons (ne_a ha (by omega)) (dj_cons (ne_a ha (by omega)) (dj_cons (ne_a ha (by omega)) (dj_cons (ne_a ha (by omega)) (dj_cons (ne_a ha (by omega)) (dj_cons (ne_a ha (by omega)) (dj_nil)))))))
    have h_y : PP G (twoW G a (upN Ns z N)) H := kp hk55 h_y (dj_cons (ne_a ha (by omega)) (dj_cons (ne_a ha (by omega)) (dj_nil)))
    have h_p : PP G (ar1 G a 109 6 (upd f1 k (nI (nG (heT N w k))))) H := kp hk55 h_p (dj_cons (ne_a ha (by omega)) (dj_nil))
    have h_g : PP G (ar1 G a 110 6 (upd f2 k (nI (nG (heT N w k) + 1)))) H := kp hk55 h_g (dj_cons (ne_a ha (by omega)) (dj_nil))
    have h_nextP : PP G (ar1 G a 111 6 np0) H := kp hk55 h_nextP (dj_cons (ne_a ha (by omega)) (dj_nil))
    have h_nextG : PP G (ar1 G a 112 6 ng0) H := kp hk55 h_nextG (dj_cons (ne_a ha (by omega)) (dj_nil))
    refine lv_iinc (v := nI (k + 1)) (lv' := [(4, .int (nI (k + 1))), (0, .ref (a 93)), (1, .int (nI z)), (2, .int (nI m9)), (3, .int (nI w))]) hx hb dX12_joins_61 hl (k := 4) rfl (by first | exact nI_add _ 1 | decide) (by decide) rfl (fun ls hl => ?_)
    refine lv_goto (tgt := 3) hx hb dX12_joins_64 (by decide) ?_
    exact ih1 (k + 1) v49.1 v49.2 (upd f1 k (nI (nG (heT N w k)))) (upd f2 k (nI (nG (heT N w k) + 1))) (upd f5 k (nI (nG N + 2 * k))) _ _ _ ⟨h_x, h_y, h_p, h_g, h_nextP, h_nextG, h_row, hS, lv_sub hl [1, 2, 3, 4, 0] rfl, by omega, hF50, upd_fill (v := fun r => nI (nG N + 2 * r)) h1 (by first | rfl | rw [hE.1]), upd_fill (v := fun r => nI (nG N + 2 * r + 1)) h2 (by first | rfl | rw [hE.1]), upd_fill (v := fun r => nI (nG N + 2 * r)) h5 (by first | rfl | rw [hE.1])⟩ (by show w - (k + 1) < w - k; omega)
set_option maxHeartbeats 4000000 in
set_option maxRecDepth 100000 in
/-- joins -/
theorem c_X12_joins2 (l : Launch) (G : GG) (a : Nat → Nat) (ha : Inj a) (cy th : Int32) (Ns : Nat → NT) (z : Nat) (N : NT) (fs sc : FN) (w m9 : Nat) (p0 g0 np0 ng0 rw0 : FN) (hz : z < 4) (hw : 1 ≤ w ∧ w ≤ 6) (hm : ¬ m9 = 1) (hm2 : m9 < 3) (hg : nG N = 2 * w) (ho : nO N = 0) (hFS : FS (upN Ns z N) fs sc)  : Met l yX12_joins wsX12_joins ({ frames := 1, cells := 0, slots := 0, locals := 25 } : Room) (PcB G [.ref (a 93), .int (nI z), .int (nI m9), .int (nI w)] (fun H => PP G (modO a cy th) H ∧ PP G (sixW G a (upN Ns z N) fs sc) H ∧ PP G (twoW G a (upN Ns z N)) H ∧ PP G (ar1 G a 109 6 p0) H ∧ PP G (ar1 G a 110 6 g0) H ∧ PP G (ar1 G a 111 6 np0) H ∧ PP G (ar1 G a 112 6 ng0) H ∧ PP G (ar1 G a 113 16 rw0) H)) (QV (fun u : FN × FN × FN × FN × FN × FN × FN => FS (upN Ns z (joO (m9 = 1) N w)) u.1 u.2.1) (fun u H => PP G (sixW G a (upN Ns z (joO (m9 = 1) N w)) u.1 u.2.1) H ∧ PP G (twoW G a (upN Ns z (joO (m9 = 1) N w))) H ∧ PP G (ar1 G a 109 6 u.2.2.1) H ∧ PP G (ar1 G a 110 6 u.2.2.2.1) H ∧ PP G (ar1 G a 111 6 u.2.2.2.2.1) H ∧ PP G (ar1 G a 112 6 u.2.2.2.2.2.1) H ∧ PP G (ar1 G a 113 16 u.2.2.2.2.2.2) H) (orA (rng a 94 8) (rng a 109 5))) 0 0 (orA (rng a 94 8) (rng a 109 5)) := by
  refine Met.ofW (cc := cX12_joins) (maxL := 9) (ret := none) (by decide) rfl ?_
  intro p e s m args below meth c s₁ B hml hv
  obtain ⟨rfl, hB, hK, hNW⟩ := hv
  have hx := B.exec
  have hb := B.bytes
  have hr := B.returns
  have hts := atoms_spec (ws := wsX12_joins) B.pre
  have hown : s.vm.findClass RX12 = some m.cls := findClass_of_methodNamed B.named
  have hlocks := B.notSynchronized
  have FX : CallFix p m c cX12_joins 9 s ([.ref (a 93), .int (nI z), .int (nI m9), .int (nI w)] : List Value).toArray wsX12_joins RX12 := ⟨hx, hb, hml, hown, hts⟩
  have hl := lv_entry ([.ref (a 93), .int (nI z), .int (nI m9), .int (nI w)]) (n := 9) (Nat.le_of_ble_eq_true rfl)
  rw [lg_entry_eq]
  generalize (lg_sl ([.ref (a 93), .int (nI z), .int (nI m9), .int (nI w)]) ++ List.replicate (9 - (lg_sl ([.ref (a 93), .int (nI z), .int (nI m9), .int (nI w)])).length) Slot.unset).toArray = ls at hl ⊢
  have hl : lv_has ls 9 [(0, .ref (a 93)), (1, .int (nI z)), (2, .int (nI m9)), (3, .int (nI w))] := hl
  obtain ⟨h_o, h_x, h_y, h_p, h_g, h_nextP, h_nextG, h_row⟩ := hB
  have hS : va_S (orA (rng a 94 8) (rng a 109 5)) s.heap s.heap [] := va_S.rf
  refine lv_iconst (v := nI 0) hx hb dX12_joins_0 (by decide) ?_
  refine lv_istore (lv' := [(4, .int (nI 0)), (0, .ref (a 93)), (1, .int (nI z)), (2, .int (nI m9)), (3, .int (nI w))]) hx hb dX12_joins_1 hl (by decide) rfl (fun ls hl => ?_)
  refine lv_loop6 3 (fun (k : Nat) (f : FN) (g : FN) (f1 : FN) (f2 : FN) (f5 : FN) => w - k) (fun (k : Nat) (f : FN) (g : FN) (f1 : FN) (f2 : FN) (f5 : FN) (H : Heap) (locs : List Loc) (ls : Array Slot) => (PP G (sixW G a (upN Ns z (heT N w k)) f g) H) ∧ (PP G (twoW G a (upN Ns z N)) H) ∧ (PP G (ar1 G a 109 6 f1) H) ∧ (PP G (ar1 G a 110 6 f2) H) ∧ (PP G (ar1 G a 111 6 np0) H) ∧ (PP G (ar1 G a 112 6 ng0) H) ∧ (PP G (ar1 G a 113 16 f5) H) ∧ (va_S (orA (rng a 94 8) (rng a 109 5)) s.heap H locs) ∧ (lv_has ls 9 [(0, .ref (a 93)), (1, .int (nI z)), (2, .int (nI m9)), (3, .int (nI w)), (4, .int (nI k))]) ∧ (k ≤ w) ∧ (FS (upN Ns z (heT N w k)) f g) ∧ (∀ r, r < k → f1 r = nI (nG N + 2 * r)) ∧ (∀ r, r < k → f2 r = nI (nG N + 2 * r + 1)) ∧ (∀ r, r < k → f5 r = nI (nG N + 2 * r))) (fun _ _ _ _ _ _ => []) (fun k f g f1 f2 f5 H locs ls hI ih => ?_) 0 fs sc p0 g0 rw0 ⟨h_x, h_y, h_p, h_g, h_nextP, h_nextG, h_row, hS, lv_sub hl [1, 2, 3, 4, 0] rfl, by omega, hFS, fun r h => absurd h (Nat.not_lt_zero r), fun r h => absurd h (Nat.not_lt_zero r), fun r h => absurd h (Nat.not_lt_zero r)⟩ rfl
  obtain ⟨h_x, h_y, h_p, h_g, h_nextP, h_nextG, h_row, hS, hl, hk, hF, h1, h2, h5⟩ := hI
  have ih1 := @ih
  clear ih
  have hE := heT_g N w k
  refine lv_iload hx hb dX12_joins_3 (lv_at hl 4 rfl) ?_
  refine lv_iload_n hx hb dX12_joins_5 rfl (lv_at hl 3 rfl) ?_
  refine lv_icmp_ge (tgt := 67) hx hb dX12_joins_6 (by decide) (fun c6 => ?_) (fun c6 => ?_)
  · skip
    have c6 := cv_le (by omega) (by omega) c6
    refine lv_iconst (v := nI 1) hx hb dX12_joins_67 (by decide) ?_
    refine lv_istore (lv' := [(4, .int (nI 1)), (0, .ref (a 93)), (1, .int (nI z)), (2, .int (nI m9)), (3, .int (nI w))]) hx hb dX12_joins_68 hl (by decide) rfl (fun ls hl => ?_)
    refine lv_loop8 70 (fun (n : Nat) (f : FN) (g : FN) (f1 : FN) (f2 : FN) (f3 : FN) (f4 : FN) (S9 : JS) => 3 - n) (fun (n : Nat) (f : FN) (g : FN) (f1 : FN) (f2 : FN) (f3 : FN) (f4 : FN) (S9 : JS) (H : Heap) (locs : List Loc) (ls : Array Slot) => (PP G (sixW G a (upN Ns z S9.1) f g) H) ∧ (PP G (twoW G a (upN Ns z N)) H) ∧ (PP G (ar1 G a 109 6 f1) H) ∧ (PP G (ar1 G a 110 6 f2) H) ∧ (PP G (ar1 G a 111 6 f3) H) ∧ (PP G (ar1 G a 112 6 f4) H) ∧ (PP G (ar1 G a 113 16 f5) H) ∧ (va_S (orA (rng a 94 8) (rng a 109 5)) s.heap H locs) ∧ (lv_has ls 9 [(0, .ref (a 93)), (1, .int (nI z)), (2, .int (nI m9)), (3, .int (nI w)), (4, .int (nI (2 ^ n)))]) ∧ (n ≤ 3 ∧ (n = 0 ∨ 2 ^ n < 2 * w)) ∧ (S9 = jdT (m9 = 1) w (joS N w) n) ∧ (FS (upN Ns z S9.1) f g) ∧ (∀ r, r < w → f1 r = nI (S9.2.1 r)) ∧ (∀ r, r < w → f2 r = nI (S9.2.2 r))) (fun _ _ _ _ _ _ _ _ => []) (fun n f g f1 f2 f3 f4 S9 H locs ls hI ih => ?_) 0 f g f1 f2 np0 ng0 (joS N w) ⟨(by rw [show k = w by omega] at h_x; exact h_x), h_y, h_p, h_g, h_nextP, h_nextG, h_row, hS, lv_sub hl [1, 2, 3, 4, 0] rfl, ⟨by omega, Or.inl rfl⟩, rfl, by rw [show k = w by omega] at hF; exact hF, fun r h => h1 r (by omega), fun r h => h2 r (by omega)⟩ rfl
    obtain ⟨h_x, h_y, h_p, h_g, h_nextP, h_nextG, h_row, hS, hl, hn, hS9, hF, hp1, hp2⟩ := hI
    have ih2 := @ih
    clear ih
    have hp9 := pow_case (n := n) hn.1
    have hJ := jdT_g (sp := (m9 = 1)) (w := w) (s := joS N w) n
    rw [← hS9] at hJ
    have hJ0 : nG (joS N w).1 = nG N + 2 * w := (heT_g N w w).1
    have hJ1 : nO (joS N w).1 = nO N := (heT_g N w w).2
    have hq9 : 3 * w * n ≤ 3 * w * 3 := Nat.mul_le_mul_left _ hn.1
    refine lv_iload hx hb dX12_joins_70 (lv_at hl 4 rfl) ?_
    refine lv_iload_n hx hb dX12_joins_72 rfl (lv_at hl 3 rfl) ?_
    refine lv_icmp_ge (tgt := 310) hx hb dX12_joins_73 (by decide) (fun c73 => ?_) (fun c73 => ?_)
    · skip
      have c73 := cv_le (by omega) (by omega) c73
      have en : n = rdN w := rd_eq hw hn.1 c73 hn.2
      have hu9 : nU S9.1 = nU N := by rw [hS9]; exact (jdT_u n).trans (heT_u w)
      have ho9 : nO S9.1 = nO N := hJ.2.2.trans hJ1
      have h_y : PP G (twoW G a (upN Ns z S9.1)) H := two_same h_y ho9 hu9
      refine lv_aload_n hx hb dX12_joins_310 rfl (lv_at hl 0 rfl) ?_
      refine lv_iload_n hx hb dX12_joins_311 rfl (lv_at hl 1 rfl) ?_
      refine lv_aload_n hx hb dX12_joins_312 rfl (lv_at hl 0 rfl) ?_
      refine va_get (D := G.1) (ci := 12) (v := .ref (a 113)) (C := RX12) (T := TX12) (N := 23) hx hb hts inX12_joins_12 hown hK (ro hS h_o (dj_cons (or_no (rng_no ha (by omega)) (rng_no ha (by omega))) (dj_nil))) 0 rfl rfl 19 (by decide) (hts (.fieldLink RX12 67 "GateLedgerModel" "row" "[I") (List.mem_of_getElem? (i := 3) (by decide +kernel))) (fun _ h9 => h9) rfl dX12_joins_313 ?_
      refine lv_iconst (v := nI 0) hx hb dX12_joins_316 (by decide) ?_
      refine pp_iald hx hb hK h_row 0 rfl (vp_in_nI (by omega) (by omega)) dX12_joins_317 ?_
      refine lv_as (congrArg f5 (nI_clamp (by omega))) ?_
      refine lv_as (y := nI (nG N + 2 * 0)) (h5 _ (by omega)) ?_
      refine wr_i (va_runV (As := [.int (nI z), .int (nI (nG N + 2 * 0))]) (rest := []) FX (c_X12_addsOut l G a ha cy th Ns z S9.1 (nG N + 2 * 0) hz (by omega)) (cwV 2 hts gX12_joins_X12_addsOut rfl rfl rfl (by decide +kernel) ⟨Nat.le_of_ble_eq_true rfl, Nat.le_of_ble_eq_true rfl⟩) (preV hK hNW (⟨(ro hS h_o (dj_cons (or_no (rng_no ha (by omega)) (rng_no ha (by omega))) (dj_nil))), h_y⟩) (va_recv hK (ro hS h_o (dj_cons (or_no (rng_no ha (by omega)) (rng_no ha (by omega))) (dj_nil))) (ci := 12) (q0 := 0) rfl rfl)) rfl rfl hl.1 rfl (lv_room (Nat.le_of_ble_eq_true rfl)) dX12_joins_318 ⟨Nat.le_of_ble_eq_true rfl, Nat.le_of_ble_eq_true rfl⟩) hS (fun q h => Or.inl ((rng_sub (by omega)) q h)) (fun rr _ H locs er3 hP9 hk4 hS => ?_)
      have h_y : PP G (twoW G a (upN Ns z (addO S9.1 (nG N + 2 * 0)))) H := hP9
      have h_x : PP G (sixW G a (upN Ns z S9.1) f g) H := kp hk4 h_x (dj_cons (rng_no ha (by omega)) (dj_cons (rng_no ha (by omega)) (dj_cons (rng_no ha (by omega)) (dj_cons (rng_no ha (by omega)) (dj_cons (rng_no ha (by omega)) (dj_cons (rng_no ha (by omega)) (dj_nil)))))))
      have h_p : PP G (ar1 G a 109 6 f1) H := kp hk4 h_p (dj_cons (rng_no ha (by omega)) (dj_nil))
      have h_g : PP G (ar1 G a 110 6 f2) H := kp hk4 h_g (dj_cons (rng_no ha (by omega)) (dj_nil))
      have h_nextP : PP G (ar1 G a 111 6 f3) H := kp hk4 h_nextP (dj_cons (rng_no ha (by omega)) (dj_nil))
      have h_nextG : PP G (ar1 G a 112 6 f4) H := kp hk4 h_nextG (dj_cons (rng_no ha (by omega)) (dj_nil))
      have h_row : PP G (ar1 G a 113 16 f5) H := kp hk4 h_row (dj_cons (rng_no ha (by omega)) (dj_nil))
      refine lv_pop hx hb dX12_joins_321 rfl ?_
      refine lv_iconst (v := nI 1) hx hb dX12_joins_322 (by decide) ?_
      refine lv_istore (lv' := [(4, .int (nI 1)), (0, .ref (a 93)), (1, .int (nI z)), (2, .int (nI m9)), (3, .int (nI w))]) hx hb dX12_joins_323 hl (by decide) rfl (fun ls hl => ?_)
      refine lv_loop3 325 (fun (v : Nat) (f : FN) (g : FN) => w - v) (fun (v : Nat) (f : FN) (g : FN) (H : Heap) (locs : List Loc) (ls : Array Slot) => (PP G (sixW G a (upN Ns z (ojT S9.1 (fun k => nG N + 2 * k) S9.2.2 v)) f g) H) ∧ (PP G (twoW G a (upN Ns z (ojT S9.1 (fun k => nG N + 2 * k) S9.2.2 v))) H) ∧ (PP G (ar1 G a 109 6 f1) H) ∧ (PP G (ar1 G a 110 6 f2) H) ∧ (PP G (ar1 G a 111 6 f3) H) ∧ (PP G (ar1 G a 112 6 f4) H) ∧ (PP G (ar1 G a 113 16 f5) H) ∧ (va_S (orA (rng a 94 8) (rng a 109 5)) s.heap H locs) ∧ (lv_has ls 9 [(0, .ref (a 93)), (1, .int (nI z)), (2, .int (nI m9)), (3, .int (nI w)), (4, .int (nI (v + 1)))]) ∧ (v + 1 ≤ w) ∧ (FS (upN Ns z (ojT S9.1 (fun k => nG N + 2 * k) S9.2.2 v)) f g)) (fun _ _ _ => []) (fun v f g H locs ls hI ih => ?_) 0 f g ⟨(six_same (N' := (ojT S9.1 (fun k => nG N + 2 * k) S9.2.2 0)) h_x rfl rfl rfl rfl), h_y, h_p, h_g, h_nextP, h_nextG, h_row, hS, lv_sub hl [1, 2, 3, 4, 0] rfl, by omega, FS_same (N' := (ojT S9.1 (fun k => nG N + 2 * k) S9.2.2 0)) hF rfl rfl rfl rfl⟩ rfl
      obtain ⟨h_x, h_y, h_p, h_g, h_nextP, h_nextG, h_row, hS, hl, hv, hF⟩ := hI
      have ih6 := @ih
      clear ih
      have hO := ojT_g (M := S9.1) (X := (fun k => nG N + 2 * k)) (C := S9.2.2) v
      refine lv_iload hx hb dX12_joins_325 (lv_at hl 4 rfl) ?_
      refine lv_iload_n hx hb dX12_joins_327 rfl (lv_at hl 3 rfl) ?_
      refine lv_icmp_ge (tgt := 365) hx hb dX12_joins_328 (by decide) (fun c328 => ?_) (fun c328 => ?_)
      · skip
        have c328 := cv_le (by omega) (by omega) c328
        have ev : v = w - 1 := by omega
        refine lv_aload_n hx hb dX12_joins_365 rfl (lv_at hl 0 rfl) ?_
        refine lv_iload_n hx hb dX12_joins_366 rfl (lv_at hl 1 rfl) ?_
        refine lv_aload_n hx hb dX12_joins_367 rfl (lv_at hl 0 rfl) ?_
        refine va_get (D := G.1) (ci := 12) (v := .ref (a 110)) (C := RX12) (T := TX12) (N := 23) hx hb hts inX12_joins_12 hown hK (ro hS h_o (dj_cons (or_no (rng_no ha (by omega)) (rng_no ha (by omega))) (dj_nil))) 0 rfl rfl 16 (by decide) (hts (.fieldLink RX12 58 "GateLedgerModel" "g" "[I") (List.mem_of_getElem? (i := 2) (by decide +kernel))) (fun _ h9 => h9) rfl dX12_joins_368 ?_
        refine lv_iload_n hx hb dX12_joins_371 rfl (lv_at hl 3 rfl) ?_
        refine lv_iconst (v := nI 1) hx hb dX12_joins_372 (by decide) ?_
        refine lv_isub hx hb dX12_joins_373 ?_
        refine lv_as (y := nI (w - 1)) (pk_sub (by omega)) ?_
        refine pp_iald hx hb hK h_g 0 rfl (vp_in_nI (by omega) (by omega)) dX12_joins_374 ?_
        refine lv_as (congrArg f2 (nI_clamp (by omega))) ?_
        refine lv_as (y := nI (S9.2.2 (w - 1))) (hp2 _ (by omega)) ?_
        refine wr_i (va_runV (As := [.int (nI z), .int (nI (S9.2.2 (w - 1)))]) (rest := []) FX (c_X12_addsOut l G a ha cy th Ns z (ojT S9.1 (fun k => nG N + 2 * k) S9.2.2 v) (S9.2.2 (w - 1)) hz (by omega)) (cwV 2 hts gX12_joins_X12_addsOut rfl rfl rfl (by decide +kernel) ⟨Nat.le_of_ble_eq_true rfl, Nat.le_of_ble_eq_true rfl⟩) (preV hK hNW (⟨(ro hS h_o (dj_cons (or_no (rng_no ha (by omega)) (rng_no ha (by omega))) (dj_nil))), h_y⟩) (va_recv hK (ro hS h_o (dj_cons (or_no (rng_no ha (by omega)) (rng_no ha (by omega))) (dj_nil))) (ci := 12) (q0 := 0) rfl rfl)) rfl rfl hl.1 rfl (lv_room (Nat.le_of_ble_eq_true rfl)) dX12_joins_375 ⟨Nat.le_of_ble_eq_true rfl, Nat.le_of_ble_eq_true rfl⟩) hS (fun q h => Or.inl ((rng_sub (by omega)) q h)) (fun rr _ H locs er7 hP9 hk8 hS => ?_)
        have h_y : PP G (twoW G a (upN Ns z (addO (ojT S9.1 (fun k => nG N + 2 * k) S9.2.2 v) (S9.2.2 (w - 1))))) H := hP9
        have h_x : PP G (sixW G a (upN Ns z (ojT S9.1 (fun k => nG N + 2 * k) S9.2.2 v)) f g) H := kp hk8 h_x (dj_cons (rng_no ha (by omega)) (dj_cons (rng_no ha (by omega)) (dj_cons (rng_no ha (by omega)) (dj_cons (rng_no ha (by omega)) (dj_cons (rng_no ha (by omega)) (dj_cons (rng_no ha (by omega)) (dj_nil)))))))
        have h_p : PP G (ar1 G a 109 6 f1) H := kp hk8 h_p (dj_cons (rng_no ha (by omega)) (dj_nil))
        have h_g : PP G (ar1 G a 110 6 f2) H := kp hk8 h_g (dj_cons (rng_no ha (by omega)) (dj_nil))
        have h_nextP : PP G (ar1 G a 111 6 f3) H := kp hk8 h_nextP (dj_cons (rng_no ha (by omega)) (dj_nil))
        have h_nextG : PP G (ar1 G a 112 6 f4) H := kp hk8 h_nextG (dj_cons (rng_no ha (by omega)) (dj_nil))
        have h_row : PP G (ar1 G a 113 16 f5) H := kp hk8 h_row (dj_cons (rng_no ha (by omega)) (dj_nil))
        refine lv_pop hx hb dX12_joins_378 rfl ?_
        have e9 : joO (m9 = 1) N w = addO (ojT S9.1 (fun k => nG N + 2 * k) S9.2.2 (w - 1)) (S9.2.2 (w - 1)) := by unfold joO; rw [← en, ← hS9]
        rw [ev] at h_x h_y hF
        have h_x : PP G (sixW G a (upN Ns z (joO (m9 = 1) N w)) f g) H := by rw [e9]; exact six_same h_x rfl rfl rfl rfl
        have h_y : PP G (twoW G a (upN Ns z (joO (m9 = 1) N w))) H := by rw [e9]; exact h_y
        have hF : FS (upN Ns z (joO (m9 = 1) N w)) f g := by rw [e9]; exact FS_same hF rfl rfl rfl rfl
        exact en_wv (f, g, f1, f2, f3, f4, f5) hx hb hr hlocks hS hF ⟨h_x, h_y, h_p, h_g, h_nextP, h_nextG, h_row⟩ dX12_joins_379
      · skip
        have c328 := cv_nle (by omega) (by omega) c328
        refine lv_aload_n hx hb dX12_joins_331 rfl (lv_at hl 0 rfl) ?_
        refine lv_iload_n hx hb dX12_joins_332 rfl (lv_at hl 1 rfl) ?_
        refine lv_aload_n hx hb dX12_joins_333 rfl (lv_at hl 0 rfl) ?_
        refine lv_iload_n hx hb dX12_joins_334 rfl (lv_at hl 1 rfl) ?_
        refine lv_iconst (v := nI 2) hx hb dX12_joins_335 (by decide) ?_
        refine lv_aload_n hx hb dX12_joins_336 rfl (lv_at hl 0 rfl) ?_
        refine va_get (D := G.1) (ci := 12) (v := .ref (a 113)) (C := RX12) (T := TX12) (N := 23) hx hb hts inX12_joins_12 hown hK (ro hS h_o (dj_cons (or_no (rng_no ha (by omega)) (rng_no ha (by omega))) (dj_nil))) 0 rfl rfl 19 (by decide) (hts (.fieldLink RX12 67 "GateLedgerModel" "row" "[I") (List.mem_of_getElem? (i := 3) (by decide +kernel))) (fun _ h9 => h9) rfl dX12_joins_337 ?_
        refine lv_iload hx hb dX12_joins_340 (lv_at hl 4 rfl) ?_
        refine pp_iald hx hb hK h_row 0 rfl (vp_in_nI (by omega) (by omega)) dX12_joins_342 ?_
        refine lv_as (congrArg f5 (nI_clamp (by omega))) ?_
        refine lv_as (y := nI (nG N + 2 * (v + 1))) (h5 _ (by omega)) ?_
        refine lv_aload_n hx hb dX12_joins_343 rfl (lv_at hl 0 rfl) ?_
        refine va_get (D := G.1) (ci := 12) (v := .ref (a 110)) (C := RX12) (T := TX12) (N := 23) hx hb hts inX12_joins_12 hown hK (ro hS h_o (dj_cons (or_no (rng_no ha (by omega)) (rng_no ha (by omega))) (dj_nil))) 0 rfl rfl 16 (by decide) (hts (.fieldLink RX12 58 "GateLedgerModel" "g" "[I") (List.mem_of_getElem? (i := 2) (by decide +kernel))) (fun _ h9 => h9) rfl dX12_joins_344 ?_
        refine lv_iload hx hb dX12_joins_347 (lv_at hl 4 rfl) ?_
        refine lv_iconst (v := nI 1) hx hb dX12_joins_349 (by decide) ?_
        refine lv_isub hx hb dX12_joins_350 ?_
        refine lv_as (y := nI v) (nI_pred v) ?_
        refine pp_iald hx hb hK h_g 0 rfl (vp_in_nI (by omega) (by omega)) dX12_joins_351 ?_
        refine lv_as (congrArg f2 (nI_clamp (by omega))) ?_
        refine lv_as (y := nI (S9.2.2 v)) (hp2 _ (by omega)) ?_
        refine wr_i (va_runV (As := [.int (nI z), .int (nI 2), .int (nI (nG N + 2 * (v + 1))), .int (nI (S9.2.2 v))]) (rest := [.int (nI z), .ref (a 93)]) FX (c_X12_adds l G a ha cy th Ns z (ojT S9.1 (fun k => nG N + 2 * k) S9.2.2 v) f g 2 (nG N + 2 * (v + 1)) (S9.2.2 v) (nI (S9.2.2 v)) hz (by omega) hF (by omega) (fun _ => rfl) (fun c => absurd c (by omega))) (cwV 4 hts gX12_joins_X12_adds rfl rfl rfl (by decide +kernel) ⟨Nat.le_of_ble_eq_true rfl, Nat.le_of_ble_eq_true rfl⟩) (preV hK hNW (⟨(ro hS h_o (dj_cons (or_no (rng_no ha (by omega)) (rng_no ha (by omega))) (dj_nil))), h_x⟩) (va_recv hK (ro hS h_o (dj_cons (or_no (rng_no ha (by omega)) (rng_no ha (by omega))) (dj_nil))) (ci := 12) (q0 := 0) rfl rfl)) rfl rfl hl.1 rfl (lv_room (Nat.le_of_ble_eq_true rfl)) dX12_joins_352 ⟨Nat.le_of_ble_eq_true rfl, Nat.le_of_ble_eq_true rfl⟩) hS (fun q h => Or.inl ((rng_sub (by omega)) q h)) (fun rr v10 H locs ⟨er12, hF11⟩ hP9 hk13 hS => ?_)
        have h_x : PP G (sixW G a (upN Ns z (addG (ojT S9.1 (fun k => nG N + 2 * k) S9.2.2 v) 2 (nG N + 2 * (v + 1)) (S9.2.2 v))) v10.1 v10.2) H := hP9
        have h_y : PP G (twoW G a (upN Ns z (ojT S9.1 (fun k => nG N + 2 * k) S9.2.2 v))) H := kp hk13 h_y (dj_cons (rng_no ha (by omega)) (dj_cons (rng_no ha (by omega)) (dj_nil)))
        have h_p : PP G (ar1 G a 109 6 f1) H := kp hk13 h_p (dj_cons (rng_no ha (by omega)) (dj_nil))
        have h_g : PP G (ar1 G a 110 6 f2) H := kp hk13 h_g (dj_cons (rng_no ha (by omega)) (dj_nil))
        have h_nextP : PP G (ar1 G a 111 6 f3) H := kp hk13 h_nextP (dj_cons (rng_no ha (by omega)) (dj_nil))
        have h_nextG : PP G (ar1 G a 112 6 f4) H := kp hk13 h_nextG (dj_cons (rng_no ha (by omega)) (dj_nil))
        have h_row : PP G (ar1 G a 113 16 f5) H := kp hk13 h_row (dj_cons (rng_no ha (by omega)) (dj_nil))
        refine lv_as (y := nI (nG (ojT S9.1 (fun k => nG N + 2 * k) S9.2.2 v))) er12 ?_
        have her12 : nG (addG (ojT S9.1 (fun k => nG N + 2 * k) S9.2.2 v) 2 (nG N + 2 * (v + 1)) (S9.2.2 v)) = nG (ojT S9.1 (fun k => nG N + 2 * k) S9.2.2 v) + 1 := rfl
        refine wr_i (va_runV (As := [.int (nI z), .int (nI (nG (ojT S9.1 (fun k => nG N + 2 * k) S9.2.2 v)))]) (rest := []) FX (c_X12_addsOut l G a ha cy th Ns z (ojT S9.1 (fun k => nG N + 2 * k) S9.2.2 v) (nG (ojT S9.1 (fun k => nG N + 2 * k) S9.2.2 v)) hz (by omega)) (cwV 2 hts gX12_joins_X12_addsOut rfl rfl rfl (by decide +kernel) ⟨Nat.le_of_ble_eq_true rfl, Nat.le_of_ble_eq_true rfl⟩) (preV hK hNW (⟨(ro hS h_o (dj_cons (or_no (rng_no ha (by omega)) (rng_no ha (by omega))) (dj_nil))), h_y⟩) (va_recv hK (ro hS h_o (dj_cons (or_no (rng_no ha (by omega)) (rng_no ha (by omega))) (dj_nil))) (ci := 12) (q0 := 0) rfl rfl)) rfl rfl hl.1 rfl (lv_room (Nat.le_of_ble_eq_true rfl)) dX12_joins_355 ⟨Nat.le_of_ble_eq_true rfl, Nat.le_of_ble_eq_true rfl⟩) hS (fun q h => Or.inl ((rng_sub (by omega)) q h)) (fun rr _ H locs er15 hP9 hk16 hS => ?_)
        have h_y : PP G (twoW G a (upN Ns z (addO (ojT S9.1 (fun k => nG N + 2 * k) S9.2.2 v) (nG (ojT S9.1 (fun k => nG N + 2 * k) S9.2.2 v))))) H := hP9
        have h_x : PP G (sixW G a (upN Ns z (addG (ojT S9.1 (fun k => nG N + 2 * k) S9.2.2 v) 2 (nG N + 2 * (v + 1)) (S9.2.2 v))) v10.1 v10.2) H := kp hk16 h_x (dj_cons (rng_no ha (by omega)) (dj_cons (rng_no ha (by omega)) (dj_cons (rng_no ha (by omega)) (dj_cons (rng_no ha (by omega)) (dj_cons (rng_no ha (by omega)) (dj_cons (rng_no ha (by omega)) (dj_nil)))))))
        have h_p : PP G (ar1 G a 109 6 f1) H := kp hk16 h_p (dj_cons (rng_no ha (by omega)) (dj_nil))
        have h_g : PP G (ar1 G a 110 6 f2) H := kp hk16 h_g (dj_cons (rng_no ha (by omega)) (dj_nil))
        have h_nextP : PP G (ar1 G a 111 6 f3) H := kp hk16 h_nextP (dj_cons (rng_no ha (by omega)) (dj_nil))
        have h_nextG : PP G (ar1 G a 112 6 f4) H := kp hk16 h_nextG (dj_cons (rng_no ha (by omega)) (dj_nil))
        have h_row : PP G (ar1 G a 113 16 f5) H := kp hk16 h_row (dj_cons (rng_no ha (by omega)) (dj_nil))
        refine lv_pop hx hb dX12_joins_358 rfl ?_
        refine lv_iinc (v := nI (v + 1 + 1)) (lv' := [(4, .int (nI (v + 1 + 1))), (0, .ref (a 93)), (1, .int (nI z)), (2, .int (nI m9)), (3, .int (nI w))]) hx hb dX12_joins_359 hl (k := 4) rfl (by first | exact nI_add _ 1 | decide) (by decide) rfl (fun ls hl => ?_)
        refine lv_goto (tgt := 325) hx hb dX12_joins_362 (by decide) ?_
        exact ih6 (v + 1) v10.1 v10.2 _ _ _ ⟨(six_same (N' := (ojT S9.1 (fun k => nG N + 2 * k) S9.2.2 (v + 1))) h_x rfl rfl rfl rfl), (two_same (N' := (ojT S9.1 (fun k => nG N + 2 * k) S9.2.2 (v + 1))) h_y rfl rfl), h_p, h_g, h_nextP, h_nextG, h_row, hS, lv_sub hl [1, 2, 3, 4, 0] rfl, by omega, FS_same (N' := (ojT S9.1 (fun k => nG N + 2 * k) S9.2.2 (v + 1))) hF11 rfl rfl rfl rfl⟩ (by show w - (v + 1) < w - v; omega)
    · skip
      have c73 := cv_nle (by omega) (by omega) c73
      refine lv_iconst (v := nI 0) hx hb dX12_joins_76 (by decide) ?_
      refine lv_istore (lv' := [(5, .int (nI 0)), (0, .ref (a 93)), (1, .int (nI z)), (2, .int (nI m9)), (3, .int (nI w)), (4, .int (nI (2 ^ n)))]) hx hb dX12_joins_77 hl (by decide) rfl (fun ls hl => ?_)
      refine lv_loop6 79 (fun (k : Nat) (f : FN) (g : FN) (f3 : FN) (f4 : FN) (T9 : JS) => w - k) (fun (k : Nat) (f : FN) (g : FN) (f3 : FN) (f4 : FN) (T9 : JS) (H : Heap) (locs : List Loc) (ls : Array Slot) => (PP G (sixW G a (upN Ns z T9.1) f g) H) ∧ (PP G (twoW G a (upN Ns z N)) H) ∧ (PP G (ar1 G a 109 6 f1) H) ∧ (PP G (ar1 G a 110 6 f2) H) ∧ (PP G (ar1 G a 111 6 f3) H) ∧ (PP G (ar1 G a 112 6 f4) H) ∧ (PP G (ar1 G a 113 16 f5) H) ∧ (va_S (orA (rng a 94 8) (rng a 109 5)) s.heap H locs) ∧ (lv_has ls 9 [(0, .ref (a 93)), (1, .int (nI z)), (2, .int (nI m9)), (3, .int (nI w)), (4, .int (nI (2 ^ n))), (5, .int (nI k))]) ∧ (k ≤ w) ∧ (T9 = joT (m9 = 1) (2 ^ n) S9 k) ∧ (FS (upN Ns z T9.1) f g) ∧ (∀ r, r < k → f3 r = nI (T9.2.1 r)) ∧ (∀ r, r < k → f4 r = nI (T9.2.2 r))) (fun _ _ _ _ _ _ => []) (fun k f g f3 f4 T9 H locs ls hI ih => ?_) 0 f g f3 f4 S9 ⟨h_x, h_y, h_p, h_g, h_nextP, h_nextG, h_row, hS, lv_sub hl [1, 2, 3, 4, 5, 0] rfl, by omega, rfl, hF, fun r h => absurd h (Nat.not_lt_zero r), fun r h => absurd h (Nat.not_lt_zero r)⟩ rfl
      obtain ⟨h_x, h_y, h_p, h_g, h_nextP, h_nextG, h_row, hS, hl, hk, hT9, hF, h3, h4⟩ := hI
      have ih18 := @ih
      clear ih
      have hT := joT_g (sp := (m9 = 1)) (d := 2 ^ n) (s := S9) k
      have hH := joT_hi (sp := (m9 = 1)) (d := 2 ^ n) (s := S9) k k (Nat.le_refl _)
      rw [← hT9] at hT hH
      refine lv_iload hx hb dX12_joins_79 (lv_at hl 5 rfl) ?_
      refine lv_iload_n hx hb dX12_joins_81 rfl (lv_at hl 3 rfl) ?_
      refine lv_icmp_ge (tgt := 258) hx hb dX12_joins_82 (by decide) (fun c82 => ?_) (fun c82 => ?_)
      · skip
        have c82 := cv_le (by omega) (by omega) c82
        have ek : k = w := by omega
        refine lv_iconst (v := nI 0) hx hb dX12_joins_258 (by decide) ?_
        refine lv_istore (lv' := [(5, .int (nI 0)), (0, .ref (a 93)), (1, .int (nI z)), (2, .int (nI m9)), (3, .int (nI w)), (4, .int (nI (2 ^ n)))]) hx hb dX12_joins_259 hl (by decide) rfl (fun ls hl => ?_)
        refine lv_loop3 261 (fun (q : Nat) (f5b : FN) (f6b : FN) => w - q) (fun (q : Nat) (f5b : FN) (f6b : FN) (H : Heap) (locs : List Loc) (ls : Array Slot) => (PP G (sixW G a (upN Ns z T9.1) f g) H) ∧ (PP G (twoW G a (upN Ns z N)) H) ∧ (PP G (ar1 G a 109 6 f5b) H) ∧ (PP G (ar1 G a 110 6 f6b) H) ∧ (PP G (ar1 G a 111 6 f3) H) ∧ (PP G (ar1 G a 112 6 f4) H) ∧ (PP G (ar1 G a 113 16 f5) H) ∧ (va_S (orA (rng a 94 8) (rng a 109 5)) s.heap H locs) ∧ (lv_has ls 9 [(0, .ref (a 93)), (1, .int (nI z)), (2, .int (nI m9)), (3, .int (nI w)), (4, .int (nI (2 ^ n))), (5, .int (nI q))]) ∧ (q ≤ w) ∧ (∀ r, r < q → f5b r = nI (T9.2.1 r)) ∧ (∀ r, r < q → f6b r = nI (T9.2.2 r))) (fun _ _ _ => []) (fun q f5b f6b H locs ls hI ih => ?_) 0 f1 f2 ⟨h_x, h_y, h_p, h_g, h_nextP, h_nextG, h_row, hS, lv_sub hl [1, 2, 3, 4, 5, 0] rfl, by omega, fun r h => absurd h (Nat.not_lt_zero r), fun r h => absurd h (Nat.not_lt_zero r)⟩ rfl
        obtain ⟨h_x, h_y, h_p, h_g, h_nextP, h_nextG, h_row, hS, hl, hq, hq1, hq2⟩ := hI
        have ih19 := @ih
        clear ih
        refine lv_iload hx hb dX12_joins_261 (lv_at hl 5 rfl) ?_
        refine lv_iload_n hx hb dX12_joins_263 rfl (lv_at hl 3 rfl) ?_
        refine lv_icmp_ge (tgt := 301) hx hb dX12_joins_264 (by decide) (fun c264 => ?_) (fun c264 => ?_)
        · skip
          have c264 := cv_le (by omega) (by omega) c264
          refine lv_iload hx hb dX12_joins_301 (lv_at hl 4 rfl) ?_
          refine lv_iconst (v := nI 2) hx hb dX12_joins_303 (by decide) ?_
          refine lv_imul hx hb dX12_joins_304 ?_
          refine lv_as (y := nI (2 ^ (n + 1))) (nI_p2 n) ?_
          refine lv_istore (lv' := [(4, .int (nI (2 ^ (n + 1)))), (0, .ref (a 93)), (1, .int (nI z)), (2, .int (nI m9)), (3, .int (nI w)), (5, .int (nI q))]) hx hb dX12_joins_305 hl (by decide) rfl (fun ls hl => ?_)
          refine lv_goto (tgt := 70) hx hb dX12_joins_307 (by decide) ?_
          exact ih2 (n + 1) f g f5b f6b f3 f4 T9 _ _ _ ⟨h_x, h_y, h_p, h_g, h_nextP, h_nextG, h_row, hS, lv_sub hl [1, 2, 3, 4, 0] rfl, ⟨by omega, Or.inr (by rw [Nat.pow_succ]; omega)⟩, hT9.trans (by rw [ek, hS9]; rfl), hF, fun r h => hq1 r (by omega), fun r h => hq2 r (by omega)⟩ (by show 3 - (n + 1) < 3 - n; omega)
        · skip
          have c264 := cv_nle (by omega) (by omega) c264
          refine lv_aload_n hx hb dX12_joins_267 rfl (lv_at hl 0 rfl) ?_
          refine va_get (D := G.1) (ci := 12) (v := .ref (a 109)) (C := RX12) (T := TX12) (N := 23) hx hb hts inX12_joins_12 hown hK (ro hS h_o (dj_cons (or_no (rng_no ha (by omega)) (rng_no ha (by omega))) (dj_nil))) 0 rfl rfl 15 (by decide) (hts (.fieldLink RX12 55 "GateLedgerModel" "p" "[I") (List.mem_of_getElem? (i := 1) (by decide +kernel))) (fun _ h9 => h9) rfl dX12_joins_268 ?_
          refine lv_iload hx hb dX12_joins_271 (lv_at hl 5 rfl) ?_
          refine lv_aload_n hx hb dX12_joins_273 rfl (lv_at hl 0 rfl) ?_
          refine va_get (D := G.1) (ci := 12) (v := .ref (a 111)) (C := RX12) (T := TX12) (N := 23) hx hb hts inX12_joins_12 hown hK (ro hS h_o (dj_cons (or_no (rng_no ha (by omega)) (rng_no ha (by omega))) (dj_nil))) 0 rfl rfl 17 (by decide) (hts (.fieldLink RX12 61 "GateLedgerModel" "nextP" "[I") (List.mem_of_getElem? (i := 4) (by decide +kernel))) (fun _ h9 => h9) rfl dX12_joins_274 ?_
          refine lv_iload hx hb dX12_joins_277 (lv_at hl 5 rfl) ?_
          refine pp_iald hx hb hK h_nextP 0 rfl (vp_in_nI (by omega) (by omega)) dX12_joins_279 ?_
          refine lv_as (congrArg f3 (nI_clamp (by omega))) ?_
          refine lv_as (y := nI (T9.2.1 q)) (h3 _ (by omega)) ?_
          refine pp_iast hx hb hK h_p hS (Or.inr (rng_in (by omega))) (vp_in_nI (by omega) (by omega)) dX12_joins_280 (fun H locs hP9 hk20 _ hS => ?_)
          rw [nI_clamp (by omega)] at hP9
          have h_p : PP G (ar1 G a 109 6 (upd f5b q (nI (T9.2.1 q)))) H := hP9
          have h_x : PP G (sixW G a (upN Ns z T9.1) f g) H := kp hk20 h_x (dj_cons (ne_a ha (by omega)) (dj_cons (ne_a ha (by omega)) (dj_cons (ne_a ha (by omega)) (dj_cons (ne_a ha (by omega)) (dj_cons (ne_a ha (by omega)) (dj_cons (ne_a ha (by omega)) (dj_nil)))))))
          have h_y : PP G (twoW G a (upN Ns z N)) H := kp hk20 h_y (dj_cons (ne_a ha (by omega)) (dj_cons (ne_a ha (by omega)) (dj_nil)))
          have h_g : PP G (ar1 G a 110 6 f6b) H := kp hk20 h_g (dj_cons (ne_a ha (by omega)) (dj_nil))
          have h_nextP : PP G (ar1 G a 111 6 f3) H := kp hk20 h_nextP (dj_cons (ne_a ha (by omega)) (dj_nil))
          have h_nextG : PP G (ar1 G a 112 6 f4) H := kp hk20 h_nextG (dj_cons (ne_a ha (by omega)) (dj_nil))
          have h_row : PP G (ar1 G a 113 16 f5) H := kp hk20 h_row (dj_cons (ne_a ha (by omega)) (dj_nil))
          refine lv_aload_n hx hb dX12_joins_281 rfl (lv_at hl 0 rfl) ?_
          refine va_get (D := G.1) (ci := 12) (v := .ref (a 110)) (C := RX12) (T := TX12) (N := 23) hx hb hts inX12_joins_12 hown hK (ro hS h_o (dj_cons (or_no (rng_no ha (by omega)) (rng_no ha (by omega))) (dj_nil))) 0 rfl rfl 16 (by decide) (hts (.fieldLink RX12 58 "GateLedgerModel" "g" "[I") (List.mem_of_getElem? (i := 2) (by decide +kernel))) (fun _ h9 => h9) rfl dX12_joins_282 ?_
          refine lv_iload hx hb dX12_joins_285 (lv_at hl 5 rfl) ?_
          refine lv_aload_n hx hb dX12_joins_287 rfl (lv_at hl 0 rfl) ?_
          refine va_get (D := G.1) (ci := 12) (v := .ref (a 112)) (C := RX12) (T := TX12) (N := 23) hx hb hts inX12_joins_12 hown hK (ro hS h_o (dj_cons (or_no (rng_no ha (by omega)) (rng_no ha (by omega))) (dj_nil))) 0 rfl rfl 18 (by decide) (hts (.fieldLink RX12 64 "GateLedgerModel" "nextG" "[I") (List.mem_of_getElem? (i := 5) (by decide +kernel))) (fun _ h9 => h9) rfl dX12_joins_288 ?_
          refine lv_iload hx hb dX12_joins_291 (lv_at hl 5 rfl) ?_
          refine pp_iald hx hb hK h_nextG 0 rfl (vp_in_nI (by omega) (by omega)) dX12_joins_293 ?_
          refine lv_as (congrArg f4 (nI_clamp (by omega))) ?_
          refine lv_as (y := nI (T9.2.2 q)) (h4 _ (by omega)) ?_
          refine pp_iast hx hb hK h_g hS (Or.inr (rng_in (by omega))) (vp_in_nI (by omega) (by omega)) dX12_joins_294 (fun H locs hP9 hk21 _ hS => ?_)
          rw [nI_clamp (by omega)] at hP9
          have h_g : PP G (ar1 G a 110 6 (upd f6b q (nI (T9.2.2 q)))) H := hP9
          have h_x : PP G (sixW G a (upN Ns z T9.1) f g) H := kp hk21 h_x (dj_cons (ne_a ha (by omega)) (dj_cons (ne_a ha (by omega)) (dj_cons (ne_a ha (by omega)) (dj_cons (ne_a ha (by omega)) (dj_cons (ne_a ha (by omega)) (dj_cons (ne_a ha (by omega)) (dj_nil)))))))
          have h_y : PP G (twoW G a (upN Ns z N)) H := kp hk21 h_y (dj_cons (ne_a ha (by omega)) (dj_cons (ne_a ha (by omega)) (dj_nil)))
          have h_p : PP G (ar1 G a 109 6 (upd f5b q (nI (T9.2.1 q)))) H := kp hk21 h_p (dj_cons (ne_a ha (by omega)) (dj_nil))
          have h_nextP : PP G (ar1 G a 111 6 f3) H := kp hk21 h_nextP (dj_cons (ne_a ha (by omega)) (dj_nil))
          have h_nextG : PP G (ar1 G a 112 6 f4) H := kp hk21 h_nextG (dj_cons (ne_a ha (by omega)) (dj_nil))
          have h_row : PP G (ar1 G a 113 16 f5) H := kp hk21 h_row (dj_cons (ne_a ha (by omega)) (dj_nil))
          refine lv_iinc (v := nI (q + 1)) (lv' := [(5, .int (nI (q + 1))), (0, .ref (a 93)), (1, .int (nI z)), (2, .int (nI m9)), (3, .int (nI w)), (4, .int (nI (2 ^ n)))]) hx hb dX12_joins_295 hl (k := 5) rfl (by first | exact nI_add _ 1 | decide) (by decide) rfl (fun ls hl => ?_)
          refine lv_goto (tgt := 261) hx hb dX12_joins_298 (by decide) ?_
          exact ih19 (q + 1) (upd f5b q (nI (T9.2.1 q))) (upd f6b q (nI (T9.2.2 q))) _ _ _ ⟨h_x, h_y, h_p, h_g, h_nextP, h_nextG, h_row, hS, lv_sub hl [1, 2, 3, 4, 5, 0] rfl, by omega, upd_fill (v := fun r => nI (T9.2.1 r)) hq1 rfl, upd_fill (v := fun r => nI (T9.2.2 r)) hq2 rfl⟩ (by show w - (q + 1) < w - q; omega)
      · skip
        have c82 := cv_nle (by omega) (by omega) c82
        refine lv_iload_n hx hb dX12_joins_85 rfl (lv_at hl 2 rfl) ?_
        refine lv_iconst (v := nI 1) hx hb dX12_joins_86 (by decide) ?_
        refine lv_icmp_ne (tgt := 109) hx hb dX12_joins_87 (by decide) (fun c87 => ?_) (fun c87 => ?_)
        · skip
          have c87 := cv_ne (by omega) (by omega) c87
          refine lv_iload hx hb dX12_joins_109 (lv_at hl 5 rfl) ?_
          refine lv_iload hx hb dX12_joins_111 (lv_at hl 4 rfl) ?_
          refine lv_icmp_lt (tgt := 120) hx hb dX12_joins_113 (by decide) (fun c113 => ?_) (fun c113 => ?_)
          · skip
            have c113 := cv_lt (by omega) (by omega) c113
            refine lv_iconst (v := nI 0) hx hb dX12_joins_120 (by decide) ?_
            refine lv_istore (lv' := [(6, .int (nI 0)), (0, .ref (a 93)), (1, .int (nI z)), (2, .int (nI m9)), (3, .int (nI w)), (4, .int (nI (2 ^ n))), (5, .int (nI k))]) hx hb dX12_joins_121 hl (by decide) rfl (fun ls hl => ?_)
            refine lv_iload_n hx hb dX12_joins_123 rfl (lv_at hl 3 rfl) ?_
            refine lv_iconst (v := nI 1) hx hb dX12_joins_124 (by decide) ?_
            refine lv_icmp_ne (tgt := 141) hx hb dX12_joins_125 (by decide) (fun c125 => ?_) (fun c125 => ?_)
            · skip
              have c125 := cv_ne (by omega) (by omega) c125
              refine lv_iload hx hb dX12_joins_141 (lv_at hl 6 rfl) ?_
              refine lv_iload hx hb dX12_joins_143 (lv_at hl 5 rfl) ?_
              refine lv_isub hx hb dX12_joins_145 ?_
              refine lv_istore (lv' := [(7, .int ((nI k) - (nI (2 ^ n)))), (6, .int (nI 0)), (0, .ref (a 93)), (1, .int (nI z)), (2, .int (nI m9)), (3, .int (nI w)), (4, .int (nI (2 ^ n))), (5, .int (nI k))]) hx hb dX12_joins_146 hl (by decide) rfl (fun ls hl => ?_)
              refine lv_aload_n hx hb dX12_joins_148 rfl (lv_at hl 2 rfl) ?_
              refine va_get (D := G.1) (ci := 12) (v := .ref (a 111)) (C := RX12) (T := TX12) (N := 23) hx hb hts inX12_joins_12 hown hK (ro hS h_o (dj_cons (or_no (rng_no ha (by omega)) (rng_no ha (by omega))) (dj_nil))) 0 rfl rfl 17 (by decide) (hts (.fieldLink RX12 61 "GateLedgerModel" "nextP" "[I") (List.mem_of_getElem? (i := 4) (by decide +kernel))) (fun _ h9 => h9) rfl dX12_joins_149 ?_
              refine lv_iload hx hb dX12_joins_152 (lv_at hl 7 rfl) ?_
              refine lv_aload_n hx hb dX12_joins_154 rfl (lv_at hl 2 rfl) ?_
              refine va_get (D := G.1) (ci := 12) (v := .ref (a 109)) (C := RX12) (T := TX12) (N := 23) hx hb hts inX12_joins_12 hown hK (ro hS h_o (dj_cons (or_no (rng_no ha (by omega)) (rng_no ha (by omega))) (dj_nil))) 0 rfl rfl 15 (by decide) (hts (.fieldLink RX12 55 "GateLedgerModel" "p" "[I") (List.mem_of_getElem? (i := 1) (by decide +kernel))) (fun _ h9 => h9) rfl dX12_joins_155 ?_
              refine lv_iload hx hb dX12_joins_158 (lv_at hl 7 rfl) ?_
              refine pp_iald hx hb hK h_p 0 rfl (vp_in_nI (by omega) (by omega)) dX12_joins_160 ?_
              refine lv_as (congrArg f1 (nI_clamp (by omega))) ?_
              refine lv_as (y := nI (S9.2.1 k)) (hp1 _ (by omega)) ?_
              refine pp_iast hx hb hK h_nextP hS (Or.inr (rng_in (by omega))) (vp_in_nI (by omega) (by omega)) dX12_joins_161 (fun H locs hP9 hk22 _ hS => ?_)
              rw [nI_clamp (by omega)] at hP9
              have h_nextP : PP G (ar1 G a 111 6 (upd f3 k (nI (S9.2.1 k)))) H := hP9
              have h_x : PP G (sixW G a (upN Ns z T9.1) f g) H := kp hk22 h_x (dj_cons (ne_a ha (by omega)) (dj_cons (ne_a ha (by omega)) (dj_cons (ne_a ha (by omega)) (dj_cons (ne_a ha (by omega)) (dj_cons (ne_a ha (by omega)) (dj_cons (ne_a ha (by omega)) (dj_nil)))))))
              have h_y : PP G (twoW G a (upN Ns z N)) H := kp hk22 h_y (dj_cons (ne_a ha (by omega)) (dj_cons (ne_a ha (by omega)) (dj_nil)))
              have h_p : PP G (ar1 G a 109 6 f1) H := kp hk22 h_p (dj_cons (ne_a ha (by omega)) (dj_nil))
              have h_g : PP G (ar1 G a 110 6 f2) H := kp hk22 h_g (dj_cons (ne_a ha (by omega)) (dj_nil))
              have h_nextG : PP G (ar1 G a 112 6 f4) H := kp hk22 h_nextG (dj_cons (ne_a ha (by omega)) (dj_nil))
              have h_row : PP G (ar1 G a 113 16 f5) H := kp hk22 h_row (dj_cons (ne_a ha (by omega)) (dj_nil))
              refine lv_aload_n hx hb dX12_joins_162 rfl (lv_at hl 2 rfl) ?_
              refine va_get (D := G.1) (ci := 12) (v := .ref (a 112)) (C := RX12) (T := TX12) (N := 23) hx hb hts inX12_joins_12 hown hK (ro hS h_o (dj_cons (or_no (rng_no ha (by omega)) (rng_no ha (by omega))) (dj_nil))) 0 rfl rfl 18 (by decide) (hts (.fieldLink RX12 64 "GateLedgerModel" "nextG" "[I") (List.mem_of_getElem? (i := 5) (by decide +kernel))) (fun _ h9 => h9) rfl dX12_joins_163 ?_
              refine lv_iload hx hb dX12_joins_166 (lv_at hl 7 rfl) ?_
              refine lv_aload_n hx hb dX12_joins_168 rfl (lv_at hl 2 rfl) ?_
              refine va_get (D := G.1) (ci := 12) (v := .ref (a 110)) (C := RX12) (T := TX12) (N := 23) hx hb hts inX12_joins_12 hown hK (ro hS h_o (dj_cons (or_no (rng_no ha (by omega)) (rng_no ha (by omega))) (dj_nil))) 0 rfl rfl 16 (by decide) (hts (.fieldLink RX12 58 "GateLedgerModel" "g" "[I") (List.mem_of_getElem? (i := 2) (by decide +kernel))) (fun _ h9 => h9) rfl dX12_joins_169 ?_
              refine lv_iload hx hb dX12_joins_172 (lv_at hl 7 rfl) ?_
              refine pp_iald hx hb hK h_g 0 rfl (vp_in_nI (by omega) (by omega)) dX12_joins_174 ?_
              refine lv_as (congrArg f2 (nI_clamp (by omega))) ?_
              refine lv_as (y := nI (S9.2.2 k)) (hp2 _ (by omega)) ?_
              refine pp_iast hx hb hK h_nextG hS (Or.inr (rng_in (by omega))) (vp_in_nI (by omega) (by omega)) dX12_joins_175 (fun H locs hP9 hk23 _ hS => ?_)
              rw [nI_clamp (by omega)] at hP9
              have h_nextG : PP G (ar1 G a 112 6 (upd f4 k (nI (S9.2.2 k)))) H := hP9
              have h_x : PP G (sixW G a (upN Ns z T9.1) f g) H := kp hk23 h_x (dj_cons (ne_a ha (by omega)) (dj_cons (ne_a ha (by omega)) (dj_cons (ne_a ha (by omega)) (dj_cons (ne_a ha (by omega)) (dj_cons (ne_a ha (by omega)) (dj_cons (ne_a ha (by omega)) (dj_nil)))))))
              have h_y : PP G (twoW G a (upN Ns z N)) H := kp hk23 h_y (dj_cons (ne_a ha (by omega)) (dj_cons (ne_a ha (by omega)) (dj_nil)))
              have h_p : PP G (ar1 G a 109 6 f1) H := kp hk23 h_p (dj_cons (ne_a ha (by omega)) (dj_nil))
              have h_g : PP G (ar1 G a 110 6 f2) H := kp hk23 h_g (dj_cons (ne_a ha (by omega)) (dj_nil))
              have h_nextP : PP G (ar1 G a 111 6 (upd f3 k (nI (S9.2.1 k)))) H := kp hk23 h_nextP (dj_cons (ne_a ha (by omega)) (dj_nil))
              have h_row : PP G (ar1 G a 113 16 f5) H := kp hk23 h_row (dj_cons (ne_a ha (by omega)) (dj_nil))
              refine lv_iload hx hb dX12_joins_176 (lv_at hl 1 rfl) ?_
              refine lv_if_eq (tgt := 252) hx hb dX12_joins_178 (by decide) (fun c178 => ?_) (fun c178 => ?_)
              · skip
                have hj0 : jp (m9 = 1) (2 ^ n) k = 0 := js_2n hm c113
                refine lv_iinc (v := nI (k + 1)) (lv' := [(5, .int (nI (k + 1))), (7, .int ((nI k) - (nI (2 ^ n)))), (6, .int (nI 0)), (0, .ref (a 93)), (1, .int (nI z)), (2, .int (nI m9)), (3, .int (nI w)), (4, .int (nI (2 ^ n)))]) hx hb dX12_joins_252 hl (k := 7) rfl (by first | exact nI_add _ 1 | decide) (by decide) rfl (fun ls hl => ?_)
                refine lv_goto (tgt := 79) hx hb dX12_joins_255 (by decide) ?_
                exact ih18 (k + 1) f g (upd f3 k (nI (S9.2.1 k))) (upd f4 k (nI (S9.2.2 k))) T9 _ _ _ ⟨h_x, h_y, h_p, h_g, h_nextP, h_nextG, h_row, hS, lv_sub hl [3, 4, 5, 6, 7, 0] rfl, by omega, by show _ = jst (m9 = 1) (2 ^ n) k S9.2.1 S9.2.2 (joT (m9 = 1) (2 ^ n) S9 k); rw [← hT9]; exact (if_pos hj0).symm, hF, upd_fill (v := fun r => nI (T9.2.1 r)) h3 (congrArg nI hH.1.symm), upd_fill (v := fun r => nI (T9.2.2 r)) h4 (congrArg nI hH.2.symm)⟩ (by show w - (k + 1) < w - k; omega)
              · exact absurd c178 (by decide)
            · skip
              have c125 := cv_eq (by omega) (by omega) c125
              exact absurd c125 (by omega)
          · skip
            have c113 := cv_nlt (by omega) (by omega) c113
            refine lv_iconst (v := nI 1) hx hb dX12_joins_116 (by decide) ?_
            refine lv_goto (tgt := 121) hx hb dX12_joins_117 (by decide) ?_
            refine lv_istore (lv' := [(6, .int (nI 1)), (0, .ref (a 93)), (1, .int (nI z)), (2, .int (nI m9)), (3, .int (nI w)), (4, .int (nI (2 ^ n))), (5, .int (nI k))]) hx hb dX12_joins_121 hl (by decide) rfl (fun ls hl => ?_)
            refine lv_iload_n hx hb dX12_joins_123 rfl (lv_at hl 3 rfl) ?_
            refine lv_iconst (v := nI 1) hx hb dX12_joins_124 (by decide) ?_
            refine lv_icmp_ne (tgt := 141) hx hb dX12_joins_125 (by decide) (fun c125 => ?_) (fun c125 => ?_)
            · skip
              have c125 := cv_ne (by omega) (by omega) c125
              refine lv_iload hx hb dX12_joins_141 (lv_at hl 6 rfl) ?_
              refine lv_iload hx hb dX12_joins_143 (lv_at hl 5 rfl) ?_
              refine lv_isub hx hb dX12_joins_145 ?_
              refine lv_istore (lv' := [(7, .int ((nI k) - (nI (2 ^ n)))), (6, .int (nI 1)), (0, .ref (a 93)), (1, .int (nI z)), (2, .int (nI m9)), (3, .int (nI w)), (4, .int (nI (2 ^ n))), (5, .int (nI k))]) hx hb dX12_joins_146 hl (by decide) rfl (fun ls hl => ?_)
              refine lv_aload_n hx hb dX12_joins_148 rfl (lv_at hl 2 rfl) ?_
              refine va_get (D := G.1) (ci := 12) (v := .ref (a 111)) (C := RX12) (T := TX12) (N := 23) hx hb hts inX12_joins_12 hown hK (ro hS h_o (dj_cons (or_no (rng_no ha (by omega)) (rng_no ha (by omega))) (dj_nil))) 0 rfl rfl 17 (by decide) (hts (.fieldLink RX12 61 "GateLedgerModel" "nextP" "[I") (List.mem_of_getElem? (i := 4) (by decide +kernel))) (fun _ h9 => h9) rfl dX12_joins_149 ?_
              refine lv_iload hx hb dX12_joins_152 (lv_at hl 7 rfl) ?_
              refine lv_aload_n hx hb dX12_joins_154 rfl (lv_at hl 2 rfl) ?_
              refine va_get (D := G.1) (ci := 12) (v := .ref (a 109)) (C := RX12) (T := TX12) (N := 23) hx hb hts inX12_joins_12 hown hK (ro hS h_o (dj_cons (or_no (rng_no ha (by omega)) (rng_no ha (by omega))) (dj_nil))) 0 rfl rfl 15 (by decide) (hts (.fieldLink RX12 55 "GateLedgerModel" "p" "[I") (List.mem_of_getElem? (i := 1) (by decide +kernel))) (fun _ h9 => h9) rfl dX12_joins_155 ?_
              refine lv_iload hx hb dX12_joins_158 (lv_at hl 7 rfl) ?_
              refine pp_iald hx hb hK h_p 0 rfl (vp_in_nI (by omega) (by omega)) dX12_joins_160 ?_
              refine lv_as (congrArg f1 (nI_clamp (by omega))) ?_
              refine lv_as (y := nI (S9.2.1 k)) (hp1 _ (by omega)) ?_
              refine pp_iast hx hb hK h_nextP hS (Or.inr (rng_in (by omega))) (vp_in_nI (by omega) (by omega)) dX12_joins_161 (fun H locs hP9 hk24 _ hS => ?_)
              rw [nI_clamp (by omega)] at hP9
              have h_nextP : PP G (ar1 G a 111 6 (upd f3 k (nI (S9.2.1 k)))) H := hP9
              have h_x : PP G (sixW G a (upN Ns z T9.1) f g) H := kp hk24 h_x (dj_cons (ne_a ha (by omega)) (dj_cons (ne_a ha (by omega)) (dj_cons (ne_a ha (by omega)) (dj_cons (ne_a ha (by omega)) (dj_cons (ne_a ha (by omega)) (dj_cons (ne_a ha (by omega)) (dj_nil)))))))
              have h_y : PP G (twoW G a (upN Ns z N)) H := kp hk24 h_y (dj_cons (ne_a ha (by omega)) (dj_cons (ne_a ha (by omega)) (dj_nil)))
              have h_p : PP G (ar1 G a 109 6 f1) H := kp hk24 h_p (dj_cons (ne_a ha (by omega)) (dj_nil))
              have h_g : PP G (ar1 G a 110 6 f2) H := kp hk24 h_g (dj_cons (ne_a ha (by omega)) (dj_nil))
              have h_nextG : PP G (ar1 G a 112 6 f4) H := kp hk24 h_nextG (dj_cons (ne_a ha (by omega)) (dj_nil))
              have h_row : PP G (ar1 G a 113 16 f5) H := kp hk24 h_row (dj_cons (ne_a ha (by omega)) (dj_nil))
              refine lv_aload_n hx hb dX12_joins_162 rfl (lv_at hl 2 rfl) ?_
              refine va_get (D := G.1) (ci := 12) (v := .ref (a 112)) (C := RX12) (T := TX12) (N := 23) hx hb hts inX12_joins_12 hown hK (ro hS h_o (dj_cons (or_no (rng_no ha (by omega)) (rng_no ha (by omega))) (dj_nil))) 0 rfl rfl 18 (by decide) (hts (.fieldLink RX12 64 "GateLedgerModel" "nextG" "[I") (List.mem_of_getElem? (i := 5) (by decide +kernel))) (fun _ h9 => h9) rfl dX12_joins_163 ?_
              refine lv_iload hx hb dX12_joins_166 (lv_at hl 7 rfl) ?_
              refine lv_aload_n hx hb dX12_joins_168 rfl (lv_at hl 2 rfl) ?_
              refine va_get (D := G.1) (ci := 12) (v := .ref (a 110)) (C := RX12) (T := TX12) (N := 23) hx hb hts inX12_joins_12 hown hK (ro hS h_o (dj_cons (or_no (rng_no ha (by omega)) (rng_no ha (by omega))) (dj_nil))) 0 rfl rfl 16 (by decide) (hts (.fieldLink RX12 58 "GateLedgerModel" "g" "[I") (List.mem_of_getElem? (i := 2) (by decide +kernel))) (fun _ h9 => h9) rfl dX12_joins_169 ?_
              refine lv_iload hx hb dX12_joins_172 (lv_at hl 7 rfl) ?_
              refine pp_iald hx hb hK h_g 0 rfl (vp_in_nI (by omega) (by omega)) dX12_joins_174 ?_
              refine lv_as (congrArg f2 (nI_clamp (by omega))) ?_
              refine lv_as (y := nI (S9.2.2 k)) (hp2 _ (by omega)) ?_
              refine pp_iast hx hb hK h_nextG hS (Or.inr (rng_in (by omega))) (vp_in_nI (by omega) (by omega)) dX12_joins_175 (fun H locs hP9 hk25 _ hS => ?_)
              rw [nI_clamp (by omega)] at hP9
              have h_nextG : PP G (ar1 G a 112 6 (upd f4 k (nI (S9.2.2 k)))) H := hP9
              have h_x : PP G (sixW G a (upN Ns z T9.1) f g) H := kp hk25 h_x (dj_cons (ne_a ha (by omega)) (dj_cons (ne_a ha (by omega)) (dj_cons (ne_a ha (by omega)) (dj_cons (ne_a ha (by omega)) (dj_cons (ne_a ha (by omega)) (dj_cons (ne_a ha (by omega)) (dj_nil)))))))
              have h_y : PP G (twoW G a (upN Ns z N)) H := kp hk25 h_y (dj_cons (ne_a ha (by omega)) (dj_cons (ne_a ha (by omega)) (dj_nil)))
              have h_p : PP G (ar1 G a 109 6 f1) H := kp hk25 h_p (dj_cons (ne_a ha (by omega)) (dj_nil))
              have h_g : PP G (ar1 G a 110 6 f2) H := kp hk25 h_g (dj_cons (ne_a ha (by omega)) (dj_nil))
              have h_nextP : PP G (ar1 G a 111 6 (upd f3 k (nI (S9.2.1 k)))) H := kp hk25 h_nextP (dj_cons (ne_a ha (by omega)) (dj_nil))
              have h_row : PP G (ar1 G a 113 16 f5) H := kp hk25 h_row (dj_cons (ne_a ha (by omega)) (dj_nil))
              refine lv_iload hx hb dX12_joins_176 (lv_at hl 1 rfl) ?_
              refine lv_if_eq (tgt := 252) hx hb dX12_joins_178 (by decide) (fun c178 => ?_) (fun c178 => ?_)
              · exact absurd c178 (by decide)
              · skip
                obtain ⟨J, hj1, hj2, hj3⟩ := js_2 (n := n) hm c113
                rw [hj2] at hl
                have hl : lv_has ls 9 [(7, .int (nI J)), (6, .int (nI 1)), (0, .ref (a 93)), (1, .int (nI z)), (2, .int (nI m9)), (3, .int (nI w)), (4, .int (nI (2 ^ n))), (5, .int (nI k))] := hl
                refine lv_aload_n hx hb dX12_joins_181 rfl (lv_at hl 2 rfl) ?_
                refine lv_iload_n hx hb dX12_joins_182 rfl (lv_at hl 3 rfl) ?_
                refine lv_iconst (v := nI 0) hx hb dX12_joins_183 (by decide) ?_
                refine lv_aload_n hx hb dX12_joins_184 rfl (lv_at hl 2 rfl) ?_
                refine va_get (D := G.1) (ci := 12) (v := .ref (a 109)) (C := RX12) (T := TX12) (N := 23) hx hb hts inX12_joins_12 hown hK (ro hS h_o (dj_cons (or_no (rng_no ha (by omega)) (rng_no ha (by omega))) (dj_nil))) 0 rfl rfl 15 (by decide) (hts (.fieldLink RX12 55 "GateLedgerModel" "p" "[I") (List.mem_of_getElem? (i := 1) (by decide +kernel))) (fun _ h9 => h9) rfl dX12_joins_185 ?_
                refine lv_iload hx hb dX12_joins_188 (lv_at hl 7 rfl) ?_
                refine pp_iald hx hb hK h_p 0 rfl (vp_in_nI (by omega) (by omega)) dX12_joins_190 ?_
                refine lv_as (congrArg f1 (nI_clamp (by omega))) ?_
                refine lv_as (y := nI (S9.2.1 k)) (hp1 _ (by omega)) ?_
                refine lv_aload_n hx hb dX12_joins_191 rfl (lv_at hl 2 rfl) ?_
                refine va_get (D := G.1) (ci := 12) (v := .ref (a 110)) (C := RX12) (T := TX12) (N := 23) hx hb hts inX12_joins_12 hown hK (ro hS h_o (dj_cons (or_no (rng_no ha (by omega)) (rng_no ha (by omega))) (dj_nil))) 0 rfl rfl 16 (by decide) (hts (.fieldLink RX12 58 "GateLedgerModel" "g" "[I") (List.mem_of_getElem? (i := 2) (by decide +kernel))) (fun _ h9 => h9) rfl dX12_joins_192 ?_
                refine lv_iload hx hb dX12_joins_195 (lv_at hl 0 rfl) ?_
                refine pp_iald hx hb hK h_g 0 rfl (vp_in_nI (by omega) (by omega)) dX12_joins_197 ?_
                refine lv_as (congrArg f2 (nI_clamp (by omega))) ?_
                refine lv_as (y := nI (S9.2.2 J)) (hp2 _ (by omega)) ?_
                refine wr_i (va_runV (As := [.int (nI z), .int (nI 0), .int (nI (S9.2.1 k)), .int (nI (S9.2.2 J))]) (rest := []) FX (c_X12_adds l G a ha cy th Ns z T9.1 f g 0 (S9.2.1 k) (S9.2.2 J) (nI (S9.2.2 J)) hz (by omega) hF (by omega) (fun _ => rfl) (fun c => absurd c (by omega))) (cwV 4 hts gX12_joins_X12_adds rfl rfl rfl (by decide +kernel) ⟨Nat.le_of_ble_eq_true rfl, Nat.le_of_ble_eq_true rfl⟩) (preV hK hNW (⟨(ro hS h_o (dj_cons (or_no (rng_no ha (by omega)) (rng_no ha (by omega))) (dj_nil))), h_x⟩) (va_recv hK (ro hS h_o (dj_cons (or_no (rng_no ha (by omega)) (rng_no ha (by omega))) (dj_nil))) (ci := 12) (q0 := 0) rfl rfl)) rfl rfl hl.1 rfl (lv_room (Nat.le_of_ble_eq_true rfl)) dX12_joins_198 ⟨Nat.le_of_ble_eq_true rfl, Nat.le_of_ble_eq_true rfl⟩) hS (fun q h => Or.inl ((rng_sub (by omega)) q h)) (fun rr v26 H locs ⟨er28, hF27⟩ hP9 hk29 hS => ?_)
                have h_x : PP G (sixW G a (upN Ns z (addG T9.1 0 (S9.2.1 k) (S9.2.2 J))) v26.1 v26.2) H := hP9
                have h_y : PP G (twoW G a (upN Ns z N)) H := kp hk29 h_y (dj_cons (rng_no ha (by omega)) (dj_cons (rng_no ha (by omega)) (dj_nil)))
                have h_p : PP G (ar1 G a 109 6 f1) H := kp hk29 h_p (dj_cons (rng_no ha (by omega)) (dj_nil))
                have h_g : PP G (ar1 G a 110 6 f2) H := kp hk29 h_g (dj_cons (rng_no ha (by omega)) (dj_nil))
                have h_nextP : PP G (ar1 G a 111 6 (upd f3 k (nI (S9.2.1 k)))) H := kp hk29 h_nextP (dj_cons (rng_no ha (by omega)) (dj_nil))
                have h_nextG : PP G (ar1 G a 112 6 (upd f4 k (nI (S9.2.2 k)))) H := kp hk29 h_nextG (dj_cons (rng_no ha (by omega)) (dj_nil))
                have h_row : PP G (ar1 G a 113 16 f5) H := kp hk29 h_row (dj_cons (rng_no ha (by omega)) (dj_nil))
                refine lv_as (y := nI (nG T9.1)) er28 ?_
                have her28 : nG (addG T9.1 0 (S9.2.1 k) (S9.2.2 J)) = nG T9.1 + 1 := rfl
                refine lv_istore (lv' := [(8, .int (nI (nG T9.1))), (7, .int (nI J)), (6, .int (nI 1)), (0, .ref (a 93)), (1, .int (nI z)), (2, .int (nI m9)), (3, .int (nI w)), (4, .int (nI (2 ^ n))), (5, .int (nI k))]) hx hb dX12_joins_201 hl (by decide) rfl (fun ls hl => ?_)
                refine lv_aload_n hx hb dX12_joins_203 rfl (lv_at hl 3 rfl) ?_
                refine va_get (D := G.1) (ci := 12) (v := .ref (a 112)) (C := RX12) (T := TX12) (N := 23) hx hb hts inX12_joins_12 hown hK (ro hS h_o (dj_cons (or_no (rng_no ha (by omega)) (rng_no ha (by omega))) (dj_nil))) 0 rfl rfl 18 (by decide) (hts (.fieldLink RX12 64 "GateLedgerModel" "nextG" "[I") (List.mem_of_getElem? (i := 5) (by decide +kernel))) (fun _ h9 => h9) rfl dX12_joins_204 ?_
                refine lv_iload hx hb dX12_joins_207 (lv_at hl 8 rfl) ?_
                refine lv_aload_n hx hb dX12_joins_209 rfl (lv_at hl 3 rfl) ?_
                refine lv_iload_n hx hb dX12_joins_210 rfl (lv_at hl 4 rfl) ?_
                refine lv_iconst (v := nI 1) hx hb dX12_joins_211 (by decide) ?_
                refine lv_aload_n hx hb dX12_joins_212 rfl (lv_at hl 3 rfl) ?_
                refine va_get (D := G.1) (ci := 12) (v := .ref (a 110)) (C := RX12) (T := TX12) (N := 23) hx hb hts inX12_joins_12 hown hK (ro hS h_o (dj_cons (or_no (rng_no ha (by omega)) (rng_no ha (by omega))) (dj_nil))) 0 rfl rfl 16 (by decide) (hts (.fieldLink RX12 58 "GateLedgerModel" "g" "[I") (List.mem_of_getElem? (i := 2) (by decide +kernel))) (fun _ h9 => h9) rfl dX12_joins_213 ?_
                refine lv_iload hx hb dX12_joins_216 (lv_at hl 8 rfl) ?_
                refine pp_iald hx hb hK h_g 0 rfl (vp_in_nI (by omega) (by omega)) dX12_joins_218 ?_
                refine lv_as (congrArg f2 (nI_clamp (by omega))) ?_
                refine lv_as (y := nI (S9.2.2 k)) (hp2 _ (by omega)) ?_
                refine lv_iload hx hb dX12_joins_219 (lv_at hl 0 rfl) ?_
                refine wr_i (va_runV (As := [.int (nI z), .int (nI 1), .int (nI (S9.2.2 k)), .int (nI (nG T9.1))]) (rest := [.int (nI k), .ref (a 112)]) FX (c_X12_adds l G a ha cy th Ns z (addG T9.1 0 (S9.2.1 k) (S9.2.2 J)) v26.1 v26.2 1 (S9.2.2 k) (nG T9.1) (nI (nG T9.1)) hz (by omega) hF27 (by omega) (fun _ => rfl) (fun c => absurd c (by omega))) (cwV 4 hts gX12_joins_X12_adds rfl rfl rfl (by decide +kernel) ⟨Nat.le_of_ble_eq_true rfl, Nat.le_of_ble_eq_true rfl⟩) (preV hK hNW (⟨(ro hS h_o (dj_cons (or_no (rng_no ha (by omega)) (rng_no ha (by omega))) (dj_nil))), h_x⟩) (va_recv hK (ro hS h_o (dj_cons (or_no (rng_no ha (by omega)) (rng_no ha (by omega))) (dj_nil))) (ci := 12) (q0 := 0) rfl rfl)) rfl rfl hl.1 rfl (lv_room (Nat.le_of_ble_eq_true rfl)) dX12_joins_221 ⟨Nat.le_of_ble_eq_true rfl, Nat.le_of_ble_eq_true rfl⟩) hS (fun q h => Or.inl ((rng_sub (by omega)) q h)) (fun rr v31 H locs ⟨er33, hF32⟩ hP9 hk34 hS => ?_)
                have h_x : PP G (sixW G a (upN Ns z (addG (addG T9.1 0 (S9.2.1 k) (S9.2.2 J)) 1 (S9.2.2 k) (nG T9.1))) v31.1 v31.2) H := hP9
                have h_y : PP G (twoW G a (upN Ns z N)) H := kp hk34 h_y (dj_cons (rng_no ha (by omega)) (dj_cons (rng_no ha (by omega)) (dj_nil)))
                have h_p : PP G (ar1 G a 109 6 f1) H := kp hk34 h_p (dj_cons (rng_no ha (by omega)) (dj_nil))
                have h_g : PP G (ar1 G a 110 6 f2) H := kp hk34 h_g (dj_cons (rng_no ha (by omega)) (dj_nil))
                have h_nextP : PP G (ar1 G a 111 6 (upd f3 k (nI (S9.2.1 k)))) H := kp hk34 h_nextP (dj_cons (rng_no ha (by omega)) (dj_nil))
                have h_nextG : PP G (ar1 G a 112 6 (upd f4 k (nI (S9.2.2 k)))) H := kp hk34 h_nextG (dj_cons (rng_no ha (by omega)) (dj_nil))
                have h_row : PP G (ar1 G a 113 16 f5) H := kp hk34 h_row (dj_cons (rng_no ha (by omega)) (dj_nil))
                refine lv_as (y := nI (nG T9.1 + 1)) er33 ?_
                have her33 : nG (addG (addG T9.1 0 (S9.2.1 k) (S9.2.2 J)) 1 (S9.2.2 k) (nG T9.1)) = nG T9.1 + 1 + 1 := rfl
                refine pp_iast hx hb hK h_nextG hS (Or.inr (rng_in (by omega))) (vp_in_nI (by omega) (by omega)) dX12_joins_224 (fun H locs hP9 hk36 _ hS => ?_)
                rw [nI_clamp (by omega)] at hP9
                have h_nextG : PP G (ar1 G a 112 6 (upd (upd f4 k (nI (S9.2.2 k))) k (nI (nG T9.1 + 1)))) H := hP9
                have h_x : PP G (sixW G a (upN Ns z (addG (addG T9.1 0 (S9.2.1 k) (S9.2.2 J)) 1 (S9.2.2 k) (nG T9.1))) v31.1 v31.2) H := kp hk36 h_x (dj_cons (ne_a ha (by omega)) (dj_cons (ne_a ha (by omega)) (dj_cons (ne_a ha (by omega)) (dj_cons (ne_a ha (by omega)) (dj_cons (ne_a ha (by omega)) (dj_cons (ne_a ha (by omega)) (dj_nil)))))))
                have h_y : PP G (twoW G a (upN Ns z N)) H := kp hk36 h_y (dj_cons (ne_a ha (by omega)) (dj_cons (ne_a ha (by omega)) (dj_nil)))
                have h_p : PP G (ar1 G a 109 6 f1) H := kp hk36 h_p (dj_cons (ne_a ha (by omega)) (dj_nil))
                have h_g : PP G (ar1 G a 110 6 f2) H := kp hk36 h_g (dj_cons (ne_a ha (by omega)) (dj_nil))
                have h_nextP : PP G (ar1 G a 111 6 (upd f3 k (nI (S9.2.1 k)))) H := kp hk36 h_nextP (dj_cons (ne_a ha (by omega)) (dj_nil))
                have h_row : PP G (ar1 G a 113 16 f5) H := kp hk36 h_row (dj_cons (ne_a ha (by omega)) (dj_nil))
                refine lv_aload_n hx hb dX12_joins_225 rfl (lv_at hl 3 rfl) ?_
                refine va_get (D := G.1) (ci := 12) (v := .ref (a 111)) (C := RX12) (T := TX12) (N := 23) hx hb hts inX12_joins_12 hown hK (ro hS h_o (dj_cons (or_no (rng_no ha (by omega)) (rng_no ha (by omega))) (dj_nil))) 0 rfl rfl 17 (by decide) (hts (.fieldLink RX12 61 "GateLedgerModel" "nextP" "[I") (List.mem_of_getElem? (i := 4) (by decide +kernel))) (fun _ h9 => h9) rfl dX12_joins_226 ?_
                refine lv_iload hx hb dX12_joins_229 (lv_at hl 8 rfl) ?_
                refine lv_aload_n hx hb dX12_joins_231 rfl (lv_at hl 3 rfl) ?_
                refine lv_iload_n hx hb dX12_joins_232 rfl (lv_at hl 4 rfl) ?_
                refine lv_iconst (v := nI 0) hx hb dX12_joins_233 (by decide) ?_
                refine lv_aload_n hx hb dX12_joins_234 rfl (lv_at hl 3 rfl) ?_
                refine va_get (D := G.1) (ci := 12) (v := .ref (a 109)) (C := RX12) (T := TX12) (N := 23) hx hb hts inX12_joins_12 hown hK (ro hS h_o (dj_cons (or_no (rng_no ha (by omega)) (rng_no ha (by omega))) (dj_nil))) 0 rfl rfl 15 (by decide) (hts (.fieldLink RX12 55 "GateLedgerModel" "p" "[I") (List.mem_of_getElem? (i := 1) (by decide +kernel))) (fun _ h9 => h9) rfl dX12_joins_235 ?_
                refine lv_iload hx hb dX12_joins_238 (lv_at hl 8 rfl) ?_
                refine pp_iald hx hb hK h_p 0 rfl (vp_in_nI (by omega) (by omega)) dX12_joins_240 ?_
                refine lv_as (congrArg f1 (nI_clamp (by omega))) ?_
                refine lv_as (y := nI (S9.2.1 k)) (hp1 _ (by omega)) ?_
                refine lv_aload_n hx hb dX12_joins_241 rfl (lv_at hl 3 rfl) ?_
                refine va_get (D := G.1) (ci := 12) (v := .ref (a 109)) (C := RX12) (T := TX12) (N := 23) hx hb hts inX12_joins_12 hown hK (ro hS h_o (dj_cons (or_no (rng_no ha (by omega)) (rng_no ha (by omega))) (dj_nil))) 0 rfl rfl 15 (by decide) (hts (.fieldLink RX12 55 "GateLedgerModel" "p" "[I") (List.mem_of_getElem? (i := 1) (by decide +kernel))) (fun _ h9 => h9) rfl dX12_joins_242 ?_
                refine lv_iload hx hb dX12_joins_245 (lv_at hl 1 rfl) ?_
                refine pp_iald hx hb hK h_p 0 rfl (vp_in_nI (by omega) (by omega)) dX12_joins_247 ?_
                refine lv_as (congrArg f1 (nI_clamp (by omega))) ?_
                refine lv_as (y := nI (S9.2.1 J)) (hp1 _ (by omega)) ?_
                refine wr_i (va_runV (As := [.int (nI z), .int (nI 0), .int (nI (S9.2.1 k)), .int (nI (S9.2.1 J))]) (rest := [.int (nI k), .ref (a 111)]) FX (c_X12_adds l G a ha cy th Ns z (addG (addG T9.1 0 (S9.2.1 k) (S9.2.2 J)) 1 (S9.2.2 k) (nG T9.1)) v31.1 v31.2 0 (S9.2.1 k) (S9.2.1 J) (nI (S9.2.1 J)) hz (by omega) hF32 (by omega) (fun _ => rfl) (fun c => absurd c (by omega))) (cwV 4 hts gX12_joins_X12_adds rfl rfl rfl (by decide +kernel) ⟨Nat.le_of_ble_eq_true rfl, Nat.le_of_ble_eq_true rfl⟩) (preV hK hNW (⟨(ro hS h_o (dj_cons (or_no (rng_no ha (by omega)) (rng_no ha (by omega))) (dj_nil))), h_x⟩) (va_recv hK (ro hS h_o (dj_cons (or_no (rng_no ha (by omega)) (rng_no ha (by omega))) (dj_nil))) (ci := 12) (q0 := 0) rfl rfl)) rfl rfl hl.1 rfl (lv_room (Nat.le_of_ble_eq_true rfl)) dX12_joins_248 ⟨Nat.le_of_ble_eq_true rfl, Nat.le_of_ble_eq_true rfl⟩) hS (fun q h => Or.inl ((rng_sub (by omega)) q h)) (fun rr v37 H locs ⟨er39, hF38⟩ hP9 hk40 hS => ?_)
                have h_x : PP G (sixW G a (upN Ns z (addG (addG (addG T9.1 0 (S9.2.1 k) (S9.2.2 J)) 1 (S9.2.2 k) (nG T9.1)) 0 (S9.2.1 k) (S9.2.1 J))) v37.1 v37.2) H := hP9
                have h_y : PP G (twoW G a (upN Ns z N)) H := kp hk40 h_y (dj_cons (rng_no ha (by omega)) (dj_cons (rng_no ha (by omega)) (dj_nil)))
                have h_p : PP G (ar1 G a 109 6 f1) H := kp hk40 h_p (dj_cons (rng_no ha (by omega)) (dj_nil))
                have h_g : PP G (ar1 G a 110 6 f2) H := kp hk40 h_g (dj_cons (rng_no ha (by omega)) (dj_nil))
                have h_nextP : PP G (ar1 G a 111 6 (upd f3 k (nI (S9.2.1 k)))) H := kp hk40 h_nextP (dj_cons (rng_no ha (by omega)) (dj_nil))
                have h_nextG : PP G (ar1 G a 112 6 (upd (upd f4 k (nI (S9.2.2 k))) k (nI (nG T9.1 + 1)))) H := kp hk40 h_nextG (dj_cons (rng_no ha (by omega)) (dj_nil))
                have h_row : PP G (ar1 G a 113 16 f5) H := kp hk40 h_row (dj_cons (rng_no ha (by omega)) (dj_nil))
                refine lv_as (y := nI (nG T9.1 + 2)) er39 ?_
                have her39 : nG (addG (addG (addG T9.1 0 (S9.2.1 k) (S9.2.2 J)) 1 (S9.2.2 k) (nG T9.1)) 0 (S9.2.1 k) (S9.2.1 J)) = nG T9.1 + 2 + 1 := rfl
                refine pp_iast hx hb hK h_nextP hS (Or.inr (rng_in (by omega))) (vp_in_nI (by omega) (by omega)) dX12_joins_251 (fun H locs hP9 hk42 _ hS => ?_)
                rw [nI_clamp (by omega)] at hP9
                have h_nextP : PP G (ar1 G a 111 6 (upd (upd f3 k (nI (S9.2.1 k))) k (nI (nG T9.1 + 2)))) H := hP9
                have h_x : PP G (sixW G a (upN Ns z (addG (addG (addG T9.1 0 (S9.2.1 k) (S9.2.2 J)) 1 (S9.2.2 k) (nG T9.1)) 0 (S9.2.1 k) (S9.2.1 J))) v37.1 v37.2) H := kp hk42 h_x (dj_cons (ne_a ha (by omega)) (dj_cons (ne_a ha (by omega)) (dj_cons (ne_a ha (by omega)) (dj_cons (ne_a ha (by omega)) (dj_cons (ne_a ha (by omega)) (dj_cons (ne_a ha (by omega)) (dj_nil)))))))
                have h_y : PP G (twoW G a (upN Ns z N)) H := kp hk42 h_y (dj_cons (ne_a ha (by omega)) (dj_cons (ne_a ha (by omega)) (dj_nil)))
                have h_p : PP G (ar1 G a 109 6 f1) H := kp hk42 h_p (dj_cons (ne_a ha (by omega)) (dj_nil))
                have h_g : PP G (ar1 G a 110 6 f2) H := kp hk42 h_g (dj_cons (ne_a ha (by omega)) (dj_nil))
                have h_nextG : PP G (ar1 G a 112 6 (upd (upd f4 k (nI (S9.2.2 k))) k (nI (nG T9.1 + 1)))) H := kp hk42 h_nextG (dj_cons (ne_a ha (by omega)) (dj_nil))
                have h_row : PP G (ar1 G a 113 16 f5) H := kp hk42 h_row (dj_cons (ne_a ha (by omega)) (dj_nil))
                refine lv_iinc (v := nI (k + 1)) (lv' := [(5, .int (nI (k + 1))), (8, .int (nI (nG T9.1))), (7, .int (nI J)), (6, .int (nI 1)), (0, .ref (a 93)), (1, .int (nI z)), (2, .int (nI m9)), (3, .int (nI w)), (4, .int (nI (2 ^ n)))]) hx hb dX12_joins_252 hl (k := 8) rfl (by first | exact nI_add _ 1 | decide) (by decide) rfl (fun ls hl => ?_)
                refine lv_goto (tgt := 79) hx hb dX12_joins_255 (by decide) ?_
                exact ih18 (k + 1) v37.1 v37.2 (upd (upd f3 k (nI (S9.2.1 k))) k (nI (nG T9.1 + 2))) (upd (upd f4 k (nI (S9.2.2 k))) k (nI (nG T9.1 + 1))) (addG (addG (addG T9.1 0 (S9.2.1 k) (S9.2.2 J)) 1 (S9.2.2 k) (nG T9.1)) 0 (S9.2.1 k) (S9.2.1 J), un T9.2.1 k (nG T9.1 + 2), un T9.2.2 k (nG T9.1 + 1)) _ _ _ ⟨h_x, h_y, h_p, h_g, h_nextP, h_nextG, h_row, hS, lv_sub hl [4, 5, 6, 7, 8, 0] rfl, by omega, by show _ = jst (m9 = 1) (2 ^ n) k S9.2.1 S9.2.2 (joT (m9 = 1) (2 ^ n) S9 k); rw [← hT9, jst_J hj1], hF38, up2_un h3, up2_un h4⟩ (by show w - (k + 1) < w - k; omega)
            · skip
              have c125 := cv_eq (by omega) (by omega) c125
              exact absurd c125 (by omega)
        · skip
          have c87 := cv_eq (by omega) (by omega) c87
          exact absurd c87 (by omega)
  · skip
    have c6 := cv_nle (by omega) (by omega) c6
    refine lv_aload_n hx hb dX12_joins_9 rfl (lv_at hl 0 rfl) ?_
    refine va_get (D := G.1) (ci := 12) (v := .ref (a 109)) (C := RX12) (T := TX12) (N := 23) hx hb hts inX12_joins_12 hown hK (ro hS h_o (dj_cons (or_no (rng_no ha (by omega)) (rng_no ha (by omega))) (dj_nil))) 0 rfl rfl 15 (by decide) (hts (.fieldLink RX12 55 "GateLedgerModel" "p" "[I") (List.mem_of_getElem? (i := 1) (by decide +kernel))) (fun _ h9 => h9) rfl dX12_joins_10 ?_
    refine lv_iload hx hb dX12_joins_13 (lv_at hl 4 rfl) ?_
    refine lv_aload_n hx hb dX12_joins_15 rfl (lv_at hl 0 rfl) ?_
    refine lv_iload_n hx hb dX12_joins_16 rfl (lv_at hl 1 rfl) ?_
    refine lv_iconst (v := nI 2) hx hb dX12_joins_17 (by decide) ?_
    refine lv_iload hx hb dX12_joins_18 (lv_at hl 4 rfl) ?_
    refine lv_iload_n hx hb dX12_joins_20 rfl (lv_at hl 3 rfl) ?_
    refine lv_iload hx hb dX12_joins_21 (lv_at hl 4 rfl) ?_
    refine lv_iadd hx hb dX12_joins_23 ?_
    refine lv_as (nI_add _ _) ?_
    refine wr_i (va_runV (As := [.int (nI z), .int (nI 2), .int (nI k), .int (nI (w + k))]) (rest := [.int (nI k), .ref (a 109)]) FX (c_X12_adds l G a ha cy th Ns z (heT N w k) f g 2 k (w + k) (nI (w + k)) hz (by omega) hF (by omega) (fun _ => rfl) (fun c => absurd c (by omega))) (cwV 4 hts gX12_joins_X12_adds rfl rfl rfl (by decide +kernel) ⟨Nat.le_of_ble_eq_true rfl, Nat.le_of_ble_eq_true rfl⟩) (preV hK hNW (⟨(ro hS h_o (dj_cons (or_no (rng_no ha (by omega)) (rng_no ha (by omega))) (dj_nil))), h_x⟩) (va_recv hK (ro hS h_o (dj_cons (or_no (rng_no ha (by omega)) (rng_no ha (by omega))) (dj_nil))) (ci := 12) (q0 := 0) rfl rfl)) rfl rfl hl.1 rfl (lv_room (Nat.le_of_ble_eq_true rfl)) dX12_joins_24 ⟨Nat.le_of_ble_eq_true rfl, Nat.le_of_ble_eq_true rfl⟩) hS (fun q h => Or.inl ((rng_sub (by omega)) q h)) (fun rr v43 H locs ⟨er45, hF44⟩ hP9 hk46 hS => ?_)
    have h_x : PP G (sixW G a (upN Ns z (addG (heT N w k) 2 k (w + k))) v43.1 v43.2) H := hP9
    have h_y : PP G (twoW G a (upN Ns z N)) H := kp hk46 h_y (dj_cons (rng_no ha (by omega)) (dj_cons (rng_no ha (by omega)) (dj_nil)))
    have h_p : PP G (ar1 G a 109 6 f1) H := kp hk46 h_p (dj_cons (rng_no ha (by omega)) (dj_nil))
    have h_g : PP G (ar1 G a 110 6 f2) H := kp hk46 h_g (dj_cons (rng_no ha (by omega)) (dj_nil))
    have h_nextP : PP G (ar1 G a 111 6 np0) H := kp hk46 h_nextP (dj_cons (rng_no ha (by omega)) (dj_nil))
    have h_nextG : PP G (ar1 G a 112 6 ng0) H := kp hk46 h_nextG (dj_cons (rng_no ha (by omega)) (dj_nil))
    have h_row : PP G (ar1 G a 113 16 f5) H := kp hk46 h_row (dj_cons (rng_no ha (by omega)) (dj_nil))
    refine lv_as (y := nI (nG (heT N w k))) er45 ?_
    have her45 : nG (addG (heT N w k) 2 k (w + k)) = nG (heT N w k) + 1 := rfl
    refine pp_iast hx hb hK h_p hS (Or.inr (rng_in (by omega))) (vp_in_nI (by omega) (by omega)) dX12_joins_27 (fun H locs hP9 hk48 _ hS => ?_)
    rw [nI_clamp (by omega)] at hP9
    have h_p : PP G (ar1 G a 109 6 (upd f1 k (nI (nG (heT N w k))))) H := hP9
    have h_x : PP G (sixW G a (upN Ns z (addG (heT N w k) 2 k (w + k))) v43.1 v43.2) H := kp hk48 h_x (dj_cons (ne_a ha (by omega)) (dj_cons (ne_a ha (by omega)) (dj_cons (ne_a ha (by omega)) (dj_cons (ne_a ha (by omega)) (dj_cons (ne_a ha (by omega)) (dj_cons (ne_a ha (by omega)) (dj_nil)))))))
    have h_y : PP G (twoW G a (upN Ns z N)) H := kp hk48 h_y (dj_cons (ne_a ha (by omega)) (dj_cons (ne_a ha (by omega)) (dj_nil)))
    have h_g : PP G (ar1 G a 110 6 f2) H := kp hk48 h_g (dj_cons (ne_a ha (by omega)) (dj_nil))
    have h_nextP : PP G (ar1 G a 111 6 np0) H := kp hk48 h_nextP (dj_cons (ne_a ha (by omega)) (dj_nil))
    have h_nextG : PP G (ar1 G a 112 6 ng0) H := kp hk48 h_nextG (dj_cons (ne_a ha (by omega)) (dj_nil))
    have h_row : PP G (ar1 G a 113 16 f5) H := kp hk48 h_row (dj_cons (ne_a ha (by omega)) (dj_nil))
    refine lv_aload_n hx hb dX12_joins_28 rfl (lv_at hl 0 rfl) ?_
    refine va_get (D := G.1) (ci := 12) (v := .ref (a 110)) (C := RX12) (T := TX12) (N := 23) hx hb hts inX12_joins_12 hown hK (ro hS h_o (dj_cons (or_no (rng_no ha (by omega)) (rng_no ha (by omega))) (dj_nil))) 0 rfl rfl 16 (by decide) (hts (.fieldLink RX12 58 "GateLedgerModel" "g" "[I") (List.mem_of_getElem? (i := 2) (by decide +kernel))) (fun _ h9 => h9) rfl dX12_joins_29 ?_
    refine lv_iload hx hb dX12_joins_32 (lv_at hl 4 rfl) ?_
    refine lv_aload_n hx hb dX12_joins_34 rfl (lv_at hl 0 rfl) ?_
    refine lv_iload_n hx hb dX12_joins_35 rfl (lv_at hl 1 rfl) ?_
    refine lv_iconst (v := nI 0) hx hb dX12_joins_36 (by decide) ?_
    refine lv_iload hx hb dX12_joins_37 (lv_at hl 4 rfl) ?_
    refine lv_iload_n hx hb dX12_joins_39 rfl (lv_at hl 3 rfl) ?_
    refine lv_iload hx hb dX12_joins_40 (lv_at hl 4 rfl) ?_
    refine lv_iadd hx hb dX12_joins_42 ?_
    refine lv_as (nI_add _ _) ?_
    refine wr_i (va_runV (As := [.int (nI z), .int (nI 0), .int (nI k), .int (nI (w + k))]) (rest := [.int (nI k), .ref (a 110)]) FX (c_X12_adds l G a ha cy th Ns z (addG (heT N w k) 2 k (w + k)) v43.1 v43.2 0 k (w + k) (nI (w + k)) hz (by omega) hF44 (by omega) (fun _ => rfl) (fun c => absurd c (by omega))) (cwV 4 hts gX12_joins_X12_adds rfl rfl rfl (by decide +kernel) ⟨Nat.le_of_ble_eq_true rfl, Nat.le_of_ble_eq_true rfl⟩) (preV hK hNW (⟨(ro hS h_o (dj_cons (or_no (rng_no ha (by omega)) (rng_no ha (by omega))) (dj_nil))), h_x⟩) (va_recv hK (ro hS h_o (dj_cons (or_no (rng_no ha (by omega)) (rng_no ha (by omega))) (dj_nil))) (ci := 12) (q0 := 0) rfl rfl)) rfl rfl hl.1 rfl (lv_room (Nat.le_of_ble_eq_true rfl)) dX12_joins_43 ⟨Nat.le_of_ble_eq_true rfl, Nat.le_of_ble_eq_true rfl⟩) hS (fun q h => Or.inl ((rng_sub (by omega)) q h)) (fun rr v49 H locs ⟨er51, hF50⟩ hP9 hk52 hS => ?_)
    have h_x : PP G (sixW G a (upN Ns z (addG (addG (heT N w k) 2 k (w + k)) 0 k (w + k))) v49.1 v49.2) H := hP9
    have h_y : PP G (twoW G a (upN Ns z N)) H := kp hk52 h_y (dj_cons (rng_no ha (by omega)) (dj_cons (rng_no ha (by omega)) (dj_nil)))
    have h_p : PP G (ar1 G a 109 6 (upd f1 k (nI (nG (heT N w k))))) H := kp hk52 h_p (dj_cons (rng_no ha (by omega)) (dj_nil))
    have h_g : PP G (ar1 G a 110 6 f2) H := kp hk52 h_g (dj_cons (rng_no ha (by omega)) (dj_nil))
    have h_nextP : PP G (ar1 G a 111 6 np0) H := kp hk52 h_nextP (dj_cons (rng_no ha (by omega)) (dj_nil))
    have h_nextG : PP G (ar1 G a 112 6 ng0) H := kp hk52 h_nextG (dj_cons (rng_no ha (by omega)) (dj_nil))
    have h_row : PP G (ar1 G a 113 16 f5) H := kp hk52 h_row (dj_cons (rng_no ha (by omega)) (dj_nil))
    refine lv_as (y := nI (nG (heT N w k) + 1)) er51 ?_
    have her51 : nG (addG (addG (heT N w k) 2 k (w + k)) 0 k (w + k)) = nG (heT N w k) + 1 + 1 := rfl
    refine pp_iast hx hb hK h_g hS (Or.inr (rng_in (by omega))) (vp_in_nI (by omega) (by omega)) dX12_joins_46 (fun H locs hP9 hk54 _ hS => ?_)
    rw [nI_clamp (by omega)] at hP9
    have h_g : PP G (ar1 G a 110 6 (upd f2 k (nI (nG (heT N w k) + 1)))) H := hP9
    have h_x : PP G (sixW G a (upN Ns z (addG (addG (heT N w k) 2 k (w + k)) 0 k (w + k))) v49.1 v49.2) H := kp hk54 h_x (dj_cons (ne_a ha (by omega)) (dj_cons (ne_a ha (by omega)) (dj_cons (ne_a ha (by omega)) (dj_cons (ne_a ha (by omega)) (dj_cons (ne_a ha (by omega)) (dj_cons (ne_a ha (by omega)) (dj_nil)))))))
    have h_y : PP G (twoW G a (upN Ns z N)) H := kp hk54 h_y (dj_cons (ne_a ha (by omega)) (dj_cons (ne_a ha (by omega)) (dj_nil)))
    have h_p : PP G (ar1 G a 109 6 (upd f1 k (nI (nG (heT N w k))))) H := kp hk54 h_p (dj_cons (ne_a ha (by omega)) (dj_nil))
    have h_nextP : PP G (ar1 G a 111 6 np0) H := kp hk54 h_nextP (dj_cons (ne_a ha (by omega)) (dj_nil))
    have h_nextG : PP G (ar1 G a 112 6 ng0) H := kp hk54 h_nextG (dj_cons (ne_a ha (by omega)) (dj_nil))
    have h_row : PP G (ar1 G a 113 16 f5) H := kp hk54 h_row (dj_cons (ne_a ha (by omega)) (dj_nil))
    refine lv_aload_n hx hb dX12_joins_47 rfl (lv_at hl 0 rfl) ?_
    refine va_get (D := G.1) (ci := 12) (v := .ref (a 113)) (C := RX12) (T := TX12) (N := 23) hx hb hts inX12_joins_12 hown hK (ro hS h_o (dj_cons (or_no (rng_no ha (by omega)) (rng_no ha (by omega))) (dj_nil))) 0 rfl rfl 19 (by decide) (hts (.fieldLink RX12 67 "GateLedgerModel" "row" "[I") (List.mem_of_getElem? (i := 3) (by decide +kernel))) (fun _ h9 => h9) rfl dX12_joins_48 ?_
    refine lv_iload hx hb dX12_joins_51 (lv_at hl 4 rfl) ?_
    refine lv_aload_n hx hb dX12_joins_53 rfl (lv_at hl 0 rfl) ?_
    refine va_get (D := G.1) (ci := 12) (v := .ref (a 109)) (C := RX12) (T := TX12) (N := 23) hx hb hts inX12_joins_12 hown hK (ro hS h_o (dj_cons (or_no (rng_no ha (by omega)) (rng_no ha (by omega))) (dj_nil))) 0 rfl rfl 15 (by decide) (hts (.fieldLink RX12 55 "GateLedgerModel" "p" "[I") (List.mem_of_getElem? (i := 1) (by decide +kernel))) (fun _ h9 => h9) rfl dX12_joins_54 ?_
    refine lv_iload hx hb dX12_joins_57 (lv_at hl 4 rfl) ?_
    refine pp_iald hx hb hK h_p 0 rfl (vp_in_nI (by omega) (by omega)) dX12_joins_59 ?_
    refine lv_as (congrArg (upd f1 k (nI (nG (heT N w k)))) (nI_clamp (by omega))) ?_
    refine lv_as (y := nI (nG N + 2 * k)) (pk_us.trans (by rw [hE.1])) ?_
    refine pp_iast hx hb hK h_row hS (Or.inr (rng_in (by omega))) (vp_in_nI (by omega) (by omega)) dX12_joins_60 (fun H locs hP9 hk55 _ hS => ?_)
    rw [nI_clamp (by omega)] at hP9
    have h_row : PP G (ar1 G a 113 16 (upd f5 k (nI (nG N + 2 * k)))) H := hP9
    have h_x : PP G (sixW G a (upN Ns z (addG (addG (heT N w k) 2 k (w + k)) 0 k (w + k))) v49.1 v49.2) H := kp hk55 h_x (dj_cons (ne_a ha (by omega)) (dj_cons (ne_a ha (by omega)) (dj_cons (ne_a ha (by omega)) (dj_cons (ne_a ha (by omega)) (dj_cons (ne_a ha (by omega)) (dj_cons (ne_a ha (by omega)) (dj_nil)))))))
    have h_y : PP G (twoW G a (upN Ns z N)) H := kp hk55 h_y (dj_cons (ne_a ha (by omega)) (dj_cons (ne_a ha (by omega)) (dj_nil)))
    have h_p : PP G (ar1 G a 109 6 (upd f1 k (nI (nG (heT N w k))))) H := kp hk55 h_p (dj_cons (ne_a ha (by omega)) (dj_nil))
    have h_g : PP G (ar1 G a 110 6 (upd f2 k (nI (nG (heT N w k) + 1)))) H := kp hk55 h_g (dj_cons (ne_a ha (by omega)) (dj_nil))
    have h_nextP : PP G (ar1 G a 111 6 np0) H := kp hk55 h_nextP (dj_cons (ne_a ha (by omega)) (dj_nil))
    have h_nextG : PP G (ar1 G a 112 6 ng0) H := kp hk55 h_nextG (dj_cons (ne_a ha (by omega)) (dj_nil))
    refine lv_iinc (v := nI (k + 1)) (lv' := [(4, .int (nI (k + 1))), (0, .ref (a 93)), (1, .int (nI z)), (2, .int (nI m9)), (3, .int (nI w))]) hx hb dX12_joins_61 hl (k := 4) rfl (by first | exact nI_add _ 1 | decide) (by decide) rfl (fun ls hl => ?_)
    refine lv_goto (tgt := 3) hx hb dX12_joins_64 (by decide) ?_
    exact ih1 (k + 1) v49.1 v49.2 (upd f1 k (nI (nG (heT N w k)))) (upd f2 k (nI (nG (heT N w k) + 1))) (upd f5 k (nI (nG N + 2 * k))) _ _ _ ⟨h_x, h_y, h_p, h_g, h_nextP, h_nextG, h_row, hS, lv_sub hl [1, 2, 3, 4, 0] rfl, by omega, hF50, upd_fill (v := fun r => nI (nG N + 2 * r)) h1 (by first | rfl | rw [hE.1]), upd_fill (v := fun r => nI (nG N + 2 * r + 1)) h2 (by first | rfl | rw [hE.1]), upd_fill (v := fun r => nI (nG N + 2 * r)) h5 (by first | rfl | rw [hE.1])⟩ (by show w - (k + 1) < w - k; omega)
