/-! a drawn round, the loop -/
set_option maxHeartbeats 4000000 in
set_option maxRecDepth 100000 in
theorem lh_45 {p : Program} {l : Launch} {e : Env} {s : State} {m : MethodId} {below : List Frame} {meth : Method} {c : Code} {b : Nat} {Q : State → Prop} {G : GG} {a : Nat → Nat} {t9 : Nat} (J : LJ p l s m meth c #[Value.ref b] cL_law ret 12 wsL_law G a t9) (hA : ∀ k, s.heap.size ≤ a k) {st : ST} (hO : OKS st) {k : Nat} (hk : k < 70) {X : Nat} (hX9 : X < 16777216) {c0 s0 : Nat} (hc : c0 + 200 ≤ 600104) (hs : s0 + 1200 ≤ 7301314) {H : Heap} {locs : List Loc} {ls : Array Slot} (hS : va_S (fun q : Nat => s.heap.size ≤ q) s.heap H locs) (hCW : CW G a st H) (hl : lv_has ls 12 [(2, .int (nI k)), (1, .ref (a 0)), (0, .ref b)]) (K : ∀ (w y z t : Nat) (x3 : Int32) (H : Heap) (locs : List Loc) (ls : Array Slot), w < 14 → y ≤ 1200000 → z ≤ 12000 → t < 4 → va_S (fun q : Nat => s.heap.size ≤ q) s.heap H locs → CW G a st H → lv_has ls 12 [(9, .int (nI (nIn (st.1 t)))), (8, .int (nI (nG (st.1 t)))), (7, .int (nI t)), (6, .int (nI z)), (5, .int (nI y)), (4, .int (nI w)), (3, .int x3), (2, .int (nI k)), (1, .ref (a 0)), (0, .ref b)] → W p l e room_1 s m #[Value.ref b] below meth c H locs (c0 + 4) (s0 + 24) Q (F0 m 89 ls [])) : W p l e room_1 s m #[Value.ref b] below meth c H locs c0 s0 Q (F0 m 45 ls [.int (nI X)]) := by
  have J0 := J
  obtain ⟨hfl, hx, hb, hr, hml, hown, hts, hlocks, ha, hK, hNW, hLow, hX, hNC⟩ := J
  have FX : CallFix p m c cL_law 12 s #[Value.ref b] wsL_law RL := ⟨hx, hb, hml, hown, hts⟩
  have ht4 : X / 14 % 4 < 4 := Nat.mod_lt _ (by decide)
  refine lv_istore_n (lv' := [(3, .int (nI X)), (2, .int (nI k)), (1, .ref (a 0)), (0, .ref b)]) hx hb dL_law_45 rfl hl (by decide) rfl (fun ls hl => ?_)
  refine lv_iload_n hx hb dL_law_46 rfl (lv_at hl 0 rfl) ?_
  refine lv_bipush (v := nI 14) hx hb dL_law_47 (by decide) ?_
  refine lv_irem hx hb dL_law_49 (nI_ne0 (by omega) (by omega)) ?_
  refine lv_as (y := nI (X % 14)) (pk_rem (by omega) (by omega) (by omega)) ?_
  refine lv_istore (lv' := [(4, .int (nI (X % 14))), (3, .int (nI X)), (2, .int (nI k)), (1, .ref (a 0)), (0, .ref b)]) hx hb dL_law_50 hl (by decide) rfl (fun ls hl => ?_)
  refine lv_iload_n hx hb dL_law_52 rfl (lv_at hl 1 rfl) ?_
  refine lv_bipush (v := nI 14) hx hb dL_law_53 (by decide) ?_
  refine lv_idiv hx hb dL_law_55 (nI_ne0 (by omega) (by omega)) ?_
  refine lv_as (y := nI (X / 14)) (pk_div (by omega) (by omega) (by omega)) ?_
  refine lv_istore (lv' := [(5, .int (nI (X / 14))), (4, .int (nI (X % 14))), (3, .int (nI X)), (2, .int (nI k)), (1, .ref (a 0)), (0, .ref b)]) hx hb dL_law_56 hl (by decide) rfl (fun ls hl => ?_)
  refine lv_iload hx hb dL_law_58 (lv_at hl 0 rfl) ?_
  refine lv_bipush (v := nI 100) hx hb dL_law_60 (by decide) ?_
  refine lv_idiv hx hb dL_law_62 (nI_ne0 (by omega) (by omega)) ?_
  refine lv_as (y := nI ((X / 14) / 100)) (pk_div (by omega) (by omega) (by omega)) ?_
  refine lv_istore (lv' := [(6, .int (nI ((X / 14) / 100))), (5, .int (nI (X / 14))), (4, .int (nI (X % 14))), (3, .int (nI X)), (2, .int (nI k)), (1, .ref (a 0)), (0, .ref b)]) hx hb dL_law_63 hl (by decide) rfl (fun ls hl => ?_)
  refine lv_iload hx hb dL_law_65 (lv_at hl 1 rfl) ?_
  refine lv_iconst (v := nI 4) hx hb dL_law_67 (by decide) ?_
  refine lv_irem hx hb dL_law_68 (nI_ne0 (by omega) (by omega)) ?_
  refine lv_as (y := nI ((X / 14) % 4)) (pk_rem (by omega) (by omega) (by omega)) ?_
  refine lv_istore (lv' := [(7, .int (nI ((X / 14) % 4))), (6, .int (nI ((X / 14) / 100))), (5, .int (nI (X / 14))), (4, .int (nI (X % 14))), (3, .int (nI X)), (2, .int (nI k)), (1, .ref (a 0)), (0, .ref b)]) hx hb dL_law_69 hl (by decide) rfl (fun ls hl => ?_)
  refine lv_aload_n hx hb dL_law_71 rfl (lv_at hl 6 rfl) ?_
  refine lv_iload hx hb dL_law_72 (lv_at hl 0 rfl) ?_
  refine lv_iconst (v := nI 0) hx hb dL_law_74 (by decide) ?_
  refine wr_i (va_runV (As := [.int (nI ((X / 14) % 4)), .int (nI 0)]) (rest := []) FX (n_ofNet l hfl G a ha t9 st (X / 14 % 4) 0 hO ht4 (by decide)) (cwV 2 hts gL_law_X11_ofNet rfl rfl rfl (by decide +kernel) ⟨Nat.le_of_ble_eq_true rfl, Nat.le_of_ble_eq_true rfl⟩) (preVX hK hNW hCW (hLow.at hS (fun q9 h8 h9 => absurd h8 (Nat.not_lt.mpr h9))) (hX.at hS (fun q9 h8 h9 => absurd h8 (Nat.not_lt.mpr h9))) (cw_recv hK hCW)) rfl rfl hl.1 rfl (lv_room (Nat.le_of_ble_eq_true rfl)) dL_law_75 (rm_ok (by omega) (by omega))) hS (rng_ge hA) (fun r _ H locs hp hCW hk hS => ?_)
  refine lv_as (y := nI (nG (st.1 (X / 14 % 4)))) (hp.trans (of_0 rfl)) ?_
  refine lv_istore (lv' := [(8, .int (nI (nG (st.1 (X / 14 % 4))))), (7, .int (nI ((X / 14) % 4))), (6, .int (nI ((X / 14) / 100))), (5, .int (nI (X / 14))), (4, .int (nI (X % 14))), (3, .int (nI X)), (2, .int (nI k)), (1, .ref (a 0)), (0, .ref b)]) hx hb dL_law_78 hl (by decide) rfl (fun ls hl => ?_)
  refine lv_aload_n hx hb dL_law_80 rfl (lv_at hl 7 rfl) ?_
  refine lv_iload hx hb dL_law_81 (lv_at hl 1 rfl) ?_
  refine lv_iconst (v := nI 1) hx hb dL_law_83 (by decide) ?_
  refine wr_i (va_runV (As := [.int (nI ((X / 14) % 4)), .int (nI 1)]) (rest := []) FX (n_ofNet l hfl G a ha t9 st (X / 14 % 4) 1 hO ht4 (by decide)) (cwV 2 hts gL_law_X11_ofNet rfl rfl rfl (by decide +kernel) ⟨Nat.le_of_ble_eq_true rfl, Nat.le_of_ble_eq_true rfl⟩) (preVX hK hNW hCW (hLow.at hS (fun q9 h8 h9 => absurd h8 (Nat.not_lt.mpr h9))) (hX.at hS (fun q9 h8 h9 => absurd h8 (Nat.not_lt.mpr h9))) (cw_recv hK hCW)) rfl rfl hl.1 rfl (lv_room (Nat.le_of_ble_eq_true rfl)) dL_law_84 (rm_ok (by omega) (by omega))) hS (rng_ge hA) (fun r _ H locs hp hCW hk hS => ?_)
  refine lv_as (y := nI (nIn (st.1 (X / 14 % 4)))) (hp.trans (of_1 rfl)) ?_
  refine lv_istore (lv' := [(9, .int (nI (nIn (st.1 (X / 14 % 4))))), (8, .int (nI (nG (st.1 (X / 14 % 4))))), (7, .int (nI ((X / 14) % 4))), (6, .int (nI ((X / 14) / 100))), (5, .int (nI (X / 14))), (4, .int (nI (X % 14))), (3, .int (nI X)), (2, .int (nI k)), (1, .ref (a 0)), (0, .ref b)]) hx hb dL_law_87 hl (by decide) rfl (fun ls hl => ?_)
  exact wid (by omega) (by omega) (K (X % 14) (X / 14) (X / 14 / 100) (X / 14 % 4) (nI X) _ _ _ (Nat.mod_lt _ (by decide)) (by omega) (by omega) ht4 hS hCW (lv_sub hl [0, 1, 2, 3, 4, 5, 6, 7, 8, 9] rfl))
set_option maxHeartbeats 4000000 in
set_option maxRecDepth 100000 in
theorem lh_18 {p : Program} {l : Launch} {e : Env} {s : State} {m : MethodId} {below : List Frame} {meth : Method} {c : Code} {b L : Nat} {xs : Nat → Int32} {Q : State → Prop} {G : GG} {a : Nat → Nat} {t9 : Nat} (J : LJ p l s m meth c #[Value.ref b] cL_law ret 12 wsL_law G a t9) (hA : ∀ k, s.heap.size ≤ a k) {st : ST} (hO : OKS st) {k : Nat} (hk : k < 70) (hX0 : va_X b L xs s s.heap) (hbl : b < s.heap.size) (hL : L ≤ 260) {c0 s0 : Nat} (hc : c0 + 200 ≤ 600104) (hs : s0 + 1200 ≤ 7301314) {H : Heap} {locs : List Loc} {ls : Array Slot} (hS : va_S (fun q : Nat => s.heap.size ≤ q) s.heap H locs) (hCW : CW G a st H) (hl : lv_has ls 12 [(2, .int (nI k)), (1, .ref (a 0)), (0, .ref b)]) (K : ∀ (w y z t : Nat) (x3 : Int32) (H : Heap) (locs : List Loc) (ls : Array Slot), w < 14 → y ≤ 1200000 → z ≤ 12000 → t < 4 → va_S (fun q : Nat => s.heap.size ≤ q) s.heap H locs → CW G a st H → lv_has ls 12 [(9, .int (nI (nIn (st.1 t)))), (8, .int (nI (nG (st.1 t)))), (7, .int (nI t)), (6, .int (nI z)), (5, .int (nI y)), (4, .int (nI w)), (3, .int x3), (2, .int (nI k)), (1, .ref (a 0)), (0, .ref b)] → W p l e room_1 s m #[Value.ref b] below meth c H locs (c0 + 4) (s0 + 24) Q (F0 m 89 ls [])) : W p l e room_1 s m #[Value.ref b] below meth c H locs c0 s0 Q (F0 m 18 ls []) := by
  have J0 := J
  obtain ⟨hfl, hx, hb, hr, hml, hown, hts, hlocks, ha, hK, hNW, hLow, hX, hNC⟩ := J
  have FX : CallFix p m c cL_law 12 s #[Value.ref b] wsL_law RL := ⟨hx, hb, hml, hown, hts⟩
  have hbA : ¬ (fun q : Nat => s.heap.size ≤ q) b := Nat.not_le.mpr hbl
  refine lv_iload_n hx hb dL_law_18 rfl (lv_at hl 0 rfl) ?_
  refine lv_bipush (v := nI 70) hx hb dL_law_19 (by decide) ?_
  refine lv_icmp_ge (tgt := 610) hx hb dL_law_21 (by decide) (fun c => absurd (cv_le (by omega) (by omega) c) (by omega)) (fun _ => ?_)
  refine lv_aload_n hx hb dL_law_24 rfl (lv_at hl 2 rfl) ?_
  refine va_slen hx hb hX0 hbl hbA hS dL_law_25 ?_
  refine lv_as (y := nI L) rfl ?_
  by_cases hL0 : L = 0
  · skip
    refine lv_if_ne (tgt := 36) hx hb dL_law_26 (by decide) (fun c => absurd (by rw [hL0]; rfl) c) (fun _ => ?_)
    refine lv_bipush (v := nI 109) hx hb dL_law_29 (by decide) ?_
    refine lv_iload_n hx hb dL_law_31 rfl (lv_at hl 0 rfl) ?_
    refine lv_imul hx hb dL_law_32 ?_
    refine lv_as (y := nI (109 * k)) (pk_mul _ _) ?_
    refine lv_goto (tgt := 45) hx hb dL_law_33 (by decide) ?_
    exact lh_45 J0 hA hO hk (X := 109 * k) (by omega) hc hs hS hCW hl K
  · skip
    refine lv_if_ne (tgt := 36) hx hb dL_law_26 (by decide) (fun _ => ?_) (fun c => absurd c (nI_ne0 (by omega) (by omega)))
    refine lv_aload_n hx hb dL_law_36 rfl (lv_at hl 2 rfl) ?_
    refine lv_iload_n hx hb dL_law_37 rfl (lv_at hl 0 rfl) ?_
    refine lv_aload_n hx hb dL_law_38 rfl (lv_at hl 2 rfl) ?_
    refine va_slen hx hb hX0 hbl hbA hS dL_law_39 ?_
    refine lv_as (y := nI L) rfl ?_
    refine lv_irem hx hb dL_law_40 (nI_ne0 (by omega) (by omega)) ?_
    refine lv_as (y := nI (k % L)) (pk_rem (by omega) (by omega) (by omega)) ?_
    have hkL : k % L < L := Nat.mod_lt _ (by omega)
    refine va_sld hx hb hX0 hbl hbA hS (vp_in_nI hkL (by omega)) dL_law_41 ?_
    obtain ⟨X, hX1, eX⟩ := ush8 (xs (nI (k % L)).toNatClampNeg)
    refine lv_bipush (v := nI 8) hx hb dL_law_42 (by decide) ?_
    refine lv_iushr (v := nI X) hx hb dL_law_44 eX ?_
    exact lh_45 J0 hA hO hk hX1 hc hs hS hCW hl K
set_option maxHeartbeats 4000000 in
set_option maxRecDepth 100000 in
theorem lt_588 {p : Program} {l : Launch} {e : Env} {s : State} {m : MethodId} {below : List Frame} {meth : Method} {c : Code} {b : Nat} {Q : State → Prop} {G : GG} {a : Nat → Nat} {t9 : Nat} (J : LJ p l s m meth c #[Value.ref b] cL_law ret 12 wsL_law G a t9) (hA : ∀ k, s.heap.size ≤ a k) {st : ST} (hO : OKS st) {k : Nat} (hk : k < 70) {c0 s0 : Nat} (hc : c0 + 1200 ≤ 600104) (hs : s0 + 7200 ≤ 7301314) {H : Heap} {locs : List Loc} {ls : Array Slot} (hS : va_S (fun q : Nat => s.heap.size ≤ q) s.heap H locs) (hCW : CW G a st H) (hl : lv_has ls 12 [(2, .int (nI k)), (1, .ref (a 0)), (0, .ref b)]) (K : ∀ (H : Heap) (locs : List Loc) (ls : Array Slot), va_S (fun q : Nat => s.heap.size ≤ q) s.heap H locs → CW G a st H → lv_has ls 12 [(2, .int (nI (k + 1))), (1, .ref (a 0)), (0, .ref b)] → W p l e room_1 s m #[Value.ref b] below meth c H locs (c0 + 1200) (s0 + 7200) Q (F0 m 18 ls [])) : W p l e room_1 s m #[Value.ref b] below meth c H locs c0 s0 Q (F0 m 588 ls []) := by
  have J0 := J
  obtain ⟨hfl, hx, hb, hr, hml, hown, hts, hlocks, ha, hK, hNW, hLow, hX, hNC⟩ := J
  have FX : CallFix p m c cL_law 12 s #[Value.ref b] wsL_law RL := ⟨hx, hb, hml, hown, hts⟩
  refine lv_iload_n hx hb dL_law_588 rfl (lv_at hl 0 rfl) ?_
  refine lv_bipush (v := nI 16) hx hb dL_law_589 (by decide) ?_
  refine lv_irem hx hb dL_law_591 (nI_ne0 (by omega) (by omega)) ?_
  refine lv_as (y := nI (k % 16)) (pk_rem (by omega) (by omega) (by omega)) ?_
  by_cases hq : k % 16 = 0
  · skip
    refine lv_if_ne (tgt := 604) hx hb dL_law_592 (by decide) (fun c => absurd (by rw [hq]; rfl) c) (fun _ => ?_)
    refine lv_aload_n hx hb dL_law_595 rfl (lv_at hl 1 rfl) ?_
    refine wr_i (va_runS (As := [.ref (a 0)]) (rest := []) FX (w_refuses l hfl G a ha t9 st hO) (va_cwS 1 hts gL_law_L_refuses rfl rfl rfl (by decide +kernel) ⟨Nat.le_of_ble_eq_true rfl, Nat.le_of_ble_eq_true rfl⟩) (preW hK hNW hCW (hLow.at hS (fun q9 h8 h9 => absurd h8 (Nat.not_lt.mpr h9))) (hX.at hS (fun q9 h8 h9 => absurd h8 (Nat.not_lt.mpr h9))) hNC) rfl rfl hl.1 rfl (lv_room (Nat.le_of_ble_eq_true rfl)) dL_law_596 (rm_ok (by omega) (by omega))) hS (rng_ge hA) (fun r _ H locs hp hCW hk hS => ?_)
    refine lv_as (y := nI 1) hp ?_
    refine lv_if_ne (tgt := 604) hx hb dL_law_599 (by decide) (fun _ => ?_) (fun c => absurd c (by decide))
    refine lv_iinc (v := nI (k + 1)) (lv' := [(2, .int (nI (k + 1))), (1, .ref (a 0)), (0, .ref b)]) hx hb dL_law_604 hl (k := 0) rfl (nI_add _ 1) (by decide) rfl (fun ls hl => ?_)
    refine lv_goto (tgt := 18) hx hb dL_law_607 (by decide) ?_
    exact wid (by omega) (by omega) (K _ _ _ hS hCW hl)
  · skip
    refine lv_if_ne (tgt := 604) hx hb dL_law_592 (by decide) (fun _ => ?_) (fun c => absurd c (nI_ne0 (by omega) (by omega)))
    refine lv_iinc (v := nI (k + 1)) (lv' := [(2, .int (nI (k + 1))), (1, .ref (a 0)), (0, .ref b)]) hx hb dL_law_604 hl (k := 0) rfl (nI_add _ 1) (by decide) rfl (fun ls hl => ?_)
    refine lv_goto (tgt := 18) hx hb dL_law_607 (by decide) ?_
    exact wid (by omega) (by omega) (K _ _ _ hS hCW hl)
set_option maxHeartbeats 4000000 in
set_option maxRecDepth 100000 in
theorem law_loop {p : Program} {l : Launch} {e : Env} {s : State} {m : MethodId} {below : List Frame} {meth : Method} {c : Code} {b L : Nat} {xs : Nat → Int32} {G : GG} {a : Nat → Nat} {t9 : Nat} (J : LJ p l s m meth c #[Value.ref b] cL_law ret 12 wsL_law G a t9) (hA : ∀ k, s.heap.size ≤ a k) (hX0 : va_X b L xs s s.heap) (hbl : b < s.heap.size) (hL : L ≤ 260) : ∀ (n k : Nat), n + k = 70 → ∀ {st : ST}, OKS st → ∀ {H : Heap} {locs : List Loc} {ls : Array Slot}, va_S (fun q : Nat => s.heap.size ≤ q) s.heap H locs → CW G a st H → lv_has ls 12 [(2, .int (nI k)), (1, .ref (a 0)), (0, .ref b)] → W p l e room_1 s m #[Value.ref b] below meth c H locs (6000 + 1400 * k) (60000 + 8000 * k) (lw_Z below #[Value.ref b] s) (F0 m 18 ls []) := by
  intro n
  induction n with
  | zero =>
    intro k hk st hO H locs ls hS hCW hl
    obtain rfl : k = 70 := by omega
    obtain ⟨hfl, hx, hb, hr, hml, hown, hts, hlocks, ha, hK, hNW, hLow, hX, hNC⟩ := J
    refine lv_iload_n hx hb dL_law_18 rfl (lv_at hl 0 rfl) ?_
    refine lv_bipush (v := nI 70) hx hb dL_law_19 (by decide) ?_
    refine lv_icmp_ge (tgt := 610) hx hb dL_law_21 (by decide) (fun _ => ?_) (fun c => absurd (nI_le (by omega) (by omega)) c)
    refine lv_iconst (v := 1) hx hb dL_law_610 (by decide) ?_
    refine va_forget (fun q hq => hS.2.2 q hq) ?_
    refine wid (k := 600104) (n := 7301314) (by omega) (by omega) ?_
    exact lw_ret hx hb hr hlocks dL_law_611
  | succ n ih =>
    intro k hk st hO H locs ls hS hCW hl
    refine lh_18 J hA hO (by omega) hX0 hbl hL (by omega) (by omega) hS hCW hl (fun w y z t x3 H locs ls h1 h2 h3 h4 hS hCW hl => ?_)
    refine lb_89 J hA hO (by omega) h1 h2 h3 h4 (by omega) (by omega) hS hCW hl (fun st1 H locs ls hO hS hCW hl => ?_)
    refine lt_588 J hA hO (by omega) (by omega) (by omega) hS hCW hl (fun H locs ls hS hCW hl => ?_)
    exact wid (by omega) (by omega) (ih (k + 1) (by omega) hO hS hCW hl)
