/-! most: rounds of its loops -/
set_option maxHeartbeats 4000000 in
set_option maxRecDepth 100000 in
theorem ms_in {p : Program} {l : Launch} {e : Env} {s : State} {m : MethodId} {args : Array Value} {below : List Frame} {meth : Method} {c : Code} {Q : State → Prop} {G : GG} {a : Nat → Nat} {t9 : Nat} (J : LJ p l s m meth c args cL_most (some .boolean) 2 wsL_most G a t9) (hA : ∀ k, s.heap.size ≤ a k) {st : ST} (hO : OKS st) {k : Nat} (hk : k < 30) (h1 : nG (st.1 1) = k) (h2 : nIn (st.1 1) = k) (c0 s0 : Nat) (hc : c0 + 2 ≤ 1924) (hs : s0 + 12 ≤ 17858) {H : Heap} {locs : List Loc} {ls : Array Slot} (hS : va_S (fun q : Nat => s.heap.size ≤ q) s.heap H locs) (hCW : CW G a st H) (hl : lv_has ls 2 [(1, .int (nI k)), (0, .ref (a 0))]) (K : ∀ (H : Heap) (locs : List Loc) (ls : Array Slot), va_S (fun q : Nat => s.heap.size ≤ q) s.heap H locs → CW G a (inS st 1) H → lv_has ls 2 [(1, .int (nI (k + 1))), (0, .ref (a 0))] → W p l e ({ frames := 11, cells := 1924, slots := 17858, locals := 225 } : Room) s m args below meth c H locs (c0 + 2) (s0 + 12) Q (F0 m 10 ls [])) : W p l e ({ frames := 11, cells := 1924, slots := 17858, locals := 225 } : Room) s m args below meth c H locs c0 s0 Q (F0 m 10 ls []) := by
  obtain ⟨hfl, hx, hb, hr, hml, hown, hts, hlocks, ha, hK, hNW, hLow, hX, hNC⟩ := J
  have FX : CallFix p m c cL_most 2 s args wsL_most RL := ⟨hx, hb, hml, hown, hts⟩
  refine lv_iload_n hx hb dL_most_10 rfl (lv_at hl 0 rfl) ?_
  refine lv_bipush (v := nI 31) hx hb dL_most_11 (by decide) ?_
  refine lv_icmp_ge (tgt := 48) hx hb dL_most_13 (by decide) (fun c => absurd (cv_le (by omega) (by omega) c) (by omega)) (fun _ => ?_)
  refine lv_aload_n hx hb dL_most_16 rfl (lv_at hl 1 rfl) ?_
  refine lv_iconst (v := nI 0) hx hb dL_most_17 (by decide) ?_
  refine lv_iconst (v := nI 1) hx hb dL_most_18 (by decide) ?_
  refine lv_iconst (v := nI 0) hx hb dL_most_19 (by decide) ?_
  refine lv_iconst (v := nI 0) hx hb dL_most_20 (by decide) ?_
  refine lv_iconst (v := nI 0) hx hb dL_most_21 (by decide) ?_
  have hC : cIn st.1 (nI 1) = 0 := z0_input hO (by decide) (by omega) (by omega)
  refine wr_i (vx_run0 (vx_runSX (As := [.ref (a 0), .int (nI 0), .int (nI 1), .int (nI 0), .int (nI 0), .int (nI 0)]) (rest := []) FX (w_act_input l hfl G a ha t9 st (nI 1) (nI 0) (nI 0) (nI 0) hO) (vx_cwSW 6 hts gL_most_L_act rfl rfl rfl (by decide +kernel) ⟨Nat.le_of_ble_eq_true rfl, Nat.le_of_ble_eq_true rfl⟩) (preW hK hNW hCW (hLow.at hS (fun q9 h8 h9 => absurd h8 (Nat.not_lt.mpr h9))) (hX.at hS (fun q9 h8 h9 => absurd h8 (Nat.not_lt.mpr h9))) hNC) rfl rfl hl.1 rfl (lv_room (Nat.le_of_ble_eq_true rfl)) dL_most_22 (rmx (m := 1924) (n := 17858) (by omega) (by omega)))) hS (rng_ge hA) (fun r _ H locs hp hCW hk hS => ?_)
  refine lv_as (y := nI k) ((hp.1 hC).trans (by rw [ix_nI (by decide), h1])) ?_
  have hCW : CW G a (inS st 1) H := by rw [e_input (p := 1) hO (by decide) (by omega) (by omega)] at hCW; exact hCW
  refine lv_iload_n hx hb dL_most_25 rfl (lv_at hl 0 rfl) ?_
  refine lv_bipush (v := nI 30) hx hb dL_most_26 (by decide) ?_
  refine lv_icmp_ge (tgt := 35) hx hb dL_most_28 (by decide) (fun c => absurd (cv_le (by omega) (by omega) c) (by omega)) (fun _ => ?_)
  refine lv_iload_n hx hb dL_most_31 rfl (lv_at hl 0 rfl) ?_
  refine lv_goto (tgt := 37) hx hb dL_most_32 (by decide) ?_
  refine lv_icmp_eq (tgt := 42) hx hb dL_most_37 (by decide) (fun _ => ?_) (fun c => absurd rfl c)
  refine lv_iinc (v := nI (k + 1)) (lv' := [(1, .int (nI (k + 1))), (0, .ref (a 0))]) hx hb dL_most_42 hl (k := 0) rfl (nI_add _ 1) (by decide) rfl (fun ls hl => ?_)
  refine lv_goto (tgt := 10) hx hb dL_most_45 (by decide) ?_
  exact wid (by omega) (by omega) (K _ _ _ hS hCW (lv_sub hl [0, 1] rfl))
set_option maxHeartbeats 4000000 in
set_option maxRecDepth 100000 in
theorem ms_inx {p : Program} {l : Launch} {e : Env} {s : State} {m : MethodId} {args : Array Value} {below : List Frame} {meth : Method} {c : Code} {Q : State → Prop} {G : GG} {a : Nat → Nat} {t9 : Nat} (J : LJ p l s m meth c args cL_most (some .boolean) 2 wsL_most G a t9) (hA : ∀ k, s.heap.size ≤ a k) {st : ST} (hO : OKS st) (h2 : nIn (st.1 1) = 30) (c0 s0 : Nat) (hc : c0 + 2 ≤ 1924) (hs : s0 + 12 ≤ 17858) {H : Heap} {locs : List Loc} {ls : Array Slot} (hS : va_S (fun q : Nat => s.heap.size ≤ q) s.heap H locs) (hCW : CW G a st H) (hl : lv_has ls 2 [(1, .int (nI 30)), (0, .ref (a 0))]) (K : ∀ (H : Heap) (locs : List Loc) (ls : Array Slot), va_S (fun q : Nat => s.heap.size ≤ q) s.heap H locs → CW G a st H → lv_has ls 2 [(1, .int (nI 31)), (0, .ref (a 0))] → W p l e ({ frames := 11, cells := 1924, slots := 17858, locals := 225 } : Room) s m args below meth c H locs (c0 + 2) (s0 + 12) Q (F0 m 48 ls [])) : W p l e ({ frames := 11, cells := 1924, slots := 17858, locals := 225 } : Room) s m args below meth c H locs c0 s0 Q (F0 m 10 ls []) := by
  obtain ⟨hfl, hx, hb, hr, hml, hown, hts, hlocks, ha, hK, hNW, hLow, hX, hNC⟩ := J
  have FX : CallFix p m c cL_most 2 s args wsL_most RL := ⟨hx, hb, hml, hown, hts⟩
  refine lv_iload_n hx hb dL_most_10 rfl (lv_at hl 0 rfl) ?_
  refine lv_bipush (v := nI 31) hx hb dL_most_11 (by decide) ?_
  refine lv_icmp_ge (tgt := 48) hx hb dL_most_13 (by decide) (fun c => absurd c (by decide)) (fun _ => ?_)
  refine lv_aload_n hx hb dL_most_16 rfl (lv_at hl 1 rfl) ?_
  refine lv_iconst (v := nI 0) hx hb dL_most_17 (by decide) ?_
  refine lv_iconst (v := nI 1) hx hb dL_most_18 (by decide) ?_
  refine lv_iconst (v := nI 0) hx hb dL_most_19 (by decide) ?_
  refine lv_iconst (v := nI 0) hx hb dL_most_20 (by decide) ?_
  refine lv_iconst (v := nI 0) hx hb dL_most_21 (by decide) ?_
  have hC : cIn st.1 (nI 1) = 3 := by unfold cIn; rw [if_pos (by decide), if_neg (by rw [ix_nI (by decide)]; omega)]
  refine wr_i (vx_run0 (vx_runSX (As := [.ref (a 0), .int (nI 0), .int (nI 1), .int (nI 0), .int (nI 0), .int (nI 0)]) (rest := []) FX (w_act_input l hfl G a ha t9 st (nI 1) (nI 0) (nI 0) (nI 0) hO) (vx_cwSW 6 hts gL_most_L_act rfl rfl rfl (by decide +kernel) ⟨Nat.le_of_ble_eq_true rfl, Nat.le_of_ble_eq_true rfl⟩) (preW hK hNW hCW (hLow.at hS (fun q9 h8 h9 => absurd h8 (Nat.not_lt.mpr h9))) (hX.at hS (fun q9 h8 h9 => absurd h8 (Nat.not_lt.mpr h9))) hNC) rfl rfl hl.1 rfl (lv_room (Nat.le_of_ble_eq_true rfl)) dL_most_22 (rmx (m := 1924) (n := 17858) (by omega) (by omega)))) hS (rng_ge hA) (fun r _ H locs hp hCW hk hS => ?_)
  refine lv_as (y := -7000003) (hp.2.2.2 hC) ?_
  rw [stN_n hC (by decide)] at hCW
  have hCW : CW G a st H := hCW
  refine lv_iload_n hx hb dL_most_25 rfl (lv_at hl 0 rfl) ?_
  refine lv_bipush (v := nI 30) hx hb dL_most_26 (by decide) ?_
  refine lv_icmp_ge (tgt := 35) hx hb dL_most_28 (by decide) (fun _ => ?_) (fun c => absurd c (by decide))
  refine lv_ldc (v := -7000003) hx hb hown (hts (.constant RL 81 (-7000003)) (List.mem_of_getElem? (i := 4) (by decide +kernel))) dL_most_35 ?_
  refine lv_icmp_eq (tgt := 42) hx hb dL_most_37 (by decide) (fun _ => ?_) (fun c => absurd c (by decide))
  refine lv_iinc (v := nI 31) (lv' := [(1, .int (nI 31)), (0, .ref (a 0))]) hx hb dL_most_42 hl (k := 0) rfl (by decide) (by decide) rfl (fun ls hl => ?_)
  refine lv_goto (tgt := 10) hx hb dL_most_45 (by decide) ?_
  refine lv_iload_n hx hb dL_most_10 rfl (lv_at hl 0 rfl) ?_
  refine lv_bipush (v := nI 31) hx hb dL_most_11 (by decide) ?_
  refine lv_icmp_ge (tgt := 48) hx hb dL_most_13 (by decide) (fun _ => ?_) (fun c => absurd c (by decide))
  exact wid (by omega) (by omega) (K _ _ _ hS hCW (lv_sub hl [0, 1] rfl))
set_option maxHeartbeats 4000000 in
set_option maxRecDepth 100000 in
theorem ms_g0 {p : Program} {l : Launch} {e : Env} {s : State} {m : MethodId} {args : Array Value} {below : List Frame} {meth : Method} {c : Code} {Q : State → Prop} {G : GG} {a : Nat → Nat} {t9 : Nat} (J : LJ p l s m meth c args cL_most (some .boolean) 2 wsL_most G a t9) (hA : ∀ k, s.heap.size ≤ a k) {st : ST} (hO : OKS st) (h1 : nG (st.1 1) = 30) (c0 s0 : Nat) (hc : c0 + 5 ≤ 1924) (hs : s0 + 30 ≤ 17858) {H : Heap} {locs : List Loc} {ls : Array Slot} (hS : va_S (fun q : Nat => s.heap.size ≤ q) s.heap H locs) (hCW : CW G a st H) (hl : lv_has ls 2 [(1, .int (nI 30)), (0, .ref (a 0))]) (K : ∀ (H : Heap) (locs : List Loc) (ls : Array Slot), va_S (fun q : Nat => s.heap.size ≤ q) s.heap H locs → CW G a (gaS st 1 1 0 (ix (nI 29))) H → lv_has ls 2 [(1, .int (nI 31)), (0, .ref (a 0))] → W p l e ({ frames := 11, cells := 1924, slots := 17858, locals := 225 } : Room) s m args below meth c H locs (c0 + 5) (s0 + 30) Q (F0 m 51 ls [])) : W p l e ({ frames := 11, cells := 1924, slots := 17858, locals := 225 } : Room) s m args below meth c H locs c0 s0 Q (F0 m 51 ls []) := by
  obtain ⟨hfl, hx, hb, hr, hml, hown, hts, hlocks, ha, hK, hNW, hLow, hX, hNC⟩ := J
  have FX : CallFix p m c cL_most 2 s args wsL_most RL := ⟨hx, hb, hml, hown, hts⟩
  refine lv_iload_n hx hb dL_most_51 rfl (lv_at hl 0 rfl) ?_
  refine lv_bipush (v := nI 121) hx hb dL_most_52 (by decide) ?_
  refine lv_icmp_ge (tgt := 112) hx hb dL_most_54 (by decide) (fun c => absurd c (by decide)) (fun _ => ?_)
  refine lv_aload_n hx hb dL_most_57 rfl (lv_at hl 1 rfl) ?_
  refine lv_iconst (v := nI 1) hx hb dL_most_58 (by decide) ?_
  refine lv_iconst (v := nI 1) hx hb dL_most_59 (by decide) ?_
  refine lv_iload_n hx hb dL_most_60 rfl (lv_at hl 0 rfl) ?_
  refine lv_bipush (v := nI 30) hx hb dL_most_61 (by decide) ?_
  refine lv_icmp_ne (tgt := 70) hx hb dL_most_63 (by decide) (fun c => absurd c (by decide)) (fun _ => ?_)
  refine lv_iconst (v := nI 1) hx hb dL_most_66 (by decide) ?_
  refine lv_goto (tgt := 71) hx hb dL_most_67 (by decide) ?_
  refine lv_iload_n hx hb dL_most_71 rfl (lv_at hl 0 rfl) ?_
  refine lv_bipush (v := nI 30) hx hb dL_most_72 (by decide) ?_
  refine lv_icmp_ne (tgt := 81) hx hb dL_most_74 (by decide) (fun c => absurd c (by decide)) (fun _ => ?_)
  refine lv_iconst (v := nI 0) hx hb dL_most_77 (by decide) ?_
  refine lv_goto (tgt := 84) hx hb dL_most_78 (by decide) ?_
  refine lv_bipush (v := nI 29) hx hb dL_most_84 (by decide) ?_
  have hC : cGa st.1 (nI 1) (nI 1) (nI 0) (nI 29) = 0 := z0_gate hO (by decide) (by decide) (by omega) (Or.inr ⟨by rw [ix_nI (by decide)]; omega, by decide⟩) (by omega)
  refine wr_i (vx_run0 (vx_runSX (As := [.ref (a 0), .int (nI 1), .int (nI 1), .int (nI 1), .int (nI 0), .int (nI 29)]) (rest := []) FX (w_act_gate l hfl G a ha t9 st (nI 1) (nI 1) (nI 0) (nI 29) hO) (vx_cwSW 6 hts gL_most_L_act rfl rfl rfl (by decide +kernel) ⟨Nat.le_of_ble_eq_true rfl, Nat.le_of_ble_eq_true rfl⟩) (preW hK hNW hCW (hLow.at hS (fun q9 h8 h9 => absurd h8 (Nat.not_lt.mpr h9))) (hX.at hS (fun q9 h8 h9 => absurd h8 (Nat.not_lt.mpr h9))) hNC) rfl rfl hl.1 rfl (lv_room (Nat.le_of_ble_eq_true rfl)) dL_most_86 (rmx (m := 1924) (n := 17858) (by omega) (by omega)))) hS (rng_ge hA) (fun r _ H locs hp hCW hk hS => ?_)
  refine lv_as (y := nI 30) ((hp.1 hC).trans (by rw [ix_nI (by decide), h1])) ?_
  have hCW : CW G a (gaS st 1 1 0 (ix (nI 29))) H := by rw [e_gate (p := 1) (kd := 1) (f := 0) (s9 := nI 29) hO (by decide) (by decide) (by omega) (Or.inr ⟨by rw [ix_nI (by decide)]; omega, by decide⟩) (by omega)] at hCW; exact hCW
  refine lv_iload_n hx hb dL_most_89 rfl (lv_at hl 0 rfl) ?_
  refine lv_bipush (v := nI 120) hx hb dL_most_90 (by decide) ?_
  refine lv_icmp_ge (tgt := 99) hx hb dL_most_92 (by decide) (fun c => absurd c (by decide)) (fun _ => ?_)
  refine lv_iload_n hx hb dL_most_95 rfl (lv_at hl 0 rfl) ?_
  refine lv_goto (tgt := 101) hx hb dL_most_96 (by decide) ?_
  refine lv_icmp_eq (tgt := 106) hx hb dL_most_101 (by decide) (fun _ => ?_) (fun c => absurd c (by decide))
  refine lv_iinc (v := nI 31) (lv' := [(1, .int (nI 31)), (0, .ref (a 0))]) hx hb dL_most_106 hl (k := 0) rfl (by decide) (by decide) rfl (fun ls hl => ?_)
  refine lv_goto (tgt := 51) hx hb dL_most_109 (by decide) ?_
  exact wid (by omega) (by omega) (K _ _ _ hS hCW (lv_sub hl [0, 1] rfl))
set_option maxHeartbeats 4000000 in
set_option maxRecDepth 100000 in
theorem ms_g {p : Program} {l : Launch} {e : Env} {s : State} {m : MethodId} {args : Array Value} {below : List Frame} {meth : Method} {c : Code} {Q : State → Prop} {G : GG} {a : Nat → Nat} {t9 : Nat} (J : LJ p l s m meth c args cL_most (some .boolean) 2 wsL_most G a t9) (hA : ∀ k, s.heap.size ≤ a k) {st : ST} (hO : OKS st) {j : Nat} (hj : 0 < j) (hj2 : j < 90) (h1 : nG (st.1 1) = 30 + j) (c0 s0 : Nat) (hc : c0 + 5 ≤ 1924) (hs : s0 + 30 ≤ 17858) {H : Heap} {locs : List Loc} {ls : Array Slot} (hS : va_S (fun q : Nat => s.heap.size ≤ q) s.heap H locs) (hCW : CW G a st H) (hl : lv_has ls 2 [(1, .int (nI (30 + j))), (0, .ref (a 0))]) (K : ∀ (H : Heap) (locs : List Loc) (ls : Array Slot), va_S (fun q : Nat => s.heap.size ≤ q) s.heap H locs → CW G a (gaS st 1 3 (29 + j) (ix (nI 29))) H → lv_has ls 2 [(1, .int (nI (30 + (j + 1)))), (0, .ref (a 0))] → W p l e ({ frames := 11, cells := 1924, slots := 17858, locals := 225 } : Room) s m args below meth c H locs (c0 + 5) (s0 + 30) Q (F0 m 51 ls [])) : W p l e ({ frames := 11, cells := 1924, slots := 17858, locals := 225 } : Room) s m args below meth c H locs c0 s0 Q (F0 m 51 ls []) := by
  obtain ⟨hfl, hx, hb, hr, hml, hown, hts, hlocks, ha, hK, hNW, hLow, hX, hNC⟩ := J
  have FX : CallFix p m c cL_most 2 s args wsL_most RL := ⟨hx, hb, hml, hown, hts⟩
  refine lv_iload_n hx hb dL_most_51 rfl (lv_at hl 0 rfl) ?_
  refine lv_bipush (v := nI 121) hx hb dL_most_52 (by decide) ?_
  refine lv_icmp_ge (tgt := 112) hx hb dL_most_54 (by decide) (fun c => absurd (cv_le (by omega) (by omega) c) (by omega)) (fun _ => ?_)
  refine lv_aload_n hx hb dL_most_57 rfl (lv_at hl 1 rfl) ?_
  refine lv_iconst (v := nI 1) hx hb dL_most_58 (by decide) ?_
  refine lv_iconst (v := nI 1) hx hb dL_most_59 (by decide) ?_
  refine lv_iload_n hx hb dL_most_60 rfl (lv_at hl 0 rfl) ?_
  refine lv_bipush (v := nI 30) hx hb dL_most_61 (by decide) ?_
  refine lv_icmp_ne (tgt := 70) hx hb dL_most_63 (by decide) (fun _ => ?_) (fun c => absurd (cv_eq (by omega) (by omega) c) (by omega))
  refine lv_iconst (v := nI 3) hx hb dL_most_70 (by decide) ?_
  refine lv_iload_n hx hb dL_most_71 rfl (lv_at hl 0 rfl) ?_
  refine lv_bipush (v := nI 30) hx hb dL_most_72 (by decide) ?_
  refine lv_icmp_ne (tgt := 81) hx hb dL_most_74 (by decide) (fun _ => ?_) (fun c => absurd (cv_eq (by omega) (by omega) c) (by omega))
  refine lv_iload_n hx hb dL_most_81 rfl (lv_at hl 0 rfl) ?_
  refine lv_iconst (v := nI 1) hx hb dL_most_82 (by decide) ?_
  refine lv_isub hx hb dL_most_83 ?_
  refine lv_as (y := nI (29 + j)) (by rw [pk_sub (by omega)]; exact congrArg nI (by omega)) ?_
  refine lv_bipush (v := nI 29) hx hb dL_most_84 (by decide) ?_
  have hC : cGa st.1 (nI 1) (nI 3) (nI (29 + j)) (nI 29) = 0 := z0_gate hO (by decide) (by decide) (by omega) (Or.inl rfl) (by omega)
  refine wr_i (vx_run0 (vx_runSX (As := [.ref (a 0), .int (nI 1), .int (nI 1), .int (nI 3), .int (nI (29 + j)), .int (nI 29)]) (rest := []) FX (w_act_gate l hfl G a ha t9 st (nI 1) (nI 3) (nI (29 + j)) (nI 29) hO) (vx_cwSW 6 hts gL_most_L_act rfl rfl rfl (by decide +kernel) ⟨Nat.le_of_ble_eq_true rfl, Nat.le_of_ble_eq_true rfl⟩) (preW hK hNW hCW (hLow.at hS (fun q9 h8 h9 => absurd h8 (Nat.not_lt.mpr h9))) (hX.at hS (fun q9 h8 h9 => absurd h8 (Nat.not_lt.mpr h9))) hNC) rfl rfl hl.1 rfl (lv_room (Nat.le_of_ble_eq_true rfl)) dL_most_86 (rmx (m := 1924) (n := 17858) (by omega) (by omega)))) hS (rng_ge hA) (fun r _ H locs hp hCW hk hS => ?_)
  refine lv_as (y := nI (30 + j)) ((hp.1 hC).trans (by rw [ix_nI (by decide), h1])) ?_
  have hCW : CW G a (gaS st 1 3 (29 + j) (ix (nI 29))) H := by rw [e_gate (p := 1) (kd := 3) (f := (29 + j)) (s9 := nI 29) hO (by decide) (by decide) (by omega) (Or.inl rfl) (by omega)] at hCW; exact hCW
  refine lv_iload_n hx hb dL_most_89 rfl (lv_at hl 0 rfl) ?_
  refine lv_bipush (v := nI 120) hx hb dL_most_90 (by decide) ?_
  refine lv_icmp_ge (tgt := 99) hx hb dL_most_92 (by decide) (fun c => absurd (cv_le (by omega) (by omega) c) (by omega)) (fun _ => ?_)
  refine lv_iload_n hx hb dL_most_95 rfl (lv_at hl 0 rfl) ?_
  refine lv_goto (tgt := 101) hx hb dL_most_96 (by decide) ?_
  refine lv_icmp_eq (tgt := 106) hx hb dL_most_101 (by decide) (fun _ => ?_) (fun c => absurd rfl c)
  refine lv_iinc (v := nI (30 + (j + 1))) (lv' := [(1, .int (nI (30 + (j + 1)))), (0, .ref (a 0))]) hx hb dL_most_106 hl (k := 0) rfl (nI_add _ 1) (by decide) rfl (fun ls hl => ?_)
  refine lv_goto (tgt := 51) hx hb dL_most_109 (by decide) ?_
  exact wid (by omega) (by omega) (K _ _ _ hS hCW (lv_sub hl [0, 1] rfl))
set_option maxHeartbeats 4000000 in
set_option maxRecDepth 100000 in
theorem ms_gx {p : Program} {l : Launch} {e : Env} {s : State} {m : MethodId} {args : Array Value} {below : List Frame} {meth : Method} {c : Code} {Q : State → Prop} {G : GG} {a : Nat → Nat} {t9 : Nat} (J : LJ p l s m meth c args cL_most (some .boolean) 2 wsL_most G a t9) (hA : ∀ k, s.heap.size ≤ a k) {st : ST} (hO : OKS st) (h1 : nG (st.1 1) = 120) (c0 s0 : Nat) (hc : c0 + 5 ≤ 1924) (hs : s0 + 30 ≤ 17858) {H : Heap} {locs : List Loc} {ls : Array Slot} (hS : va_S (fun q : Nat => s.heap.size ≤ q) s.heap H locs) (hCW : CW G a st H) (hl : lv_has ls 2 [(1, .int (nI 120)), (0, .ref (a 0))]) (K : ∀ (H : Heap) (locs : List Loc) (ls : Array Slot), va_S (fun q : Nat => s.heap.size ≤ q) s.heap H locs → CW G a st H → lv_has ls 2 [(1, .int (nI 121)), (0, .ref (a 0))] → W p l e ({ frames := 11, cells := 1924, slots := 17858, locals := 225 } : Room) s m args below meth c H locs (c0 + 5) (s0 + 30) Q (F0 m 112 ls [])) : W p l e ({ frames := 11, cells := 1924, slots := 17858, locals := 225 } : Room) s m args below meth c H locs c0 s0 Q (F0 m 51 ls []) := by
  obtain ⟨hfl, hx, hb, hr, hml, hown, hts, hlocks, ha, hK, hNW, hLow, hX, hNC⟩ := J
  have FX : CallFix p m c cL_most 2 s args wsL_most RL := ⟨hx, hb, hml, hown, hts⟩
  refine lv_iload_n hx hb dL_most_51 rfl (lv_at hl 0 rfl) ?_
  refine lv_bipush (v := nI 121) hx hb dL_most_52 (by decide) ?_
  refine lv_icmp_ge (tgt := 112) hx hb dL_most_54 (by decide) (fun c => absurd c (by decide)) (fun _ => ?_)
  refine lv_aload_n hx hb dL_most_57 rfl (lv_at hl 1 rfl) ?_
  refine lv_iconst (v := nI 1) hx hb dL_most_58 (by decide) ?_
  refine lv_iconst (v := nI 1) hx hb dL_most_59 (by decide) ?_
  refine lv_iload_n hx hb dL_most_60 rfl (lv_at hl 0 rfl) ?_
  refine lv_bipush (v := nI 30) hx hb dL_most_61 (by decide) ?_
  refine lv_icmp_ne (tgt := 70) hx hb dL_most_63 (by decide) (fun _ => ?_) (fun c => absurd c (by decide))
  refine lv_iconst (v := nI 3) hx hb dL_most_70 (by decide) ?_
  refine lv_iload_n hx hb dL_most_71 rfl (lv_at hl 0 rfl) ?_
  refine lv_bipush (v := nI 30) hx hb dL_most_72 (by decide) ?_
  refine lv_icmp_ne (tgt := 81) hx hb dL_most_74 (by decide) (fun _ => ?_) (fun c => absurd c (by decide))
  refine lv_iload_n hx hb dL_most_81 rfl (lv_at hl 0 rfl) ?_
  refine lv_iconst (v := nI 1) hx hb dL_most_82 (by decide) ?_
  refine lv_isub hx hb dL_most_83 ?_
  refine lv_as (y := nI 119) (by decide) ?_
  refine lv_bipush (v := nI 29) hx hb dL_most_84 (by decide) ?_
  have hC : cGa st.1 (nI 1) (nI 3) (nI 119) (nI 29) = 3 := by
    unfold cGa
    rw [ix_nI (by decide), h1, if_pos (by decide), if_pos (by decide), if_pos (by decide), if_pos (by decide), if_neg (by decide)]
  refine wr_i (vx_run0 (vx_runSX (As := [.ref (a 0), .int (nI 1), .int (nI 1), .int (nI 3), .int (nI 119), .int (nI 29)]) (rest := []) FX (w_act_gate l hfl G a ha t9 st (nI 1) (nI 3) (nI 119) (nI 29) hO) (vx_cwSW 6 hts gL_most_L_act rfl rfl rfl (by decide +kernel) ⟨Nat.le_of_ble_eq_true rfl, Nat.le_of_ble_eq_true rfl⟩) (preW hK hNW hCW (hLow.at hS (fun q9 h8 h9 => absurd h8 (Nat.not_lt.mpr h9))) (hX.at hS (fun q9 h8 h9 => absurd h8 (Nat.not_lt.mpr h9))) hNC) rfl rfl hl.1 rfl (lv_room (Nat.le_of_ble_eq_true rfl)) dL_most_86 (rmx (m := 1924) (n := 17858) (by omega) (by omega)))) hS (rng_ge hA) (fun r _ H locs hp hCW hk hS => ?_)
  refine lv_as (y := -7000003) (hp.2.2.2 hC) ?_
  rw [stN_n hC (by decide)] at hCW
  have hCW : CW G a st H := hCW
  refine lv_iload_n hx hb dL_most_89 rfl (lv_at hl 0 rfl) ?_
  refine lv_bipush (v := nI 120) hx hb dL_most_90 (by decide) ?_
  refine lv_icmp_ge (tgt := 99) hx hb dL_most_92 (by decide) (fun _ => ?_) (fun c => absurd c (by decide))
  refine lv_ldc (v := -7000003) hx hb hown (hts (.constant RL 81 (-7000003)) (List.mem_of_getElem? (i := 4) (by decide +kernel))) dL_most_99 ?_
  refine lv_icmp_eq (tgt := 106) hx hb dL_most_101 (by decide) (fun _ => ?_) (fun c => absurd c (by decide))
  refine lv_iinc (v := nI 121) (lv' := [(1, .int (nI 121)), (0, .ref (a 0))]) hx hb dL_most_106 hl (k := 0) rfl (by decide) (by decide) rfl (fun ls hl => ?_)
  refine lv_goto (tgt := 51) hx hb dL_most_109 (by decide) ?_
  refine lv_iload_n hx hb dL_most_51 rfl (lv_at hl 0 rfl) ?_
  refine lv_bipush (v := nI 121) hx hb dL_most_52 (by decide) ?_
  refine lv_icmp_ge (tgt := 112) hx hb dL_most_54 (by decide) (fun _ => ?_) (fun c => absurd c (by decide))
  exact wid (by omega) (by omega) (K _ _ _ hS hCW (lv_sub hl [0, 1] rfl))
set_option maxHeartbeats 4000000 in
set_option maxRecDepth 100000 in
theorem ms_o {p : Program} {l : Launch} {e : Env} {s : State} {m : MethodId} {args : Array Value} {below : List Frame} {meth : Method} {c : Code} {Q : State → Prop} {G : GG} {a : Nat → Nat} {t9 : Nat} (J : LJ p l s m meth c args cL_most (some .boolean) 2 wsL_most G a t9) (hA : ∀ k, s.heap.size ≤ a k) {st : ST} (hO : OKS st) {k : Nat} (hk : k < 16) (h1 : nG (st.1 1) = 120) (h2 : nO (st.1 1) = k) (c0 s0 : Nat) (hc : c0 + 3 ≤ 1924) (hs : s0 + 18 ≤ 17858) {H : Heap} {locs : List Loc} {ls : Array Slot} (hS : va_S (fun q : Nat => s.heap.size ≤ q) s.heap H locs) (hCW : CW G a st H) (hl : lv_has ls 2 [(1, .int (nI k)), (0, .ref (a 0))]) (K : ∀ (H : Heap) (locs : List Loc) (ls : Array Slot), va_S (fun q : Nat => s.heap.size ≤ q) s.heap H locs → CW G a (ouS st 1 (119 - k)) H → lv_has ls 2 [(1, .int (nI (k + 1))), (0, .ref (a 0))] → W p l e ({ frames := 11, cells := 1924, slots := 17858, locals := 225 } : Room) s m args below meth c H locs (c0 + 3) (s0 + 18) Q (F0 m 114 ls [])) : W p l e ({ frames := 11, cells := 1924, slots := 17858, locals := 225 } : Room) s m args below meth c H locs c0 s0 Q (F0 m 114 ls []) := by
  obtain ⟨hfl, hx, hb, hr, hml, hown, hts, hlocks, ha, hK, hNW, hLow, hX, hNC⟩ := J
  have FX : CallFix p m c cL_most 2 s args wsL_most RL := ⟨hx, hb, hml, hown, hts⟩
  refine lv_iload_n hx hb dL_most_114 rfl (lv_at hl 0 rfl) ?_
  refine lv_bipush (v := nI 17) hx hb dL_most_115 (by decide) ?_
  refine lv_icmp_ge (tgt := 155) hx hb dL_most_117 (by decide) (fun c => absurd (cv_le (by omega) (by omega) c) (by omega)) (fun _ => ?_)
  refine lv_aload_n hx hb dL_most_120 rfl (lv_at hl 1 rfl) ?_
  refine lv_iconst (v := nI 2) hx hb dL_most_121 (by decide) ?_
  refine lv_iconst (v := nI 1) hx hb dL_most_122 (by decide) ?_
  refine lv_bipush (v := nI 119) hx hb dL_most_123 (by decide) ?_
  refine lv_iload_n hx hb dL_most_125 rfl (lv_at hl 0 rfl) ?_
  refine lv_isub hx hb dL_most_126 ?_
  refine lv_as (y := nI (119 - k)) (pk_sub (by omega)) ?_
  refine lv_iconst (v := nI 0) hx hb dL_most_127 (by decide) ?_
  refine lv_iconst (v := nI 0) hx hb dL_most_128 (by decide) ?_
  have hC : cOu st.1 (nI 1) (nI (119 - k)) = 0 := z0_out hO (by decide) (by omega) (by omega)
  refine wr_i (vx_run0 (vx_runSX (As := [.ref (a 0), .int (nI 2), .int (nI 1), .int (nI (119 - k)), .int (nI 0), .int (nI 0)]) (rest := []) FX (w_act_out l hfl G a ha t9 st (nI 1) (nI (119 - k)) (nI 0) (nI 0) hO) (vx_cwSW 6 hts gL_most_L_act rfl rfl rfl (by decide +kernel) ⟨Nat.le_of_ble_eq_true rfl, Nat.le_of_ble_eq_true rfl⟩) (preW hK hNW hCW (hLow.at hS (fun q9 h8 h9 => absurd h8 (Nat.not_lt.mpr h9))) (hX.at hS (fun q9 h8 h9 => absurd h8 (Nat.not_lt.mpr h9))) hNC) rfl rfl hl.1 rfl (lv_room (Nat.le_of_ble_eq_true rfl)) dL_most_129 (rmx (m := 1924) (n := 17858) (by omega) (by omega)))) hS (rng_ge hA) (fun r _ H locs hp hCW hk hS => ?_)
  refine lv_as (y := nI k) ((hp.1 hC).trans (by rw [ix_nI (by decide), h2])) ?_
  have hCW : CW G a (ouS st 1 (119 - k)) H := by rw [e_out (p := 1) (g := 119 - k) hO (by decide) (by omega) (by omega)] at hCW; exact hCW
  refine lv_iload_n hx hb dL_most_132 rfl (lv_at hl 0 rfl) ?_
  refine lv_bipush (v := nI 16) hx hb dL_most_133 (by decide) ?_
  refine lv_icmp_ge (tgt := 142) hx hb dL_most_135 (by decide) (fun c => absurd (cv_le (by omega) (by omega) c) (by omega)) (fun _ => ?_)
  refine lv_iload_n hx hb dL_most_138 rfl (lv_at hl 0 rfl) ?_
  refine lv_goto (tgt := 144) hx hb dL_most_139 (by decide) ?_
  refine lv_icmp_eq (tgt := 149) hx hb dL_most_144 (by decide) (fun _ => ?_) (fun c => absurd rfl c)
  refine lv_iinc (v := nI (k + 1)) (lv' := [(1, .int (nI (k + 1))), (0, .ref (a 0))]) hx hb dL_most_149 hl (k := 0) rfl (nI_add _ 1) (by decide) rfl (fun ls hl => ?_)
  refine lv_goto (tgt := 114) hx hb dL_most_152 (by decide) ?_
  exact wid (by omega) (by omega) (K _ _ _ hS hCW (lv_sub hl [0, 1] rfl))
set_option maxHeartbeats 4000000 in
set_option maxRecDepth 100000 in
theorem ms_ox {p : Program} {l : Launch} {e : Env} {s : State} {m : MethodId} {args : Array Value} {below : List Frame} {meth : Method} {c : Code} {Q : State → Prop} {G : GG} {a : Nat → Nat} {t9 : Nat} (J : LJ p l s m meth c args cL_most (some .boolean) 2 wsL_most G a t9) (hA : ∀ k, s.heap.size ≤ a k) {st : ST} (hO : OKS st) (h1 : nG (st.1 1) = 120) (h2 : nO (st.1 1) = 16) (c0 s0 : Nat) (hc : c0 + 3 ≤ 1924) (hs : s0 + 18 ≤ 17858) {H : Heap} {locs : List Loc} {ls : Array Slot} (hS : va_S (fun q : Nat => s.heap.size ≤ q) s.heap H locs) (hCW : CW G a st H) (hl : lv_has ls 2 [(1, .int (nI 16)), (0, .ref (a 0))]) (K : ∀ (H : Heap) (locs : List Loc) (ls : Array Slot), va_S (fun q : Nat => s.heap.size ≤ q) s.heap H locs → CW G a st H → lv_has ls 2 [(1, .int (nI 17)), (0, .ref (a 0))] → W p l e ({ frames := 11, cells := 1924, slots := 17858, locals := 225 } : Room) s m args below meth c H locs (c0 + 3) (s0 + 18) Q (F0 m 155 ls [])) : W p l e ({ frames := 11, cells := 1924, slots := 17858, locals := 225 } : Room) s m args below meth c H locs c0 s0 Q (F0 m 114 ls []) := by
  obtain ⟨hfl, hx, hb, hr, hml, hown, hts, hlocks, ha, hK, hNW, hLow, hX, hNC⟩ := J
  have FX : CallFix p m c cL_most 2 s args wsL_most RL := ⟨hx, hb, hml, hown, hts⟩
  refine lv_iload_n hx hb dL_most_114 rfl (lv_at hl 0 rfl) ?_
  refine lv_bipush (v := nI 17) hx hb dL_most_115 (by decide) ?_
  refine lv_icmp_ge (tgt := 155) hx hb dL_most_117 (by decide) (fun c => absurd c (by decide)) (fun _ => ?_)
  refine lv_aload_n hx hb dL_most_120 rfl (lv_at hl 1 rfl) ?_
  refine lv_iconst (v := nI 2) hx hb dL_most_121 (by decide) ?_
  refine lv_iconst (v := nI 1) hx hb dL_most_122 (by decide) ?_
  refine lv_bipush (v := nI 119) hx hb dL_most_123 (by decide) ?_
  refine lv_iload_n hx hb dL_most_125 rfl (lv_at hl 0 rfl) ?_
  refine lv_isub hx hb dL_most_126 ?_
  refine lv_as (y := nI 103) (by decide) ?_
  refine lv_iconst (v := nI 0) hx hb dL_most_127 (by decide) ?_
  refine lv_iconst (v := nI 0) hx hb dL_most_128 (by decide) ?_
  have hC : cOu st.1 (nI 1) (nI 103) = 3 := by
    unfold cOu
    rw [ix_nI (by decide), h1, h2, if_pos (by decide), if_pos (by decide), if_neg (by decide)]
  refine wr_i (vx_run0 (vx_runSX (As := [.ref (a 0), .int (nI 2), .int (nI 1), .int (nI 103), .int (nI 0), .int (nI 0)]) (rest := []) FX (w_act_out l hfl G a ha t9 st (nI 1) (nI 103) (nI 0) (nI 0) hO) (vx_cwSW 6 hts gL_most_L_act rfl rfl rfl (by decide +kernel) ⟨Nat.le_of_ble_eq_true rfl, Nat.le_of_ble_eq_true rfl⟩) (preW hK hNW hCW (hLow.at hS (fun q9 h8 h9 => absurd h8 (Nat.not_lt.mpr h9))) (hX.at hS (fun q9 h8 h9 => absurd h8 (Nat.not_lt.mpr h9))) hNC) rfl rfl hl.1 rfl (lv_room (Nat.le_of_ble_eq_true rfl)) dL_most_129 (rmx (m := 1924) (n := 17858) (by omega) (by omega)))) hS (rng_ge hA) (fun r _ H locs hp hCW hk hS => ?_)
  refine lv_as (y := -7000003) (hp.2.2.2 hC) ?_
  rw [stN_n hC (by decide)] at hCW
  have hCW : CW G a st H := hCW
  refine lv_iload_n hx hb dL_most_132 rfl (lv_at hl 0 rfl) ?_
  refine lv_bipush (v := nI 16) hx hb dL_most_133 (by decide) ?_
  refine lv_icmp_ge (tgt := 142) hx hb dL_most_135 (by decide) (fun _ => ?_) (fun c => absurd c (by decide))
  refine lv_ldc (v := -7000003) hx hb hown (hts (.constant RL 81 (-7000003)) (List.mem_of_getElem? (i := 4) (by decide +kernel))) dL_most_142 ?_
  refine lv_icmp_eq (tgt := 149) hx hb dL_most_144 (by decide) (fun _ => ?_) (fun c => absurd c (by decide))
  refine lv_iinc (v := nI 17) (lv' := [(1, .int (nI 17)), (0, .ref (a 0))]) hx hb dL_most_149 hl (k := 0) rfl (by decide) (by decide) rfl (fun ls hl => ?_)
  refine lv_goto (tgt := 114) hx hb dL_most_152 (by decide) ?_
  refine lv_iload_n hx hb dL_most_114 rfl (lv_at hl 0 rfl) ?_
  refine lv_bipush (v := nI 17) hx hb dL_most_115 (by decide) ?_
  refine lv_icmp_ge (tgt := 155) hx hb dL_most_117 (by decide) (fun _ => ?_) (fun c => absurd c (by decide))
  exact wid (by omega) (by omega) (K _ _ _ hS hCW (lv_sub hl [0, 1] rfl))
