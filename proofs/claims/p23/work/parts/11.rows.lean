set_option maxRecDepth 20000 in
theorem inX4_at_4 : ∀ w ∈ u_ws RX4 TX4 1, w ∈ wsX4_at := by decide +kernel
set_option maxHeartbeats 4000000 in
set_option maxRecDepth 100000 in
/-- Row.at: the cell, or 0 where there is none -/
theorem c_X4_at (l : Launch) (G : GG) (a : Nat → Nat) (i n : Nat) (f : Nat → Int32) (x : Int32) (hn : n < 2 ^ 31) : Met l yX4_at wsX4_at ({ frames := 0, cells := 0, slots := 0, locals := 0 } : Room) (PcB G [.ref (a i), .int x] (fun H => PP G (rowW G a i n f) H)) (vp_Si (fun r => r = rowAt n f x)) 0 0 (fun _ => False) := by
  refine Met.ofW (cc := cX4_at) (maxL := 2) (ret := (some .int)) (by decide) rfl ?_
  intro p e s m args below meth c s₁ B hml hv
  obtain ⟨rfl, hB, hK, hNW⟩ := hv
  have hx := B.exec
  have hb := B.bytes
  have hr := B.returns
  have hts := atoms_spec (ws := wsX4_at) B.pre
  have hown : s.vm.findClass RX4 = some m.cls := findClass_of_methodNamed B.named
  have hlocks := B.notSynchronized
  have FX : CallFix p m c cX4_at 2 s ([.ref (a i), .int x] : List Value).toArray wsX4_at RX4 := ⟨hx, hb, hml, hown, hts⟩
  have hl := lv_entry ([.ref (a i), .int x]) (n := 2) (Nat.le_of_ble_eq_true rfl)
  rw [lg_entry_eq]
  generalize (lg_sl ([.ref (a i), .int x]) ++ List.replicate (2 - (lg_sl ([.ref (a i), .int x])).length) Slot.unset).toArray = ls at hl ⊢
  have hl : lv_has ls 2 [(0, .ref (a i)), (1, .int x)] := hl
  have h_r := hB
  refine lv_iload_n hx hb dX4_at_0 rfl (lv_at hl 1 rfl) ?_
  refine lv_if_lt (tgt := 22) hx hb dX4_at_1 (by decide) (fun c1 => ?_) (fun c1 => ?_)
  · skip
    refine lv_iconst (v := nI 0) hx hb dX4_at_22 (by decide) ?_
    exact en_i hx hb hr hlocks (by unfold rowAt; first | rw [if_pos (Or.inl c1)]; rfl | rw [if_pos (Or.inr hq)]; rfl | rw [if_neg (fun q => q.elim c1 hq)]) dX4_at_23
  · skip
    refine lv_iload_n hx hb dX4_at_4 rfl (lv_at hl 1 rfl) ?_
    refine lv_aload_n hx hb dX4_at_5 rfl (lv_at hl 0 rfl) ?_
    refine va_get (D := G.1) (ci := 4) (v := .ref (a (i + 1))) (C := RX4) (T := TX4) (N := 1) hx hb hts inX4_at_4 hown hK h_r 0 rfl rfl 0 (by decide) (hts (.fieldLink RX4 7 "GateLedger$Row" "cells" "[I") (List.mem_of_getElem? (i := 1) (by decide +kernel))) (fun _ h9 => h9) rfl dX4_at_6 ?_
    refine va_alen hx hb hK h_r 1 0 rfl rfl (v := nI n) rfl dX4_at_9 ?_
    refine lv_icmp_ge (tgt := 22) hx hb dX4_at_10 (by decide) (fun c10 => ?_) (fun c10 => ?_)
    · skip
      have hq := clamp_ge c1 c10 hn
      refine lv_iconst (v := nI 0) hx hb dX4_at_22 (by decide) ?_
      exact en_i hx hb hr hlocks (by unfold rowAt; first | rw [if_pos (Or.inl c1)]; rfl | rw [if_pos (Or.inr hq)]; rfl | rw [if_neg (fun q => q.elim c1 hq)]) dX4_at_23
    · skip
      have hq := clamp_lt c1 c10 hn
      refine lv_aload_n hx hb dX4_at_13 rfl (lv_at hl 0 rfl) ?_
      refine va_get (D := G.1) (ci := 4) (v := .ref (a (i + 1))) (C := RX4) (T := TX4) (N := 1) hx hb hts inX4_at_4 hown hK h_r 0 rfl rfl 0 (by decide) (hts (.fieldLink RX4 7 "GateLedger$Row" "cells" "[I") (List.mem_of_getElem? (i := 1) (by decide +kernel))) (fun _ h9 => h9) rfl dX4_at_14 ?_
      refine lv_iload_n hx hb dX4_at_17 rfl (lv_at hl 1 rfl) ?_
      refine pp_iald hx hb hK h_r 1 rfl (in_cmp c1 c10 hn) dX4_at_18 ?_
      refine lv_goto (tgt := 23) hx hb dX4_at_19 (by decide) ?_
      exact en_i hx hb hr hlocks (by unfold rowAt; first | rw [if_pos (Or.inl c1)]; rfl | rw [if_pos (Or.inr hq)]; rfl | rw [if_neg (fun q => q.elim c1 hq)]) dX4_at_23
set_option maxRecDepth 20000 in
theorem inX9_at_9 : ∀ w ∈ u_ws RX9 TX9 1, w ∈ wsX9_at := by decide +kernel
set_option maxHeartbeats 4000000 in
set_option maxRecDepth 100000 in
/-- WideRow.at -/
theorem c_X9_at (l : Launch) (G : GG) (a : Nat → Nat) (i n : Nat) (f : Nat → Int64) (x : Int32) (hn : n < 2 ^ 31) : Met l yX9_at wsX9_at ({ frames := 0, cells := 0, slots := 0, locals := 0 } : Room) (PcB G [.ref (a i), .int x] (fun H => PP G (wrowW G a i n f) H)) (vp_Sl (fun r => r = wrowAt n f x)) 0 0 (fun _ => False) := by
  refine Met.ofW (cc := cX9_at) (maxL := 2) (ret := (some .long)) (by decide) rfl ?_
  intro p e s m args below meth c s₁ B hml hv
  obtain ⟨rfl, hB, hK, hNW⟩ := hv
  have hx := B.exec
  have hb := B.bytes
  have hr := B.returns
  have hts := atoms_spec (ws := wsX9_at) B.pre
  have hown : s.vm.findClass RX9 = some m.cls := findClass_of_methodNamed B.named
  have hlocks := B.notSynchronized
  have FX : CallFix p m c cX9_at 2 s ([.ref (a i), .int x] : List Value).toArray wsX9_at RX9 := ⟨hx, hb, hml, hown, hts⟩
  have hl := lv_entry ([.ref (a i), .int x]) (n := 2) (Nat.le_of_ble_eq_true rfl)
  rw [lg_entry_eq]
  generalize (lg_sl ([.ref (a i), .int x]) ++ List.replicate (2 - (lg_sl ([.ref (a i), .int x])).length) Slot.unset).toArray = ls at hl ⊢
  have hl : lv_has ls 2 [(0, .ref (a i)), (1, .int x)] := hl
  have h_r := hB
  refine lv_iload_n hx hb dX9_at_0 rfl (lv_at hl 1 rfl) ?_
  refine lv_if_lt (tgt := 22) hx hb dX9_at_1 (by decide) (fun c1 => ?_) (fun c1 => ?_)
  · skip
    refine lv_lconst (v := 0) hx hb dX9_at_22 (by decide) ?_
    exact en_l hx hb hr hlocks (by unfold wrowAt; first | rw [if_pos (Or.inl c1)] | rw [if_pos (Or.inr hq)] | rw [if_neg (fun q => q.elim c1 hq)]) dX9_at_23
  · skip
    refine lv_iload_n hx hb dX9_at_4 rfl (lv_at hl 1 rfl) ?_
    refine lv_aload_n hx hb dX9_at_5 rfl (lv_at hl 0 rfl) ?_
    refine va_get (D := G.1) (ci := 9) (v := .ref (a (i + 1))) (C := RX9) (T := TX9) (N := 1) hx hb hts inX9_at_9 hown hK h_r 0 rfl rfl 0 (by decide) (hts (.fieldLink RX9 7 "GateLedger$WideRow" "cells" "[J") (List.mem_of_getElem? (i := 1) (by decide +kernel))) (fun _ h9 => h9) rfl dX9_at_6 ?_
    refine va_alen hx hb hK h_r 1 1 rfl rfl (v := nI n) rfl dX9_at_9 ?_
    refine lv_icmp_ge (tgt := 22) hx hb dX9_at_10 (by decide) (fun c10 => ?_) (fun c10 => ?_)
    · skip
      have hq := clamp_ge c1 c10 hn
      refine lv_lconst (v := 0) hx hb dX9_at_22 (by decide) ?_
      exact en_l hx hb hr hlocks (by unfold wrowAt; first | rw [if_pos (Or.inl c1)] | rw [if_pos (Or.inr hq)] | rw [if_neg (fun q => q.elim c1 hq)]) dX9_at_23
    · skip
      have hq := clamp_lt c1 c10 hn
      refine lv_aload_n hx hb dX9_at_13 rfl (lv_at hl 0 rfl) ?_
      refine va_get (D := G.1) (ci := 9) (v := .ref (a (i + 1))) (C := RX9) (T := TX9) (N := 1) hx hb hts inX9_at_9 hown hK h_r 0 rfl rfl 0 (by decide) (hts (.fieldLink RX9 7 "GateLedger$WideRow" "cells" "[J") (List.mem_of_getElem? (i := 1) (by decide +kernel))) (fun _ h9 => h9) rfl dX9_at_14 ?_
      refine lv_iload_n hx hb dX9_at_17 rfl (lv_at hl 1 rfl) ?_
      refine pp_lald hx hb hK h_r 1 rfl (in_cmp c1 c10 hn) dX9_at_18 ?_
      refine lv_goto (tgt := 23) hx hb dX9_at_19 (by decide) ?_
      exact en_l hx hb hr hlocks (by unfold wrowAt; first | rw [if_pos (Or.inl c1)] | rw [if_pos (Or.inr hq)] | rw [if_neg (fun q => q.elim c1 hq)]) dX9_at_23
set_option maxRecDepth 20000 in
theorem inX4_put_4 : ∀ w ∈ u_ws RX4 TX4 1, w ∈ wsX4_put := by decide +kernel
set_option maxHeartbeats 4000000 in
set_option maxRecDepth 100000 in
/-- X4_put: the cell, where there is one -/
theorem c_X4_put (l : Launch) (G : GG) (a : Nat → Nat) (ha : Inj a) (i n : Nat) (f : Nat → Int32) (x : Int32) (v : Int32) (hn : n < 2 ^ 31) : Met l yX4_put wsX4_put ({ frames := 0, cells := 0, slots := 0, locals := 0 } : Room) (PcB G [.ref (a i), .int x, .int v] (fun H => PP G (rowW G a i n f) H)) (QV (fun _ : Unit => True) (fun _ H => PP G (rowW G a i n (rowPut n f x v)) H) (rng a i 2)) 0 0 (rng a i 2) := by
  refine Met.ofW (cc := cX4_put) (maxL := 3) (ret := none) (by decide) rfl ?_
  intro p e s m args below meth c s₁ B hml hv
  obtain ⟨rfl, hB, hK, hNW⟩ := hv
  have hx := B.exec
  have hb := B.bytes
  have hr := B.returns
  have hts := atoms_spec (ws := wsX4_put) B.pre
  have hown : s.vm.findClass RX4 = some m.cls := findClass_of_methodNamed B.named
  have hlocks := B.notSynchronized
  have FX : CallFix p m c cX4_put 3 s ([.ref (a i), .int x, .int v] : List Value).toArray wsX4_put RX4 := ⟨hx, hb, hml, hown, hts⟩
  have hl := lv_entry ([.ref (a i), .int x, .int v]) (n := 3) (Nat.le_of_ble_eq_true rfl)
  rw [lg_entry_eq]
  generalize (lg_sl ([.ref (a i), .int x, .int v]) ++ List.replicate (3 - (lg_sl ([.ref (a i), .int x, .int v])).length) Slot.unset).toArray = ls at hl ⊢
  have hl : lv_has ls 3 [(0, .ref (a i)), (1, .int x), (2, .int v)] := hl
  have h_o : PP G ([(a i, .inr (4, [.ref (a (i + 1))]))]) s.heap := va_P.sub hB [0] rfl
  have h_c : PP G ([(a (i + 1), .inl (gI G, n, .inl f))]) s.heap := va_P.sub hB [1] rfl
  have hS : va_S (rng a i 2) s.heap s.heap [] := va_S.rf
  refine lv_iload_n hx hb dX4_put_0 rfl (lv_at hl 1 rfl) ?_
  refine lv_if_lt (tgt := 20) hx hb dX4_put_1 (by decide) (fun c1 => ?_) (fun c1 => ?_)
  · skip
    have e9 : rowPut n f x v = f := by unfold rowPut; first | exact if_pos (Or.inl c1) | exact if_pos (Or.inr hq)
    exact en_wv () hx hb hr hlocks hS trivial (by show PP G (rowW G a i n (rowPut n f x v)) _; rw [e9]; exact P_app h_o h_c) dX4_put_20
  · skip
    refine lv_iload_n hx hb dX4_put_4 rfl (lv_at hl 1 rfl) ?_
    refine lv_aload_n hx hb dX4_put_5 rfl (lv_at hl 0 rfl) ?_
    refine va_get (D := G.1) (ci := 4) (v := .ref (a (i + 1))) (C := RX4) (T := TX4) (N := 1) hx hb hts inX4_put_4 hown hK h_o 0 rfl rfl 0 (by decide) (hts (.fieldLink RX4 7 "GateLedger$Row" "cells" "[I") (List.mem_of_getElem? (i := 1) (by decide +kernel))) (fun _ h9 => h9) rfl dX4_put_6 ?_
    refine va_alen hx hb hK h_c 0 0 rfl rfl (v := nI n) rfl dX4_put_9 ?_
    refine lv_icmp_ge (tgt := 20) hx hb dX4_put_10 (by decide) (fun c10 => ?_) (fun c10 => ?_)
    · skip
      have hq := clamp_ge c1 c10 hn
      have e9 : rowPut n f x v = f := by unfold rowPut; first | exact if_pos (Or.inl c1) | exact if_pos (Or.inr hq)
      exact en_wv () hx hb hr hlocks hS trivial (by show PP G (rowW G a i n (rowPut n f x v)) _; rw [e9]; exact P_app h_o h_c) dX4_put_20
    · skip
      have hq := clamp_lt c1 c10 hn
      refine lv_aload_n hx hb dX4_put_13 rfl (lv_at hl 0 rfl) ?_
      refine va_get (D := G.1) (ci := 4) (v := .ref (a (i + 1))) (C := RX4) (T := TX4) (N := 1) hx hb hts inX4_put_4 hown hK h_o 0 rfl rfl 0 (by decide) (hts (.fieldLink RX4 7 "GateLedger$Row" "cells" "[I") (List.mem_of_getElem? (i := 1) (by decide +kernel))) (fun _ h9 => h9) rfl dX4_put_14 ?_
      refine lv_iload_n hx hb dX4_put_17 rfl (lv_at hl 1 rfl) ?_
      refine lv_iload_n hx hb dX4_put_18 rfl (lv_at hl 2 rfl) ?_
      refine pp_iast hx hb hK h_c hS (rng_in (by omega)) (in_cmp c1 c10 hn) dX4_put_19 (fun H locs hP9 hk1 _ hS => ?_)
      have h_c : PP G ([(a (i + 1), .inl (gI G, n, .inl (upd f (x).toNatClampNeg v)))]) H := hP9
      have h_o : PP G ([(a i, .inr (4, [.ref (a (i + 1))]))]) H := kp hk1 h_o (dj_cons (ne_a ha (by omega)) (dj_nil))
      have e9 : rowPut n f x v = upd f (x).toNatClampNeg v := if_neg (fun q => q.elim c1 hq)
      exact en_wv () hx hb hr hlocks hS trivial (by show PP G (rowW G a i n (rowPut n f x v)) _; rw [e9]; exact P_app h_o h_c) dX4_put_20
set_option maxRecDepth 20000 in
theorem inX9_put_9 : ∀ w ∈ u_ws RX9 TX9 1, w ∈ wsX9_put := by decide +kernel
set_option maxHeartbeats 4000000 in
set_option maxRecDepth 100000 in
/-- X9_put: the cell, where there is one -/
theorem c_X9_put (l : Launch) (G : GG) (a : Nat → Nat) (ha : Inj a) (i n : Nat) (f : Nat → Int64) (x : Int32) (v : Int64) (hn : n < 2 ^ 31) : Met l yX9_put wsX9_put ({ frames := 0, cells := 0, slots := 0, locals := 0 } : Room) (PcB G [.ref (a i), .int x, .long v] (fun H => PP G (wrowW G a i n f) H)) (QV (fun _ : Unit => True) (fun _ H => PP G (wrowW G a i n (wrowPut n f x v)) H) (rng a i 2)) 0 0 (rng a i 2) := by
  refine Met.ofW (cc := cX9_put) (maxL := 4) (ret := none) (by decide) rfl ?_
  intro p e s m args below meth c s₁ B hml hv
  obtain ⟨rfl, hB, hK, hNW⟩ := hv
  have hx := B.exec
  have hb := B.bytes
  have hr := B.returns
  have hts := atoms_spec (ws := wsX9_put) B.pre
  have hown : s.vm.findClass RX9 = some m.cls := findClass_of_methodNamed B.named
  have hlocks := B.notSynchronized
  have FX : CallFix p m c cX9_put 4 s ([.ref (a i), .int x, .long v] : List Value).toArray wsX9_put RX9 := ⟨hx, hb, hml, hown, hts⟩
  have hl := lv_entry ([.ref (a i), .int x, .long v]) (n := 4) (Nat.le_of_ble_eq_true rfl)
  rw [lg_entry_eq]
  generalize (lg_sl ([.ref (a i), .int x, .long v]) ++ List.replicate (4 - (lg_sl ([.ref (a i), .int x, .long v])).length) Slot.unset).toArray = ls at hl ⊢
  have hl : lv_has ls 4 [(0, .ref (a i)), (1, .int x), (2, .long v)] := hl
  have h_o : PP G ([(a i, .inr (9, [.ref (a (i + 1))]))]) s.heap := va_P.sub hB [0] rfl
  have h_c : PP G ([(a (i + 1), .inl (gJ G, n, .inr (.inl f)))]) s.heap := va_P.sub hB [1] rfl
  have hS : va_S (rng a i 2) s.heap s.heap [] := va_S.rf
  refine lv_iload_n hx hb dX9_put_0 rfl (lv_at hl 1 rfl) ?_
  refine lv_if_lt (tgt := 20) hx hb dX9_put_1 (by decide) (fun c1 => ?_) (fun c1 => ?_)
  · skip
    have e9 : wrowPut n f x v = f := by unfold wrowPut; first | exact if_pos (Or.inl c1) | exact if_pos (Or.inr hq)
    exact en_wv () hx hb hr hlocks hS trivial (by show PP G (wrowW G a i n (wrowPut n f x v)) _; rw [e9]; exact P_app h_o h_c) dX9_put_20
  · skip
    refine lv_iload_n hx hb dX9_put_4 rfl (lv_at hl 1 rfl) ?_
    refine lv_aload_n hx hb dX9_put_5 rfl (lv_at hl 0 rfl) ?_
    refine va_get (D := G.1) (ci := 9) (v := .ref (a (i + 1))) (C := RX9) (T := TX9) (N := 1) hx hb hts inX9_put_9 hown hK h_o 0 rfl rfl 0 (by decide) (hts (.fieldLink RX9 7 "GateLedger$WideRow" "cells" "[J") (List.mem_of_getElem? (i := 1) (by decide +kernel))) (fun _ h9 => h9) rfl dX9_put_6 ?_
    refine va_alen hx hb hK h_c 0 1 rfl rfl (v := nI n) rfl dX9_put_9 ?_
    refine lv_icmp_ge (tgt := 20) hx hb dX9_put_10 (by decide) (fun c10 => ?_) (fun c10 => ?_)
    · skip
      have hq := clamp_ge c1 c10 hn
      have e9 : wrowPut n f x v = f := by unfold wrowPut; first | exact if_pos (Or.inl c1) | exact if_pos (Or.inr hq)
      exact en_wv () hx hb hr hlocks hS trivial (by show PP G (wrowW G a i n (wrowPut n f x v)) _; rw [e9]; exact P_app h_o h_c) dX9_put_20
    · skip
      have hq := clamp_lt c1 c10 hn
      refine lv_aload_n hx hb dX9_put_13 rfl (lv_at hl 0 rfl) ?_
      refine va_get (D := G.1) (ci := 9) (v := .ref (a (i + 1))) (C := RX9) (T := TX9) (N := 1) hx hb hts inX9_put_9 hown hK h_o 0 rfl rfl 0 (by decide) (hts (.fieldLink RX9 7 "GateLedger$WideRow" "cells" "[J") (List.mem_of_getElem? (i := 1) (by decide +kernel))) (fun _ h9 => h9) rfl dX9_put_14 ?_
      refine lv_iload_n hx hb dX9_put_17 rfl (lv_at hl 1 rfl) ?_
      refine lv_lload_n hx hb dX9_put_18 rfl (lv_at hl 2 rfl) ?_
      refine pp_last hx hb hK h_c hS (rng_in (by omega)) (in_cmp c1 c10 hn) dX9_put_19 (fun H locs hP9 hk1 _ hS => ?_)
      have h_c : PP G ([(a (i + 1), .inl (gJ G, n, .inr (.inl (vp_updL f (x).toNatClampNeg v))))]) H := hP9
      have h_o : PP G ([(a i, .inr (9, [.ref (a (i + 1))]))]) H := kp hk1 h_o (dj_cons (ne_a ha (by omega)) (dj_nil))
      have e9 : wrowPut n f x v = vp_updL f (x).toNatClampNeg v := if_neg (fun q => q.elim c1 hq)
      exact en_wv () hx hb hr hlocks hS trivial (by show PP G (wrowW G a i n (wrowPut n f x v)) _; rw [e9]; exact P_app h_o h_c) dX9_put_20
