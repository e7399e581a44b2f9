set_option maxRecDepth 20000 in
theorem inX5_begin_5 : ∀ w ∈ u_ws RX5 TX5 3, w ∈ wsX5_begin := by decide +kernel
set_option maxHeartbeats 4000000 in
set_option maxRecDepth 100000 in
/-- Tally.begin -/
theorem c_X5_begin (l : Launch) (G : GG) (a : Nat → Nat) (ha : Inj a) (i x y z : Nat)  : Met l yX5_begin wsX5_begin ({ frames := 0, cells := 0, slots := 0, locals := 0 } : Room) (PcB G [.ref (a i)] (fun H => PP G (talW a i x y z) H)) (QV (fun _ : Unit => True) (fun _ H => PP G (talW a i 0 0 0) H) (rng a i 1)) 0 0 (rng a i 1) := by
  refine Met.ofW (cc := cX5_begin) (maxL := 1) (ret := none) (by decide) rfl ?_
  intro p e s m args below meth c s₁ B hml hv
  obtain ⟨rfl, hB, hK, hNW⟩ := hv
  have hx := B.exec
  have hb := B.bytes
  have hr := B.returns
  have hts := atoms_spec (ws := wsX5_begin) B.pre
  have hown : s.vm.findClass RX5 = some m.cls := findClass_of_methodNamed B.named
  have hlocks := B.notSynchronized
  have FX : CallFix p m c cX5_begin 1 s ([.ref (a i)] : List Value).toArray wsX5_begin RX5 := ⟨hx, hb, hml, hown, hts⟩
  have hl := lv_entry ([.ref (a i)]) (n := 1) (Nat.le_of_ble_eq_true rfl)
  rw [lg_entry_eq]
  generalize (lg_sl ([.ref (a i)]) ++ List.replicate (1 - (lg_sl ([.ref (a i)])).length) Slot.unset).toArray = ls at hl ⊢
  have hl : lv_has ls 1 [(0, .ref (a i))] := hl
  have h_t := hB
  have hS : va_S (rng a i 1) s.heap s.heap [] := va_S.rf
  refine lv_aload_n hx hb dX5_begin_0 rfl (lv_at hl 0 rfl) ?_
  refine lv_iconst (v := nI 0) hx hb dX5_begin_1 (by decide) ?_
  refine pp_put (ci := 5) (v := .int (nI 0)) (ty := .int) (C := RX5) (T := TX5) (N := 3) hx hb hts inX5_begin_5 tyX5 tyX5_ok nmX5 hown hK h_t hS (rng_in (by omega)) rfl 0 (by decide) (hts (.fieldLink RX5 7 "GateLedger$Tally" "total" "I") (List.mem_of_getElem? (i := 1) (by decide +kernel))) (fun _ h9 => h9) rfl (by decide +kernel) rfl rfl (Nat.le_of_ble_eq_true rfl) dX5_begin_2 (fun H locs hP9 hk1 _ hS => ?_)
  have h_t : PP G ([(a i, .inr (5, [.int (nI 0), .int (nI y), .int (nI z)]))]) H := hP9
  refine lv_aload_n hx hb dX5_begin_5 rfl (lv_at hl 0 rfl) ?_
  refine lv_iconst (v := nI 0) hx hb dX5_begin_6 (by decide) ?_
  refine pp_put (ci := 5) (v := .int (nI 0)) (ty := .int) (C := RX5) (T := TX5) (N := 3) hx hb hts inX5_begin_5 tyX5 tyX5_ok nmX5 hown hK h_t hS (rng_in (by omega)) rfl 1 (by decide) (hts (.fieldLink RX5 13 "GateLedger$Tally" "lastTime" "I") (List.mem_of_getElem? (i := 2) (by decide +kernel))) (fun _ h9 => h9) rfl (by decide +kernel) rfl rfl (Nat.le_of_ble_eq_true rfl) dX5_begin_7 (fun H locs hP9 hk2 _ hS => ?_)
  have h_t : PP G ([(a i, .inr (5, [.int (nI 0), .int (nI 0), .int (nI z)]))]) H := hP9
  refine lv_aload_n hx hb dX5_begin_10 rfl (lv_at hl 0 rfl) ?_
  refine lv_iconst (v := nI 0) hx hb dX5_begin_11 (by decide) ?_
  refine pp_put (ci := 5) (v := .int (nI 0)) (ty := .int) (C := RX5) (T := TX5) (N := 3) hx hb hts inX5_begin_5 tyX5 tyX5_ok nmX5 hown hK h_t hS (rng_in (by omega)) rfl 2 (by decide) (hts (.fieldLink RX5 16 "GateLedger$Tally" "totalOfOuts" "I") (List.mem_of_getElem? (i := 3) (by decide +kernel))) (fun _ h9 => h9) rfl (by decide +kernel) rfl rfl (Nat.le_of_ble_eq_true rfl) dX5_begin_12 (fun H locs hP9 hk3 _ hS => ?_)
  have h_t : PP G ([(a i, .inr (5, [.int (nI 0), .int (nI 0), .int (nI 0)]))]) H := hP9
  exact en_wv () hx hb hr hlocks hS (trivial) (h_t) dX5_begin_15
set_option maxRecDepth 20000 in
theorem inX5_add_5 : ∀ w ∈ u_ws RX5 TX5 3, w ∈ wsX5_add := by decide +kernel
set_option maxHeartbeats 4000000 in
set_option maxRecDepth 100000 in
/-- Tally.add -/
theorem c_X5_add (l : Launch) (G : GG) (a : Nat → Nat) (ha : Inj a) (i x y z : Nat) (u v : Nat) (q : Prop) [Decidable q] (hy : y < 2 ^ 31) (hv : v < 2 ^ 31) : Met l yX5_add wsX5_add ({ frames := 1, cells := 0, slots := 0, locals := 21 } : Room) (PcB G [.ref (a i), .int (nI u), .int (nI v), .int (bI q)] (fun H => PP G (talW a i x y z) H)) (QV (fun _ : Unit => True) (fun _ H => PP G (talW a i (x + u) (max y v) (z + if q then u else 0)) H) (rng a i 1)) 0 0 (rng a i 1) := by
  refine Met.ofW (cc := cX5_add) (maxL := 4) (ret := none) (by decide) rfl ?_
  intro p e s m args below meth c s₁ B hml hv
  obtain ⟨rfl, hB, hK, hNW⟩ := hv
  have hx := B.exec
  have hb := B.bytes
  have hr := B.returns
  have hts := atoms_spec (ws := wsX5_add) B.pre
  have hown : s.vm.findClass RX5 = some m.cls := findClass_of_methodNamed B.named
  have hlocks := B.notSynchronized
  have FX : CallFix p m c cX5_add 4 s ([.ref (a i), .int (nI u), .int (nI v), .int (bI q)] : List Value).toArray wsX5_add RX5 := ⟨hx, hb, hml, hown, hts⟩
  have hl := lv_entry ([.ref (a i), .int (nI u), .int (nI v), .int (bI q)]) (n := 4) (Nat.le_of_ble_eq_true rfl)
  rw [lg_entry_eq]
  generalize (lg_sl ([.ref (a i), .int (nI u), .int (nI v), .int (bI q)]) ++ List.replicate (4 - (lg_sl ([.ref (a i), .int (nI u), .int (nI v), .int (bI q)])).length) Slot.unset).toArray = ls at hl ⊢
  have hl : lv_has ls 4 [(0, .ref (a i)), (1, .int (nI u)), (2, .int (nI v)), (3, .int (bI q))] := hl
  have h_t := hB
  have hS : va_S (rng a i 1) s.heap s.heap [] := va_S.rf
  refine lv_aload_n hx hb dX5_add_0 rfl (lv_at hl 0 rfl) ?_
  refine lv_dup hx hb dX5_add_1 rfl ?_
  refine va_get (D := G.1) (ci := 5) (v := .int (nI x)) (C := RX5) (T := TX5) (N := 3) hx hb hts inX5_add_5 hown hK h_t 0 rfl rfl 0 (by decide) (hts (.fieldLink RX5 7 "GateLedger$Tally" "total" "I") (List.mem_of_getElem? (i := 1) (by decide +kernel))) (fun _ h9 => h9) rfl dX5_add_2 ?_
  refine lv_iload_n hx hb dX5_add_5 rfl (lv_at hl 1 rfl) ?_
  refine lv_iadd hx hb dX5_add_6 ?_
  refine lv_as (nI_add _ _) ?_
  refine pp_put (ci := 5) (v := .int (nI (x + u))) (ty := .int) (C := RX5) (T := TX5) (N := 3) hx hb hts inX5_add_5 tyX5 tyX5_ok nmX5 hown hK h_t hS (rng_in (by omega)) rfl 0 (by decide) (hts (.fieldLink RX5 7 "GateLedger$Tally" "total" "I") (List.mem_of_getElem? (i := 1) (by decide +kernel))) (fun _ h9 => h9) rfl (by decide +kernel) rfl rfl (Nat.le_of_ble_eq_true rfl) dX5_add_7 (fun H locs hP9 hk1 _ hS => ?_)
  have h_t : PP G ([(a i, .inr (5, [.int (nI (x + u)), .int (nI y), .int (nI z)]))]) H := hP9
  refine lv_aload_n hx hb dX5_add_10 rfl (lv_at hl 0 rfl) ?_
  refine lv_aload_n hx hb dX5_add_11 rfl (lv_at hl 0 rfl) ?_
  refine va_get (D := G.1) (ci := 5) (v := .int (nI y)) (C := RX5) (T := TX5) (N := 3) hx hb hts inX5_add_5 hown hK h_t 0 rfl rfl 1 (by decide) (hts (.fieldLink RX5 13 "GateLedger$Tally" "lastTime" "I") (List.mem_of_getElem? (i := 2) (by decide +kernel))) (fun _ h9 => h9) rfl dX5_add_12 ?_
  refine lv_iload_n hx hb dX5_add_15 rfl (lv_at hl 2 rfl) ?_
  refine va_mmax hx hb (hml.trans hl.1.symm) hown (hts (.methodLink RX5 19 Lib.Math.max.name) (List.mem_of_getElem? (i := 3) (by decide +kernel))) (hts (.static Lib.Math.max.name) (List.mem_of_getElem? (i := 4) (by decide +kernel))) (hts (.initialized "java/lang/Math") (List.mem_of_getElem? (i := 5) (by decide +kernel))) (hts (.code Lib.Math.max.name Lib.Math.max.code 2 (some .int)) (List.mem_of_getElem? (i := 6) (by decide +kernel))) (Nat.le_of_ble_eq_true rfl) (Nat.le_of_ble_eq_true rfl) (Nat.le_of_ble_eq_true rfl) (Nat.le_of_ble_eq_true rfl) dX5_add_16 ?_
  refine lv_as (y := nI (max y v)) (mmax_nat (by omega) (by omega)) ?_
  refine pp_put (ci := 5) (v := .int (nI (max y v))) (ty := .int) (C := RX5) (T := TX5) (N := 3) hx hb hts inX5_add_5 tyX5 tyX5_ok nmX5 hown hK h_t hS (rng_in (by omega)) rfl 1 (by decide) (hts (.fieldLink RX5 13 "GateLedger$Tally" "lastTime" "I") (List.mem_of_getElem? (i := 2) (by decide +kernel))) (fun _ h9 => h9) rfl (by decide +kernel) rfl rfl (Nat.le_of_ble_eq_true rfl) dX5_add_19 (fun H locs hP9 hk2 _ hS => ?_)
  have h_t : PP G ([(a i, .inr (5, [.int (nI (x + u)), .int (nI (max y v)), .int (nI z)]))]) H := hP9
  refine lv_aload_n hx hb dX5_add_22 rfl (lv_at hl 0 rfl) ?_
  refine lv_dup hx hb dX5_add_23 rfl ?_
  refine va_get (D := G.1) (ci := 5) (v := .int (nI z)) (C := RX5) (T := TX5) (N := 3) hx hb hts inX5_add_5 hown hK h_t 0 rfl rfl 2 (by decide) (hts (.fieldLink RX5 16 "GateLedger$Tally" "totalOfOuts" "I") (List.mem_of_getElem? (i := 7) (by decide +kernel))) (fun _ h9 => h9) rfl dX5_add_24 ?_
  refine lv_iload_n hx hb dX5_add_27 rfl (lv_at hl 3 rfl) ?_
  refine lv_if_eq (tgt := 35) hx hb dX5_add_28 (by decide) (fun c28 => ?_) (fun c28 => ?_)
  · skip
    have c28 := bI_0.mp c28
    refine lv_iconst (v := nI 0) hx hb dX5_add_35 (by decide) ?_
    refine lv_iadd hx hb dX5_add_36 ?_
    refine lv_as (nI_add _ _) ?_
    refine pp_put (ci := 5) (v := .int (nI (z + 0))) (ty := .int) (C := RX5) (T := TX5) (N := 3) hx hb hts inX5_add_5 tyX5 tyX5_ok nmX5 hown hK h_t hS (rng_in (by omega)) rfl 2 (by decide) (hts (.fieldLink RX5 16 "GateLedger$Tally" "totalOfOuts" "I") (List.mem_of_getElem? (i := 7) (by decide +kernel))) (fun _ h9 => h9) rfl (by decide +kernel) rfl rfl (Nat.le_of_ble_eq_true rfl) dX5_add_37 (fun H locs hP9 hk3 _ hS => ?_)
    have h_t : PP G ([(a i, .inr (5, [.int (nI (x + u)), .int (nI (max y v)), .int (nI (z + 0))]))]) H := hP9
    exact en_wv () hx hb hr hlocks hS (trivial) (by show PP G (talW a i (x + u) (max y v) (z + if q then u else 0)) _; first | (rw [if_pos c28]; exact h_t) | (rw [if_neg c28]; exact h_t)) dX5_add_40
  · skip
    have c28 := bI_1 c28
    refine lv_iload_n hx hb dX5_add_31 rfl (lv_at hl 1 rfl) ?_
    refine lv_goto (tgt := 36) hx hb dX5_add_32 (by decide) ?_
    refine lv_iadd hx hb dX5_add_36 ?_
    refine lv_as (nI_add _ _) ?_
    refine pp_put (ci := 5) (v := .int (nI (z + u))) (ty := .int) (C := RX5) (T := TX5) (N := 3) hx hb hts inX5_add_5 tyX5 tyX5_ok nmX5 hown hK h_t hS (rng_in (by omega)) rfl 2 (by decide) (hts (.fieldLink RX5 16 "GateLedger$Tally" "totalOfOuts" "I") (List.mem_of_getElem? (i := 7) (by decide +kernel))) (fun _ h9 => h9) rfl (by decide +kernel) rfl rfl (Nat.le_of_ble_eq_true rfl) dX5_add_37 (fun H locs hP9 hk4 _ hS => ?_)
    have h_t : PP G ([(a i, .inr (5, [.int (nI (x + u)), .int (nI (max y v)), .int (nI (z + u))]))]) H := hP9
    exact en_wv () hx hb hr hlocks hS (trivial) (by show PP G (talW a i (x + u) (max y v) (z + if q then u else 0)) _; first | (rw [if_pos c28]; exact h_t) | (rw [if_neg c28]; exact h_t)) dX5_add_40
set_option maxRecDepth 20000 in
theorem inX5_told_5 : ∀ w ∈ u_ws RX5 TX5 3, w ∈ wsX5_told := by decide +kernel
set_option maxHeartbeats 4000000 in
set_option maxRecDepth 100000 in
/-- Tally.told -/
theorem c_X5_told (l : Launch) (G : GG) (a : Nat → Nat) (i x y z w0 : Nat) (hw : w0 < 2 ^ 31) : Met l yX5_told wsX5_told ({ frames := 0, cells := 0, slots := 0, locals := 0 } : Room) (PcB G [.ref (a i), .int (nI w0)] (fun H => PP G (talW a i x y z) H)) (vp_Si (fun r => r = nI (if w0 = 0 then x else if w0 = 1 then y else z))) 0 0 (fun _ => False) := by
  refine Met.ofW (cc := cX5_told) (maxL := 2) (ret := (some .int)) (by decide) rfl ?_
  intro p e s m args below meth c s₁ B hml hv
  obtain ⟨rfl, hB, hK, hNW⟩ := hv
  have hx := B.exec
  have hb := B.bytes
  have hr := B.returns
  have hts := atoms_spec (ws := wsX5_told) B.pre
  have hown : s.vm.findClass RX5 = some m.cls := findClass_of_methodNamed B.named
  have hlocks := B.notSynchronized
  have FX : CallFix p m c cX5_told 2 s ([.ref (a i), .int (nI w0)] : List Value).toArray wsX5_told RX5 := ⟨hx, hb, hml, hown, hts⟩
  have hl := lv_entry ([.ref (a i), .int (nI w0)]) (n := 2) (Nat.le_of_ble_eq_true rfl)
  rw [lg_entry_eq]
  generalize (lg_sl ([.ref (a i), .int (nI w0)]) ++ List.replicate (2 - (lg_sl ([.ref (a i), .int (nI w0)])).length) Slot.unset).toArray = ls at hl ⊢
  have hl : lv_has ls 2 [(0, .ref (a i)), (1, .int (nI w0))] := hl
  have h_t := hB
  refine lv_iload_n hx hb dX5_told_0 rfl (lv_at hl 1 rfl) ?_
  rcases (show w0 = 0 ∨ w0 = 1 ∨ ¬ (w0 = 0 ∨ w0 = 1) by omega) with hc | hc | hc
  · skip
    subst hc
    refine lv_lookup (tgt := 28) hx hb dX5_told_1 rfl (off := 27) (by decide) (by decide) ?_
    refine lv_aload_n hx hb dX5_told_28 rfl (lv_at hl 0 rfl) ?_
    refine va_get (D := G.1) (ci := 5) (v := .int (nI x)) (C := RX5) (T := TX5) (N := 3) hx hb hts inX5_told_5 hown hK h_t 0 rfl rfl 0 (by decide) (hts (.fieldLink RX5 7 "GateLedger$Tally" "total" "I") (List.mem_of_getElem? (i := 1) (by decide +kernel))) (fun _ h9 => h9) rfl dX5_told_29 ?_
    exact en_i hx hb hr hlocks (by first | rfl | (rw [if_neg (by omega), if_neg (by omega)])) dX5_told_32
  · skip
    subst hc
    refine lv_lookup (tgt := 33) hx hb dX5_told_1 rfl (off := 32) (by decide) (by decide) ?_
    refine lv_aload_n hx hb dX5_told_33 rfl (lv_at hl 0 rfl) ?_
    refine va_get (D := G.1) (ci := 5) (v := .int (nI y)) (C := RX5) (T := TX5) (N := 3) hx hb hts inX5_told_5 hown hK h_t 0 rfl rfl 1 (by decide) (hts (.fieldLink RX5 13 "GateLedger$Tally" "lastTime" "I") (List.mem_of_getElem? (i := 2) (by decide +kernel))) (fun _ h9 => h9) rfl dX5_told_34 ?_
    exact en_i hx hb hr hlocks (by first | rfl | (rw [if_neg (by omega), if_neg (by omega)])) dX5_told_37
  · skip
    refine lv_lookup (tgt := 38) hx hb dX5_told_1 rfl (off := 37) (sw_out (by omega) hc) (by decide) ?_
    refine lv_aload_n hx hb dX5_told_38 rfl (lv_at hl 0 rfl) ?_
    refine va_get (D := G.1) (ci := 5) (v := .int (nI z)) (C := RX5) (T := TX5) (N := 3) hx hb hts inX5_told_5 hown hK h_t 0 rfl rfl 2 (by decide) (hts (.fieldLink RX5 16 "GateLedger$Tally" "totalOfOuts" "I") (List.mem_of_getElem? (i := 3) (by decide +kernel))) (fun _ h9 => h9) rfl dX5_told_39 ?_
    exact en_i hx hb hr hlocks (by first | rfl | (rw [if_neg (by omega), if_neg (by omega)])) dX5_told_42
