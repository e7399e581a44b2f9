set_option maxRecDepth 20000 in
theorem inX0_begin_0 : ∀ w ∈ u_ws RX0 TX0 5, w ∈ wsX0_begin := by decide +kernel
set_option maxHeartbeats 4000000 in
set_option maxRecDepth 100000 in
/-- Audit.begin -/
theorem c_X0_begin (l : Launch) (G : GG) (a : Nat → Nat) (ha : Inj a) (i : Nat) (x9 y9 z9 v9 u9 : Int32)  : Met l yX0_begin wsX0_begin ({ frames := 0, cells := 0, slots := 0, locals := 0 } : Room) (PcB G [.ref (a i)] (fun H => PP G (audW a i x9 y9 z9 v9 u9) H)) (QV (fun _ : Unit => True) (fun _ H => PP G (audW a i (nI 0) (nI 0) (nI 0) (-1) (nI 0)) H) (rng a i 1)) 0 0 (rng a i 1) := by
  refine Met.ofW (cc := cX0_begin) (maxL := 1) (ret := none) (by decide) rfl ?_
  intro p e s m args below meth c s₁ B hml hv
  obtain ⟨rfl, hB, hK, hNW⟩ := hv
  have hx := B.exec
  have hb := B.bytes
  have hr := B.returns
  have hts := atoms_spec (ws := wsX0_begin) B.pre
  have hown : s.vm.findClass RX0 = some m.cls := findClass_of_methodNamed B.named
  have hlocks := B.notSynchronized
  have FX : CallFix p m c cX0_begin 1 s ([.ref (a i)] : List Value).toArray wsX0_begin RX0 := ⟨hx, hb, hml, hown, hts⟩
  have hl := lv_entry ([.ref (a i)]) (n := 1) (Nat.le_of_ble_eq_true rfl)
  rw [lg_entry_eq]
  generalize (lg_sl ([.ref (a i)]) ++ List.replicate (1 - (lg_sl ([.ref (a i)])).length) Slot.unset).toArray = ls at hl ⊢
  have hl : lv_has ls 1 [(0, .ref (a i))] := hl
  have h_q := hB
  have hS : va_S (rng a i 1) s.heap s.heap [] := va_S.rf
  refine lv_aload_n hx hb dX0_begin_0 rfl (lv_at hl 0 rfl) ?_
  refine lv_iconst (v := nI 0) hx hb dX0_begin_1 (by decide) ?_
  refine pp_put (ci := 0) (v := .int (nI 0)) (ty := .int) (C := RX0) (T := TX0) (N := 5) hx hb hts inX0_begin_0 tyX0 tyX0_ok nmX0 hown hK h_q hS (rng_in (by omega)) rfl 0 (by decide) (hts (.fieldLink RX0 48 "GateLedger$Audit" "offTotal" "I") (List.mem_of_getElem? (i := 1) (by decide +kernel))) (fun _ h9 => h9) rfl (by decide +kernel) rfl rfl (Nat.le_of_ble_eq_true rfl) dX0_begin_2 (fun H locs hP9 hk1 _ hS => ?_)
  have h_q : PP G ([(a i, .inr (0, [.int (nI 0), .int y9, .int z9, .int v9, .int u9]))]) H := hP9
  refine lv_aload_n hx hb dX0_begin_5 rfl (lv_at hl 0 rfl) ?_
  refine lv_iconst (v := nI 0) hx hb dX0_begin_6 (by decide) ?_
  refine pp_put (ci := 0) (v := .int (nI 0)) (ty := .int) (C := RX0) (T := TX0) (N := 5) hx hb hts inX0_begin_0 tyX0 tyX0_ok nmX0 hown hK h_q hS (rng_in (by omega)) rfl 1 (by decide) (hts (.fieldLink RX0 52 "GateLedger$Audit" "greatestGap" "I") (List.mem_of_getElem? (i := 2) (by decide +kernel))) (fun _ h9 => h9) rfl (by decide +kernel) rfl rfl (Nat.le_of_ble_eq_true rfl) dX0_begin_7 (fun H locs hP9 hk2 _ hS => ?_)
  have h_q : PP G ([(a i, .inr (0, [.int (nI 0), .int (nI 0), .int z9, .int v9, .int u9]))]) H := hP9
  refine lv_aload_n hx hb dX0_begin_10 rfl (lv_at hl 0 rfl) ?_
  refine lv_iconst (v := nI 0) hx hb dX0_begin_11 (by decide) ?_
  refine pp_put (ci := 0) (v := .int (nI 0)) (ty := .int) (C := RX0) (T := TX0) (N := 5) hx hb hts inX0_begin_0 tyX0 tyX0_ok nmX0 hown hK h_q hS (rng_in (by omega)) rfl 2 (by decide) (hts (.fieldLink RX0 55 "GateLedger$Audit" "gapTotal" "I") (List.mem_of_getElem? (i := 3) (by decide +kernel))) (fun _ h9 => h9) rfl (by decide +kernel) rfl rfl (Nat.le_of_ble_eq_true rfl) dX0_begin_12 (fun H locs hP9 hk3 _ hS => ?_)
  have h_q : PP G ([(a i, .inr (0, [.int (nI 0), .int (nI 0), .int (nI 0), .int v9, .int u9]))]) H := hP9
  refine lv_aload_n hx hb dX0_begin_15 rfl (lv_at hl 0 rfl) ?_
  refine lv_iconst (v := -1) hx hb dX0_begin_16 (by decide) ?_
  refine pp_put (ci := 0) (v := .int (-1)) (ty := .int) (C := RX0) (T := TX0) (N := 5) hx hb hts inX0_begin_0 tyX0 tyX0_ok nmX0 hown hK h_q hS (rng_in (by omega)) rfl 3 (by decide) (hts (.fieldLink RX0 58 "GateLedger$Audit" "leastOff" "I") (List.mem_of_getElem? (i := 4) (by decide +kernel))) (fun _ h9 => h9) rfl (by decide +kernel) rfl rfl (Nat.le_of_ble_eq_true rfl) dX0_begin_17 (fun H locs hP9 hk4 _ hS => ?_)
  have h_q : PP G ([(a i, .inr (0, [.int (nI 0), .int (nI 0), .int (nI 0), .int (-1), .int u9]))]) H := hP9
  refine lv_aload_n hx hb dX0_begin_20 rfl (lv_at hl 0 rfl) ?_
  refine lv_iconst (v := nI 0) hx hb dX0_begin_21 (by decide) ?_
  refine pp_put (ci := 0) (v := .int (nI 0)) (ty := .int) (C := RX0) (T := TX0) (N := 5) hx hb hts inX0_begin_0 tyX0 tyX0_ok nmX0 hown hK h_q hS (rng_in (by omega)) rfl 4 (by decide) (hts (.fieldLink RX0 61 "GateLedger$Audit" "unseenTotal" "I") (List.mem_of_getElem? (i := 5) (by decide +kernel))) (fun _ h9 => h9) rfl (by decide +kernel) rfl rfl (Nat.le_of_ble_eq_true rfl) dX0_begin_22 (fun H locs hP9 hk5 _ hS => ?_)
  have h_q : PP G ([(a i, .inr (0, [.int (nI 0), .int (nI 0), .int (nI 0), .int (-1), .int (nI 0)]))]) H := hP9
  exact en_wv () hx hb hr hlocks hS (trivial) (h_q) dX0_begin_25
set_option maxRecDepth 20000 in
theorem inX0_told_0 : ∀ w ∈ u_ws RX0 TX0 5, w ∈ wsX0_told := by decide +kernel
set_option maxHeartbeats 4000000 in
set_option maxRecDepth 100000 in
/-- Audit.told -/
theorem c_X0_told (l : Launch) (G : GG) (a : Nat → Nat) (i : Nat) (x9 y9 z9 v9 u9 : Int32) (w9 : Nat) (hw : w9 < 2 ^ 31) : Met l yX0_told wsX0_told ({ frames := 0, cells := 0, slots := 0, locals := 0 } : Room) (PcB G [.ref (a i), .int (nI w9)] (fun H => PP G (audW a i x9 y9 z9 v9 u9) H)) (vp_Si (fun r => r = (if w9 = 0 then x9 else if w9 = 1 then y9 else if w9 = 2 then z9 else v9))) 0 0 (fun _ => False) := by
  refine Met.ofW (cc := cX0_told) (maxL := 2) (ret := (some .int)) (by decide) rfl ?_
  intro p e s m args below meth c s₁ B hml hv
  obtain ⟨rfl, hB, hK, hNW⟩ := hv
  have hx := B.exec
  have hb := B.bytes
  have hr := B.returns
  have hts := atoms_spec (ws := wsX0_told) B.pre
  have hown : s.vm.findClass RX0 = some m.cls := findClass_of_methodNamed B.named
  have hlocks := B.notSynchronized
  have FX : CallFix p m c cX0_told 2 s ([.ref (a i), .int (nI w9)] : List Value).toArray wsX0_told RX0 := ⟨hx, hb, hml, hown, hts⟩
  have hl := lv_entry ([.ref (a i), .int (nI w9)]) (n := 2) (Nat.le_of_ble_eq_true rfl)
  rw [lg_entry_eq]
  generalize (lg_sl ([.ref (a i), .int (nI w9)]) ++ List.replicate (2 - (lg_sl ([.ref (a i), .int (nI w9)])).length) Slot.unset).toArray = ls at hl ⊢
  have hl : lv_has ls 2 [(0, .ref (a i)), (1, .int (nI w9))] := hl
  have h_q := hB
  refine lv_iload_n hx hb dX0_told_0 rfl (lv_at hl 1 rfl) ?_
  rcases (show w9 = 0 ∨ w9 = 1 ∨ w9 = 2 ∨ ¬ (w9 = 0 ∨ w9 = 1 ∨ w9 = 2) by omega) with hc | hc | hc | hc
  · skip
    subst hc
    refine lv_tableIn (tgt := 28) hx hb dX0_told_1 (by decide) (by decide) (off := 27) (by decide) (by decide) ?_
    refine lv_aload_n hx hb dX0_told_28 rfl (lv_at hl 0 rfl) ?_
    refine va_get (D := G.1) (ci := 0) (v := .int x9) (C := RX0) (T := TX0) (N := 5) hx hb hts inX0_told_0 hown hK h_q 0 rfl rfl 0 (by decide) (hts (.fieldLink RX0 48 "GateLedger$Audit" "offTotal" "I") (List.mem_of_getElem? (i := 1) (by decide +kernel))) (fun _ h9 => h9) rfl dX0_told_29 ?_
    exact en_i hx hb hr hlocks (by first | rfl | (rw [if_neg (by omega), if_neg (by omega), if_neg (by omega)])) dX0_told_32
  · skip
    subst hc
    refine lv_tableIn (tgt := 33) hx hb dX0_told_1 (by decide) (by decide) (off := 32) (by decide) (by decide) ?_
    refine lv_aload_n hx hb dX0_told_33 rfl (lv_at hl 0 rfl) ?_
    refine va_get (D := G.1) (ci := 0) (v := .int y9) (C := RX0) (T := TX0) (N := 5) hx hb hts inX0_told_0 hown hK h_q 0 rfl rfl 1 (by decide) (hts (.fieldLink RX0 52 "GateLedger$Audit" "greatestGap" "I") (List.mem_of_getElem? (i := 2) (by decide +kernel))) (fun _ h9 => h9) rfl dX0_told_34 ?_
    exact en_i hx hb hr hlocks (by first | rfl | (rw [if_neg (by omega), if_neg (by omega), if_neg (by omega)])) dX0_told_37
  · skip
    subst hc
    refine lv_tableIn (tgt := 38) hx hb dX0_told_1 (by decide) (by decide) (off := 37) (by decide) (by decide) ?_
    refine lv_aload_n hx hb dX0_told_38 rfl (lv_at hl 0 rfl) ?_
    refine va_get (D := G.1) (ci := 0) (v := .int z9) (C := RX0) (T := TX0) (N := 5) hx hb hts inX0_told_0 hown hK h_q 0 rfl rfl 2 (by decide) (hts (.fieldLink RX0 55 "GateLedger$Audit" "gapTotal" "I") (List.mem_of_getElem? (i := 3) (by decide +kernel))) (fun _ h9 => h9) rfl dX0_told_39 ?_
    exact en_i hx hb hr hlocks (by first | rfl | (rw [if_neg (by omega), if_neg (by omega), if_neg (by omega)])) dX0_told_42
  · skip
    refine lv_tableOut (tgt := 43) hx hb dX0_told_1 (Or.inr (by rw [nI_toInt (by omega)]; omega)) (by decide) ?_
    refine lv_aload_n hx hb dX0_told_43 rfl (lv_at hl 0 rfl) ?_
    refine va_get (D := G.1) (ci := 0) (v := .int v9) (C := RX0) (T := TX0) (N := 5) hx hb hts inX0_told_0 hown hK h_q 0 rfl rfl 3 (by decide) (hts (.fieldLink RX0 58 "GateLedger$Audit" "leastOff" "I") (List.mem_of_getElem? (i := 4) (by decide +kernel))) (fun _ h9 => h9) rfl dX0_told_44 ?_
    exact en_i hx hb hr hlocks (by first | rfl | (rw [if_neg (by omega), if_neg (by omega), if_neg (by omega)])) dX0_told_47
set_option maxRecDepth 20000 in
theorem inX0_unseenCount_0 : ∀ w ∈ u_ws RX0 TX0 5, w ∈ wsX0_unseenCount := by decide +kernel
set_option maxHeartbeats 4000000 in
set_option maxRecDepth 100000 in
/-- Audit.unseenCount -/
theorem c_X0_unseenCount (l : Launch) (G : GG) (a : Nat → Nat) (i : Nat) (x9 y9 z9 v9 u9 : Int32)  : Met l yX0_unseenCount wsX0_unseenCount ({ frames := 0, cells := 0, slots := 0, locals := 0 } : Room) (PcB G [.ref (a i)] (fun H => PP G (audW a i x9 y9 z9 v9 u9) H)) (vp_Si (fun r => r = u9)) 0 0 (fun _ => False) := by
  refine Met.ofW (cc := cX0_unseenCount) (maxL := 1) (ret := (some .int)) (by decide) rfl ?_
  intro p e s m args below meth c s₁ B hml hv
  obtain ⟨rfl, hB, hK, hNW⟩ := hv
  have hx := B.exec
  have hb := B.bytes
  have hr := B.returns
  have hts := atoms_spec (ws := wsX0_unseenCount) B.pre
  have hown : s.vm.findClass RX0 = some m.cls := findClass_of_methodNamed B.named
  have hlocks := B.notSynchronized
  have FX : CallFix p m c cX0_unseenCount 1 s ([.ref (a i)] : List Value).toArray wsX0_unseenCount RX0 := ⟨hx, hb, hml, hown, hts⟩
  have hl := lv_entry ([.ref (a i)]) (n := 1) (Nat.le_of_ble_eq_true rfl)
  rw [lg_entry_eq]
  generalize (lg_sl ([.ref (a i)]) ++ List.replicate (1 - (lg_sl ([.ref (a i)])).length) Slot.unset).toArray = ls at hl ⊢
  have hl : lv_has ls 1 [(0, .ref (a i))] := hl
  have h_q := hB
  refine lv_aload_n hx hb dX0_unseenCount_0 rfl (lv_at hl 0 rfl) ?_
  refine va_get (D := G.1) (ci := 0) (v := .int u9) (C := RX0) (T := TX0) (N := 5) hx hb hts inX0_unseenCount_0 hown hK h_q 0 rfl rfl 4 (by decide) (hts (.fieldLink RX0 61 "GateLedger$Audit" "unseenTotal" "I") (List.mem_of_getElem? (i := 1) (by decide +kernel))) (fun _ h9 => h9) rfl dX0_unseenCount_1 ?_
  exact en_i hx hb hr hlocks (rfl) dX0_unseenCount_4
set_option maxHeartbeats 4000000 in
set_option maxRecDepth 100000 in
/-- Audit.dueFor -/
theorem c_X0_dueFor (l : Launch) (G : GG) (op n h9 : Nat) (hop : op < 2 ^ 31) (hn : n < 2 ^ 31) (hh : h9 < 31) : Met l yX0_dueFor wsX0_dueFor ({ frames := 0, cells := 0, slots := 0, locals := 0 } : Room) (PcB G [.int (nI op), .int (nI n), .int (nI h9)] (fun H => True)) (vp_Si (fun r => r = nI (dueN op h9 n))) 0 0 (fun _ => False) := by
  refine Met.ofW (cc := cX0_dueFor) (maxL := 5) (ret := (some .int)) (by decide) rfl ?_
  intro p e s m args below meth c s₁ B hml hv
  obtain ⟨rfl, hB, hK, hNW⟩ := hv
  have hx := B.exec
  have hb := B.bytes
  have hr := B.returns
  have hts := atoms_spec (ws := wsX0_dueFor) B.pre
  have hown : s.vm.findClass RX0 = some m.cls := findClass_of_methodNamed B.named
  have hlocks := B.notSynchronized
  have FX : CallFix p m c cX0_dueFor 5 s ([.int (nI op), .int (nI n), .int (nI h9)] : List Value).toArray wsX0_dueFor RX0 := ⟨hx, hb, hml, hown, hts⟩
  have hl := lv_entry ([.int (nI op), .int (nI n), .int (nI h9)]) (n := 5) (Nat.le_of_ble_eq_true rfl)
  rw [lg_entry_eq]
  generalize (lg_sl ([.int (nI op), .int (nI n), .int (nI h9)]) ++ List.replicate (5 - (lg_sl ([.int (nI op), .int (nI n), .int (nI h9)])).length) Slot.unset).toArray = ls at hl ⊢
  have hl : lv_has ls 5 [(0, .int (nI op)), (1, .int (nI n)), (2, .int (nI h9))] := hl
  refine lv_iload_n hx hb dX0_dueFor_0 rfl (lv_at hl 1 rfl) ?_
  refine lv_iconst (v := nI 1) hx hb dX0_dueFor_1 (by decide) ?_
  refine lv_iload_n hx hb dX0_dueFor_2 rfl (lv_at hl 2 rfl) ?_
  refine lv_ishl hx hb dX0_dueFor_3 ?_
  refine lv_as (y := nI (2 ^ h9)) (shl1 (by omega)) ?_
  refine lv_iconst (v := nI 1) hx hb dX0_dueFor_4 (by decide) ?_
  refine lv_isub hx hb dX0_dueFor_5 ?_
  refine lv_iand hx hb dX0_dueFor_6 ?_
  refine lv_as (y := nI (n % 2 ^ h9)) (mskN hn (by omega)) ?_
  refine lv_istore_n (lv' := [(3, .int (nI (n % 2 ^ h9))), (0, .int (nI op)), (1, .int (nI n)), (2, .int (nI h9))]) hx hb dX0_dueFor_7 rfl hl (by decide) rfl (fun ls hl => ?_)
  refine lv_iload_n hx hb dX0_dueFor_8 rfl (lv_at hl 2 rfl) ?_
  refine lv_iload_n hx hb dX0_dueFor_9 rfl (lv_at hl 3 rfl) ?_
  refine lv_ishr hx hb dX0_dueFor_10 ?_
  refine lv_as (y := nI (n / 2 ^ h9)) (shrN hn (by omega)) ?_
  refine lv_istore (lv' := [(4, .int (nI (n / 2 ^ h9))), (3, .int (nI (n % 2 ^ h9))), (0, .int (nI op)), (1, .int (nI n)), (2, .int (nI h9))]) hx hb dX0_dueFor_11 hl (by decide) rfl (fun ls hl => ?_)
  refine lv_iload_n hx hb dX0_dueFor_13 rfl (lv_at hl 2 rfl) ?_
  refine lv_if_ne (tgt := 24) hx hb dX0_dueFor_14 (by decide) (fun c14 => ?_) (fun c14 => ?_)
  · skip
    have c14 := cv_ne (by omega) (by omega) (show ¬ nI op = nI 0 from c14)
    refine lv_iload_n hx hb dX0_dueFor_24 rfl (lv_at hl 1 rfl) ?_
    refine lv_iload hx hb dX0_dueFor_25 (lv_at hl 0 rfl) ?_
    refine lv_imul hx hb dX0_dueFor_27 ?_
    refine lv_as (pk_mul _ _) ?_
    exact en_i hx hb hr hlocks (by unfold dueN; first | (rw [if_pos c14]) | (rw [if_neg c14])) dX0_dueFor_28
  · skip
    have c14 := cv_eq (by omega) (by omega) (show nI op = nI 0 from c14)
    refine lv_iload_n hx hb dX0_dueFor_17 rfl (lv_at hl 1 rfl) ?_
    refine lv_iload hx hb dX0_dueFor_18 (lv_at hl 0 rfl) ?_
    refine lv_iadd hx hb dX0_dueFor_20 ?_
    refine lv_as (nI_add _ _) ?_
    refine lv_goto (tgt := 28) hx hb dX0_dueFor_21 (by decide) ?_
    exact en_i hx hb hr hlocks (by unfold dueN; first | (rw [if_pos c14]) | (rw [if_neg c14])) dX0_dueFor_28
set_option maxRecDepth 20000 in
theorem inX0_note_0 : ∀ w ∈ u_ws RX0 TX0 5, w ∈ wsX0_note := by decide +kernel
set_option maxHeartbeats 4000000 in
set_option maxRecDepth 100000 in
/-- Audit.note -/
theorem c_X0_note (l : Launch) (G : GG) (a : Nat → Nat) (ha : Inj a) (i x8 n9 mo : Nat) (y9 z9 v9 u9 g9 : Int32) (hx8 : x8 < 2 ^ 30) (hmo : 1 ≤ mo ∧ mo < 2 ^ 31) : Met l yX0_note wsX0_note ({ frames := 1, cells := 0, slots := 0, locals := 21 } : Room) (PcB G [.ref (a i), .int (nI n9), .int g9, .int (nI mo)] (fun H => PP G (audW a i (nI x8) y9 z9 v9 u9) H)) (QV (fun _ : Unit => True) (fun _ H => PP G (audW a i (nI (x8 + 1)) (if y9 < g9 then g9 else y9) (z9 + g9) (if x8 = 0 then nI n9 else v9) (if g9 - g9 / nI mo * nI mo = 0 then u9 + nI 1 else u9)) H) (rng a i 1)) 0 0 (rng a i 1) := by
  refine Met.ofW (cc := cX0_note) (maxL := 4) (ret := none) (by decide) rfl ?_
  intro p e s m args below meth c s₁ B hml hv
  obtain ⟨rfl, hB, hK, hNW⟩ := hv
  have hx := B.exec
  have hb := B.bytes
  have hr := B.returns
  have hts := atoms_spec (ws := wsX0_note) B.pre
  have hown : s.vm.findClass RX0 = some m.cls := findClass_of_methodNamed B.named
  have hlocks := B.notSynchronized
  have FX : CallFix p m c cX0_note 4 s ([.ref (a i), .int (nI n9), .int g9, .int (nI mo)] : List Value).toArray wsX0_note RX0 := ⟨hx, hb, hml, hown, hts⟩
  have hl := lv_entry ([.ref (a i), .int (nI n9), .int g9, .int (nI mo)]) (n := 4) (Nat.le_of_ble_eq_true rfl)
  rw [lg_entry_eq]
  generalize (lg_sl ([.ref (a i), .int (nI n9), .int g9, .int (nI mo)]) ++ List.replicate (4 - (lg_sl ([.ref (a i), .int (nI n9), .int g9, .int (nI mo)])).length) Slot.unset).toArray = ls at hl ⊢
  have hl : lv_has ls 4 [(0, .ref (a i)), (1, .int (nI n9)), (2, .int g9), (3, .int (nI mo))] := hl
  have h_q := hB
  have hS : va_S (rng a i 1) s.heap s.heap [] := va_S.rf
  refine lv_aload_n hx hb dX0_note_0 rfl (lv_at hl 0 rfl) ?_
  refine va_get (D := G.1) (ci := 0) (v := .int (nI x8)) (C := RX0) (T := TX0) (N := 5) hx hb hts inX0_note_0 hown hK h_q 0 rfl rfl 0 (by decide) (hts (.fieldLink RX0 48 "GateLedger$Audit" "offTotal" "I") (List.mem_of_getElem? (i := 1) (by decide +kernel))) (fun _ h9 => h9) rfl dX0_note_1 ?_
  refine lv_if_ne (tgt := 12) hx hb dX0_note_4 (by decide) (fun c4 => ?_) (fun c4 => ?_)
  · skip
    have c4 := cv_ne (by omega) (by omega) (show ¬ nI x8 = nI 0 from c4)
    refine lv_aload_n hx hb dX0_note_12 rfl (lv_at hl 0 rfl) ?_
    refine lv_dup hx hb dX0_note_13 rfl ?_
    refine va_get (D := G.1) (ci := 0) (v := .int (nI x8)) (C := RX0) (T := TX0) (N := 5) hx hb hts inX0_note_0 hown hK h_q 0 rfl rfl 0 (by decide) (hts (.fieldLink RX0 48 "GateLedger$Audit" "offTotal" "I") (List.mem_of_getElem? (i := 1) (by decide +kernel))) (fun _ h9 => h9) rfl dX0_note_14 ?_
    refine lv_iconst (v := nI 1) hx hb dX0_note_17 (by decide) ?_
    refine lv_iadd hx hb dX0_note_18 ?_
    refine lv_as (nI_add _ _) ?_
    refine pp_put (ci := 0) (v := .int (nI (x8 + 1))) (ty := .int) (C := RX0) (T := TX0) (N := 5) hx hb hts inX0_note_0 tyX0 tyX0_ok nmX0 hown hK h_q hS (rng_in (by omega)) rfl 0 (by decide) (hts (.fieldLink RX0 48 "GateLedger$Audit" "offTotal" "I") (List.mem_of_getElem? (i := 1) (by decide +kernel))) (fun _ h9 => h9) rfl (by decide +kernel) rfl rfl (Nat.le_of_ble_eq_true rfl) dX0_note_19 (fun H locs hP9 hk1 _ hS => ?_)
    have h_q : PP G ([(a i, .inr (0, [.int (nI (x8 + 1)), .int y9, .int z9, .int v9, .int u9]))]) H := hP9
    refine lv_aload_n hx hb dX0_note_22 rfl (lv_at hl 0 rfl) ?_
    refine lv_aload_n hx hb dX0_note_23 rfl (lv_at hl 0 rfl) ?_
    refine va_get (D := G.1) (ci := 0) (v := .int y9) (C := RX0) (T := TX0) (N := 5) hx hb hts inX0_note_0 hown hK h_q 0 rfl rfl 1 (by decide) (hts (.fieldLink RX0 52 "GateLedger$Audit" "greatestGap" "I") (List.mem_of_getElem? (i := 3) (by decide +kernel))) (fun _ h9 => h9) rfl dX0_note_24 ?_
    refine lv_iload_n hx hb dX0_note_27 rfl (lv_at hl 2 rfl) ?_
    refine va_mmax hx hb (hml.trans hl.1.symm) hown (hts (.methodLink RX0 64 Lib.Math.max.name) (List.mem_of_getElem? (i := 4) (by decide +kernel))) (hts (.static Lib.Math.max.name) (List.mem_of_getElem? (i := 5) (by decide +kernel))) (hts (.initialized "java/lang/Math") (List.mem_of_getElem? (i := 6) (by decide +kernel))) (hts (.code Lib.Math.max.name Lib.Math.max.code 2 (some .int)) (List.mem_of_getElem? (i := 7) (by decide +kernel))) (Nat.le_of_ble_eq_true rfl) (Nat.le_of_ble_eq_true rfl) (Nat.le_of_ble_eq_true rfl) (Nat.le_of_ble_eq_true rfl) dX0_note_28 ?_
    refine pp_put (ci := 0) (v := .int (if y9 < g9 then g9 else y9)) (ty := .int) (C := RX0) (T := TX0) (N := 5) hx hb hts inX0_note_0 tyX0 tyX0_ok nmX0 hown hK h_q hS (rng_in (by omega)) rfl 1 (by decide) (hts (.fieldLink RX0 52 "GateLedger$Audit" "greatestGap" "I") (List.mem_of_getElem? (i := 3) (by decide +kernel))) (fun _ h9 => h9) rfl (by decide +kernel) rfl rfl (Nat.le_of_ble_eq_true rfl) dX0_note_31 (fun H locs hP9 hk2 _ hS => ?_)
    have h_q : PP G ([(a i, .inr (0, [.int (nI (x8 + 1)), .int (if y9 < g9 then g9 else y9), .int z9, .int v9, .int u9]))]) H := hP9
    refine lv_aload_n hx hb dX0_note_34 rfl (lv_at hl 0 rfl) ?_
    refine lv_dup hx hb dX0_note_35 rfl ?_
    refine va_get (D := G.1) (ci := 0) (v := .int z9) (C := RX0) (T := TX0) (N := 5) hx hb hts inX0_note_0 hown hK h_q 0 rfl rfl 2 (by decide) (hts (.fieldLink RX0 55 "GateLedger$Audit" "gapTotal" "I") (List.mem_of_getElem? (i := 8) (by decide +kernel))) (fun _ h9 => h9) rfl dX0_note_36 ?_
    refine lv_iload_n hx hb dX0_note_39 rfl (lv_at hl 2 rfl) ?_
    refine lv_iadd hx hb dX0_note_40 ?_
    refine pp_put (ci := 0) (v := .int (z9 + g9)) (ty := .int) (C := RX0) (T := TX0) (N := 5) hx hb hts inX0_note_0 tyX0 tyX0_ok nmX0 hown hK h_q hS (rng_in (by omega)) rfl 2 (by decide) (hts (.fieldLink RX0 55 "GateLedger$Audit" "gapTotal" "I") (List.mem_of_getElem? (i := 8) (by decide +kernel))) (fun _ h9 => h9) rfl (by decide +kernel) rfl rfl (Nat.le_of_ble_eq_true rfl) dX0_note_41 (fun H locs hP9 hk3 _ hS => ?_)
    have h_q : PP G ([(a i, .inr (0, [.int (nI (x8 + 1)), .int (if y9 < g9 then g9 else y9), .int (z9 + g9), .int v9, .int u9]))]) H := hP9
    refine lv_iload_n hx hb dX0_note_44 rfl (lv_at hl 3 rfl) ?_
    refine lv_if_le (tgt := 64) hx hb dX0_note_45 (by decide) (fun c45 => ?_) (fun c45 => ?_)
    · skip
      have c45 := cv_le (by omega) (by omega) (show nI mo ≤ nI 0 from c45)
      exact absurd c45 (by omega)
    · skip
      have c45 := cv_nle (by omega) (by omega) (show ¬ nI mo ≤ nI 0 from c45)
      refine lv_iload_n hx hb dX0_note_48 rfl (lv_at hl 2 rfl) ?_
      refine lv_iload_n hx hb dX0_note_49 rfl (lv_at hl 3 rfl) ?_
      refine lv_irem hx hb dX0_note_50 (nI_ne0 (by omega) (by omega)) ?_
      refine lv_if_ne (tgt := 64) hx hb dX0_note_51 (by decide) (fun c51 => ?_) (fun c51 => ?_)
      · skip
        exact en_wv () hx hb hr hlocks hS (trivial) (by show PP G (audW a i (nI (x8 + 1)) (if y9 < g9 then g9 else y9) (z9 + g9) (if x8 = 0 then nI n9 else v9) (if g9 - g9 / nI mo * nI mo = 0 then u9 + nI 1 else u9)) _; first | (rw [if_pos c4, if_pos c51]; exact h_q) | (rw [if_neg c4, if_pos c51]; exact h_q) | (rw [if_pos c4, if_neg c51]; exact h_q) | (rw [if_neg c4, if_neg c51]; exact h_q)) dX0_note_64
      · skip
        refine lv_aload_n hx hb dX0_note_54 rfl (lv_at hl 0 rfl) ?_
        refine lv_dup hx hb dX0_note_55 rfl ?_
        refine va_get (D := G.1) (ci := 0) (v := .int u9) (C := RX0) (T := TX0) (N := 5) hx hb hts inX0_note_0 hown hK h_q 0 rfl rfl 4 (by decide) (hts (.fieldLink RX0 61 "GateLedger$Audit" "unseenTotal" "I") (List.mem_of_getElem? (i := 9) (by decide +kernel))) (fun _ h9 => h9) rfl dX0_note_56 ?_
        refine lv_iconst (v := nI 1) hx hb dX0_note_59 (by decide) ?_
        refine lv_iadd hx hb dX0_note_60 ?_
        refine pp_put (ci := 0) (v := .int (u9 + (nI 1))) (ty := .int) (C := RX0) (T := TX0) (N := 5) hx hb hts inX0_note_0 tyX0 tyX0_ok nmX0 hown hK h_q hS (rng_in (by omega)) rfl 4 (by decide) (hts (.fieldLink RX0 61 "GateLedger$Audit" "unseenTotal" "I") (List.mem_of_getElem? (i := 9) (by decide +kernel))) (fun _ h9 => h9) rfl (by decide +kernel) rfl rfl (Nat.le_of_ble_eq_true rfl) dX0_note_61 (fun H locs hP9 hk4 _ hS => ?_)
        have h_q : PP G ([(a i, .inr (0, [.int (nI (x8 + 1)), .int (if y9 < g9 then g9 else y9), .int (z9 + g9), .int v9, .int (u9 + (nI 1))]))]) H := hP9
        exact en_wv () hx hb hr hlocks hS (trivial) (by show PP G (audW a i (nI (x8 + 1)) (if y9 < g9 then g9 else y9) (z9 + g9) (if x8 = 0 then nI n9 else v9) (if g9 - g9 / nI mo * nI mo = 0 then u9 + nI 1 else u9)) _; first | (rw [if_pos c4, if_pos c51]; exact h_q) | (rw [if_neg c4, if_pos c51]; exact h_q) | (rw [if_pos c4, if_neg c51]; exact h_q) | (rw [if_neg c4, if_neg c51]; exact h_q)) dX0_note_64
  · skip
    have c4 := cv_eq (by omega) (by omega) (show nI x8 = nI 0 from c4)
    refine lv_aload_n hx hb dX0_note_7 rfl (lv_at hl 0 rfl) ?_
    refine lv_iload_n hx hb dX0_note_8 rfl (lv_at hl 1 rfl) ?_
    refine pp_put (ci := 0) (v := .int (nI n9)) (ty := .int) (C := RX0) (T := TX0) (N := 5) hx hb hts inX0_note_0 tyX0 tyX0_ok nmX0 hown hK h_q hS (rng_in (by omega)) rfl 3 (by decide) (hts (.fieldLink RX0 58 "GateLedger$Audit" "leastOff" "I") (List.mem_of_getElem? (i := 2) (by decide +kernel))) (fun _ h9 => h9) rfl (by decide +kernel) rfl rfl (Nat.le_of_ble_eq_true rfl) dX0_note_9 (fun H locs hP9 hk5 _ hS => ?_)
    have h_q : PP G ([(a i, .inr (0, [.int (nI x8), .int y9, .int z9, .int (nI n9), .int u9]))]) H := hP9
    refine lv_aload_n hx hb dX0_note_12 rfl (lv_at hl 0 rfl) ?_
    refine lv_dup hx hb dX0_note_13 rfl ?_
    refine va_get (D := G.1) (ci := 0) (v := .int (nI x8)) (C := RX0) (T := TX0) (N := 5) hx hb hts inX0_note_0 hown hK h_q 0 rfl rfl 0 (by decide) (hts (.fieldLink RX0 48 "GateLedger$Audit" "offTotal" "I") (List.mem_of_getElem? (i := 1) (by decide +kernel))) (fun _ h9 => h9) rfl dX0_note_14 ?_
    refine lv_iconst (v := nI 1) hx hb dX0_note_17 (by decide) ?_
    refine lv_iadd hx hb dX0_note_18 ?_
    refine lv_as (nI_add _ _) ?_
    refine pp_put (ci := 0) (v := .int (nI (x8 + 1))) (ty := .int) (C := RX0) (T := TX0) (N := 5) hx hb hts inX0_note_0 tyX0 tyX0_ok nmX0 hown hK h_q hS (rng_in (by omega)) rfl 0 (by decide) (hts (.fieldLink RX0 48 "GateLedger$Audit" "offTotal" "I") (List.mem_of_getElem? (i := 1) (by decide +kernel))) (fun _ h9 => h9) rfl (by decide +kernel) rfl rfl (Nat.le_of_ble_eq_true rfl) dX0_note_19 (fun H locs hP9 hk6 _ hS => ?_)
    have h_q : PP G ([(a i, .inr (0, [.int (nI (x8 + 1)), .int y9, .int z9, .int (nI n9), .int u9]))]) H := hP9
    refine lv_aload_n hx hb dX0_note_22 rfl (lv_at hl 0 rfl) ?_
    refine lv_aload_n hx hb dX0_note_23 rfl (lv_at hl 0 rfl) ?_
    refine va_get (D := G.1) (ci := 0) (v := .int y9) (C := RX0) (T := TX0) (N := 5) hx hb hts inX0_note_0 hown hK h_q 0 rfl rfl 1 (by decide) (hts (.fieldLink RX0 52 "GateLedger$Audit" "greatestGap" "I") (List.mem_of_getElem? (i := 3) (by decide +kernel))) (fun _ h9 => h9) rfl dX0_note_24 ?_
    refine lv_iload_n hx hb dX0_note_27 rfl (lv_at hl 2 rfl) ?_
    refine va_mmax hx hb (hml.trans hl.1.symm) hown (hts (.methodLink RX0 64 Lib.Math.max.name) (List.mem_of_getElem? (i := 4) (by decide +kernel))) (hts (.static Lib.Math.max.name) (List.mem_of_getElem? (i := 5) (by decide +kernel))) (hts (.initialized "java/lang/Math") (List.mem_of_getElem? (i := 6) (by decide +kernel))) (hts (.code Lib.Math.max.name Lib.Math.max.code 2 (some .int)) (List.mem_of_getElem? (i := 7) (by decide +kernel))) (Nat.le_of_ble_eq_true rfl) (Nat.le_of_ble_eq_true rfl) (Nat.le_of_ble_eq_true rfl) (Nat.le_of_ble_eq_true rfl) dX0_note_28 ?_
    refine pp_put (ci := 0) (v := .int (if y9 < g9 then g9 else y9)) (ty := .int) (C := RX0) (T := TX0) (N := 5) hx hb hts inX0_note_0 tyX0 tyX0_ok nmX0 hown hK h_q hS (rng_in (by omega)) rfl 1 (by decide) (hts (.fieldLink RX0 52 "GateLedger$Audit" "greatestGap" "I") (List.mem_of_getElem? (i := 3) (by decide +kernel))) (fun _ h9 => h9) rfl (by decide +kernel) rfl rfl (Nat.le_of_ble_eq_true rfl) dX0_note_31 (fun H locs hP9 hk7 _ hS => ?_)
    have h_q : PP G ([(a i, .inr (0, [.int (nI (x8 + 1)), .int (if y9 < g9 then g9 else y9), .int z9, .int (nI n9), .int u9]))]) H := hP9
    refine lv_aload_n hx hb dX0_note_34 rfl (lv_at hl 0 rfl) ?_
    refine lv_dup hx hb dX0_note_35 rfl ?_
    refine va_get (D := G.1) (ci := 0) (v := .int z9) (C := RX0) (T := TX0) (N := 5) hx hb hts inX0_note_0 hown hK h_q 0 rfl rfl 2 (by decide) (hts (.fieldLink RX0 55 "GateLedger$Audit" "gapTotal" "I") (List.mem_of_getElem? (i := 8) (by decide +kernel))) (fun _ h9 => h9) rfl dX0_note_36 ?_
    refine lv_iload_n hx hb dX0_note_39 rfl (lv_at hl 2 rfl) ?_
    refine lv_iadd hx hb dX0_note_40 ?_
    refine pp_put (ci := 0) (v := .int (z9 + g9)) (ty := .int) (C := RX0) (T := TX0) (N := 5) hx hb hts inX0_note_0 tyX0 tyX0_ok nmX0 hown hK h_q hS (rng_in (by omega)) rfl 2 (by decide) (hts (.fieldLink RX0 55 "GateLedger$Audit" "gapTotal" "I") (List.mem_of_getElem? (i := 8) (by decide +kernel))) (fun _ h9 => h9) rfl (by decide +kernel) rfl rfl (Nat.le_of_ble_eq_true rfl) dX0_note_41 (fun H locs hP9 hk8 _ hS => ?_)
    have h_q : PP G ([(a i, .inr (0, [.int (nI (x8 + 1)), .int (if y9 < g9 then g9 else y9), .int (z9 + g9), .int (nI n9), .int u9]))]) H := hP9
    refine lv_iload_n hx hb dX0_note_44 rfl (lv_at hl 3 rfl) ?_
    refine lv_if_le (tgt := 64) hx hb dX0_note_45 (by decide) (fun c45 => ?_) (fun c45 => ?_)
    · skip
      have c45 := cv_le (by omega) (by omega) (show nI mo ≤ nI 0 from c45)
      exact absurd c45 (by omega)
    · skip
      have c45 := cv_nle (by omega) (by omega) (show ¬ nI mo ≤ nI 0 from c45)
      refine lv_iload_n hx hb dX0_note_48 rfl (lv_at hl 2 rfl) ?_
      refine lv_iload_n hx hb dX0_note_49 rfl (lv_at hl 3 rfl) ?_
      refine lv_irem hx hb dX0_note_50 (nI_ne0 (by omega) (by omega)) ?_
      refine lv_if_ne (tgt := 64) hx hb dX0_note_51 (by decide) (fun c51 => ?_) (fun c51 => ?_)
      · skip
        exact en_wv () hx hb hr hlocks hS (trivial) (by show PP G (audW a i (nI (x8 + 1)) (if y9 < g9 then g9 else y9) (z9 + g9) (if x8 = 0 then nI n9 else v9) (if g9 - g9 / nI mo * nI mo = 0 then u9 + nI 1 else u9)) _; first | (rw [if_pos c4, if_pos c51]; exact h_q) | (rw [if_neg c4, if_pos c51]; exact h_q) | (rw [if_pos c4, if_neg c51]; exact h_q) | (rw [if_neg c4, if_neg c51]; exact h_q)) dX0_note_64
      · skip
        refine lv_aload_n hx hb dX0_note_54 rfl (lv_at hl 0 rfl) ?_
        refine lv_dup hx hb dX0_note_55 rfl ?_
        refine va_get (D := G.1) (ci := 0) (v := .int u9) (C := RX0) (T := TX0) (N := 5) hx hb hts inX0_note_0 hown hK h_q 0 rfl rfl 4 (by decide) (hts (.fieldLink RX0 61 "GateLedger$Audit" "unseenTotal" "I") (List.mem_of_getElem? (i := 9) (by decide +kernel))) (fun _ h9 => h9) rfl dX0_note_56 ?_
        refine lv_iconst (v := nI 1) hx hb dX0_note_59 (by decide) ?_
        refine lv_iadd hx hb dX0_note_60 ?_
        refine pp_put (ci := 0) (v := .int (u9 + (nI 1))) (ty := .int) (C := RX0) (T := TX0) (N := 5) hx hb hts inX0_note_0 tyX0 tyX0_ok nmX0 hown hK h_q hS (rng_in (by omega)) rfl 4 (by decide) (hts (.fieldLink RX0 61 "GateLedger$Audit" "unseenTotal" "I") (List.mem_of_getElem? (i := 9) (by decide +kernel))) (fun _ h9 => h9) rfl (by decide +kernel) rfl rfl (Nat.le_of_ble_eq_true rfl) dX0_note_61 (fun H locs hP9 hk9 _ hS => ?_)
        have h_q : PP G ([(a i, .inr (0, [.int (nI (x8 + 1)), .int (if y9 < g9 then g9 else y9), .int (z9 + g9), .int (nI n9), .int (u9 + (nI 1))]))]) H := hP9
        exact en_wv () hx hb hr hlocks hS (trivial) (by show PP G (audW a i (nI (x8 + 1)) (if y9 < g9 then g9 else y9) (z9 + g9) (if x8 = 0 then nI n9 else v9) (if g9 - g9 / nI mo * nI mo = 0 then u9 + nI 1 else u9)) _; first | (rw [if_pos c4, if_pos c51]; exact h_q) | (rw [if_neg c4, if_pos c51]; exact h_q) | (rw [if_pos c4, if_neg c51]; exact h_q) | (rw [if_neg c4, if_neg c51]; exact h_q)) dX0_note_64
set_option maxHeartbeats 4000000 in
set_option maxRecDepth 100000 in
/-- Audit.hold -/
theorem c_X0_hold (l : Launch) (G : GG) (a : Nat → Nat) (ha : Inj a) (i j x t9 : Nat) (hij : i + 1 ≤ j ∨ j + 11 ≤ i) (hix : i + 1 ≤ x ∨ x + 5 ≤ i) (hxj : x + 5 ≤ j ∨ j + 11 ≤ x) (N : NT) (hN : WF N) (x9 y9 z9 v9 u9 : Int32) (w0 o0 : Nat → Int64) (op mo : Nat) (hin : nIn N ≤ 12) (hop : op < 2 ^ 31) (hmo : 1 ≤ mo ∧ mo < 2 ^ 31) : Met l yX0_hold wsX0_hold ({ frames := 4, cells := 0, slots := 0, locals := 92 } : Room) (PcL G a t9 [.ref (a i), .ref (a j), .ref (a x), .int (nI op), .int (nI mo)] (fun H => PP G (audW a i x9 y9 z9 v9 u9) H ∧ PP G (lanW G a x w0 o0) H ∧ PP G (netW G a j N) H)) (QV (fun _ : (Nat → Int64) × (Nat → Int64) => True) (fun u H => PP G (audS a i N op mo (2 ^ nIn N)) H ∧ PP G (lanW G a x u.1 u.2) H) (orA (rng a i 1) (rng a x 5))) 0 0 (orA (rng a i 1) (rng a x 5)) := by
  refine Met.ofW (cc := cX0_hold) (maxL := 12) (ret := none) (by decide) rfl ?_
  intro p e s m args below meth c s₁ B hml hv
  obtain ⟨⟨rfl, hB, hK, hNW⟩, hLow⟩ := hv
  have hx := B.exec
  have hb := B.bytes
  have hr := B.returns
  have hts := atoms_spec (ws := wsX0_hold) B.pre
  have hown : s.vm.findClass RX0 = some m.cls := findClass_of_methodNamed B.named
  have hlocks := B.notSynchronized
  have FX : CallFix p m c cX0_hold 12 s ([.ref (a i), .ref (a j), .ref (a x), .int (nI op), .int (nI mo)] : List Value).toArray wsX0_hold RX0 := ⟨hx, hb, hml, hown, hts⟩
  have hl := lv_entry ([.ref (a i), .ref (a j), .ref (a x), .int (nI op), .int (nI mo)]) (n := 12) (Nat.le_of_ble_eq_true rfl)
  rw [lg_entry_eq]
  generalize (lg_sl ([.ref (a i), .ref (a j), .ref (a x), .int (nI op), .int (nI mo)]) ++ List.replicate (12 - (lg_sl ([.ref (a i), .ref (a j), .ref (a x), .int (nI op), .int (nI mo)])).length) Slot.unset).toArray = ls at hl ⊢
  have hl : lv_has ls 12 [(0, .ref (a i)), (1, .ref (a j)), (2, .ref (a x)), (3, .int (nI op)), (4, .int (nI mo))] := hl
  obtain ⟨h_q, h_l, h_n⟩ := hB
  have hdn : dj (orA (rng a i 1) (rng a x 5)) (netW G a j N) := dj_or (dj_rng ha netW_in (by omega)) (dj_rng ha netW_in (by omega))
  have hg9 := hN.g
  have ho9 := hN.o
  obtain ⟨M, hMe⟩ : ∃ M, M = 2 ^ nIn N := ⟨_, rfl⟩
  have hM9 : M ≤ 4096 := by rw [hMe]; exact Nat.pow_le_pow_right (by omega) hin
  have hS : va_S (orA (rng a i 1) (rng a x 5)) s.heap s.heap [] := va_S.rf
  refine lv_aload_n hx hb dX0_hold_0 rfl (lv_at hl 0 rfl) ?_
  refine wr_v (va_runV (As := []) (rest := []) FX (c_X0_begin l G a ha i x9 y9 z9 v9 u9) (cwV 0 hts gX0_hold_X0_begin rfl rfl rfl (by decide +kernel) ⟨Nat.le_of_ble_eq_true rfl, Nat.le_of_ble_eq_true rfl⟩) (preV hK hNW h_q (va_recv hK h_q (ci := 0) (q0 := 0) rfl rfl)) rfl rfl hl.1 rfl (lv_room (Nat.le_of_ble_eq_true rfl)) dX0_hold_1 ⟨Nat.le_of_ble_eq_true rfl, Nat.le_of_ble_eq_true rfl⟩) hS (orA_l (fun _ q => q)) (fun _ H locs _ hP9 hk1 hS => ?_)
  have h_q : PP G (audS a i N op mo 0) H := hP9
  have h_l : PP G (lanW G a x w0 o0) H := kp hk1 h_l (dj_rng ha (lanW_in (G := G) (a := a) (i := x) (w := w0) (o := o0)) (by omega))
  refine lv_aload_n hx hb dX0_hold_4 rfl (lv_at hl 1 rfl) ?_
  refine ro_i (va_runV (As := []) (rest := []) FX (c_X3_inputCount l G a j N) (cwV 0 hts gX0_hold_X3_inputCount rfl rfl rfl (by decide +kernel) ⟨Nat.le_of_ble_eq_true rfl, Nat.le_of_ble_eq_true rfl⟩) (preV hK hNW (ro hS h_n hdn) (va_recv hK (ro hS h_n hdn) (ci := 3) (q0 := 0) rfl rfl)) rfl rfl hl.1 rfl (lv_room (Nat.le_of_ble_eq_true rfl)) dX0_hold_5 ⟨Nat.le_of_ble_eq_true rfl, Nat.le_of_ble_eq_true rfl⟩) ?_
  refine lv_iconst (v := nI 1) hx hb dX0_hold_8 (by decide) ?_
  refine lv_ishr hx hb dX0_hold_9 ?_
  refine lv_as (y := nI (nIn N / 2)) (shrN (by omega) (by omega)) ?_
  refine lv_istore (lv' := [(5, .int (nI (nIn N / 2))), (0, .ref (a i)), (1, .ref (a j)), (2, .ref (a x)), (3, .int (nI op)), (4, .int (nI mo))]) hx hb dX0_hold_10 hl (by decide) rfl (fun ls hl => ?_)
  refine lv_iconst (v := nI 1) hx hb dX0_hold_12 (by decide) ?_
  refine lv_aload_n hx hb dX0_hold_13 rfl (lv_at hl 2 rfl) ?_
  refine ro_i (va_runV (As := []) (rest := [.int (nI 1)]) FX (c_X3_inputCount l G a j N) (cwV 0 hts gX0_hold_X3_inputCount rfl rfl rfl (by decide +kernel) ⟨Nat.le_of_ble_eq_true rfl, Nat.le_of_ble_eq_true rfl⟩) (preV hK hNW (ro hS h_n hdn) (va_recv hK (ro hS h_n hdn) (ci := 3) (q0 := 0) rfl rfl)) rfl rfl hl.1 rfl (lv_room (Nat.le_of_ble_eq_true rfl)) dX0_hold_14 ⟨Nat.le_of_ble_eq_true rfl, Nat.le_of_ble_eq_true rfl⟩) ?_
  refine lv_ishl hx hb dX0_hold_17 ?_
  refine lv_as (y := nI M) (by rw [hMe]; exact shl1 (by omega)) ?_
  refine lv_istore (lv' := [(6, .int (nI M)), (5, .int (nI (nIn N / 2))), (0, .ref (a i)), (1, .ref (a j)), (2, .ref (a x)), (3, .int (nI op)), (4, .int (nI mo))]) hx hb dX0_hold_18 hl (by decide) rfl (fun ls hl => ?_)
  refine lv_iconst (v := nI 0) hx hb dX0_hold_20 (by decide) ?_
  refine lv_istore (lv' := [(7, .int (nI 0)), (6, .int (nI M)), (5, .int (nI (nIn N / 2))), (0, .ref (a i)), (1, .ref (a j)), (2, .ref (a x)), (3, .int (nI op)), (4, .int (nI mo))]) hx hb dX0_hold_21 hl (by decide) rfl (fun ls hl => ?_)
  refine lv_loop3 23 (fun (b : Nat) (w : Nat → Int64) (o : Nat → Int64) => M - b) (fun (b : Nat) (w : Nat → Int64) (o : Nat → Int64) (H : Heap) (locs : List Loc) (ls : Array Slot) => (PP G (audS a i N op mo (min b M)) H) ∧ (PP G (lanW G a x w o) H) ∧ (va_S (orA (rng a i 1) (rng a x 5)) s.heap H locs) ∧ (lv_has ls 12 [(0, .ref (a i)), (1, .ref (a j)), (2, .ref (a x)), (3, .int (nI op)), (4, .int (nI mo)), (5, .int (nI (nIn N / 2))), (6, .int (nI M)), (7, .int (nI b))]) ∧ (b % 64 = 0) ∧ (b ≤ 4160)) (fun _ _ _ => []) (fun b w o H locs ls hI ih => ?_) 0 w0 o0 ⟨(by rw [Nat.zero_min]; exact h_q), h_l, hS, lv_sub hl [3, 4, 5, 6, 7, 2, 1, 0] rfl, by omega, by omega⟩ rfl
  obtain ⟨h_q, h_l, hS, hl, hb64, hbl⟩ := hI
  have ih3 := @ih
  clear ih
  refine lv_iload hx hb dX0_hold_23 (lv_at hl 7 rfl) ?_
  refine lv_iload hx hb dX0_hold_25 (lv_at hl 6 rfl) ?_
  refine lv_icmp_ge (tgt := 114) hx hb dX0_hold_27 (by decide) (fun c27 => ?_) (fun c27 => ?_)
  · skip
    have c27 := cv_le (by omega) (by omega) c27
    have eb : min b M = M := by omega
    exact en_wv (w, o) hx hb hr hlocks hS (trivial) (⟨by show PP G (audS a i N op mo (2 ^ nIn N)) _; rw [← hMe, ← eb]; exact h_q, h_l⟩) dX0_hold_114
  · skip
    have c27 := cv_nle (by omega) (by omega) c27
    refine lv_aload_n hx hb dX0_hold_30 rfl (lv_at hl 2 rfl) ?_
    refine lv_aload_n hx hb dX0_hold_31 rfl (lv_at hl 1 rfl) ?_
    refine lv_iload hx hb dX0_hold_32 (lv_at hl 7 rfl) ?_
    refine wr_v (va_runV (As := [.ref (a j), .int (nI b)]) (rest := []) FX (c_X1_fillFrom l G a ha x j t9 (by omega) w o N hN b) (cwV 2 hts gX0_hold_X1_fillFrom rfl rfl rfl (by decide +kernel) ⟨Nat.le_of_ble_eq_true rfl, Nat.le_of_ble_eq_true rfl⟩) (preVL hK hNW (⟨h_l, (ro hS h_n hdn)⟩) (hLow.at hS (fun q9 _ q => q.elim (rng_M _) (rng_M _))) (va_recv hK h_l (ci := 1) (q0 := 0) rfl rfl)) rfl rfl hl.1 rfl (lv_room (Nat.le_of_ble_eq_true rfl)) dX0_hold_34 ⟨Nat.le_of_ble_eq_true rfl, Nat.le_of_ble_eq_true rfl⟩) hS (orA_r (fun _ q => q)) (fun v8 H locs hv8 hP9 hk4 hS => ?_)
    have h_l : PP G (lanW G a x v8.1 v8.2) H := hP9
    have h_q : PP G (audS a i N op mo (min b M)) H := kp hk4 h_q (dj_cons (rng_no ha (by omega)) (dj_nil))
    refine lv_bipush (v := nI 64) hx hb dX0_hold_37 (by decide) ?_
    refine lv_iload hx hb dX0_hold_39 (lv_at hl 6 rfl) ?_
    refine lv_iload hx hb dX0_hold_41 (lv_at hl 7 rfl) ?_
    refine lv_isub hx hb dX0_hold_43 ?_
    refine lv_as (pk_sub (by omega)) ?_
    refine va_mmin hx hb (hml.trans hl.1.symm) hown (hts (.methodLink RX0 26 Lib.Math.min.name) (List.mem_of_getElem? (i := 1) (by decide +kernel))) (hts (.static Lib.Math.min.name) (List.mem_of_getElem? (i := 2) (by decide +kernel))) (hts (.initialized "java/lang/Math") (List.mem_of_getElem? (i := 3) (by decide +kernel))) (hts (.code Lib.Math.min.name Lib.Math.min.code 2 (some .int)) (List.mem_of_getElem? (i := 4) (by decide +kernel))) (Nat.le_of_ble_eq_true rfl) (Nat.le_of_ble_eq_true rfl) (Nat.le_of_ble_eq_true rfl) (Nat.le_of_ble_eq_true rfl) dX0_hold_44 ?_
    refine lv_as (y := nI (min 64 (M - b))) (mmin_nat (by omega) (by omega)) ?_
    refine lv_istore (lv' := [(8, .int (nI (min 64 (M - b)))), (0, .ref (a i)), (1, .ref (a j)), (2, .ref (a x)), (3, .int (nI op)), (4, .int (nI mo)), (5, .int (nI (nIn N / 2))), (6, .int (nI M)), (7, .int (nI b))]) hx hb dX0_hold_47 hl (by decide) rfl (fun ls hl => ?_)
    refine lv_iconst (v := nI 0) hx hb dX0_hold_49 (by decide) ?_
    refine lv_istore (lv' := [(9, .int (nI 0)), (8, .int (nI (min 64 (M - b)))), (0, .ref (a i)), (1, .ref (a j)), (2, .ref (a x)), (3, .int (nI op)), (4, .int (nI mo)), (5, .int (nI (nIn N / 2))), (6, .int (nI M)), (7, .int (nI b))]) hx hb dX0_hold_50 hl (by decide) rfl (fun ls hl => ?_)
    refine lv_loop1 52 (fun (r : Nat) => 64 - r) (fun (r : Nat) (H : Heap) (locs : List Loc) (ls : Array Slot) => (PP G (audS a i N op mo (b + r)) H) ∧ (PP G (lanW G a x v8.1 v8.2) H) ∧ (va_S (orA (rng a i 1) (rng a x 5)) s.heap H locs) ∧ (lv_has ls 12 [(0, .ref (a i)), (1, .ref (a j)), (2, .ref (a x)), (3, .int (nI op)), (4, .int (nI mo)), (5, .int (nI (nIn N / 2))), (6, .int (nI M)), (7, .int (nI b)), (8, .int (nI (min 64 (M - b)))), (9, .int (nI r))]) ∧ (r ≤ min 64 (M - b))) (fun _ => []) (fun r H locs ls hI ih => ?_) 0 ⟨(by rw [show b + 0 = min b M by omega]; exact h_q), h_l, hS, lv_sub hl [2, 3, 4, 5, 6, 7, 8, 9, 1, 0] rfl, by omega⟩ rfl
    obtain ⟨h_q, h_l, hS, hl, hr9⟩ := hI
    have ih6 := @ih
    clear ih
    refine lv_iload hx hb dX0_hold_52 (lv_at hl 9 rfl) ?_
    refine lv_iload hx hb dX0_hold_54 (lv_at hl 8 rfl) ?_
    refine lv_icmp_ge (tgt := 108) hx hb dX0_hold_56 (by decide) (fun c56 => ?_) (fun c56 => ?_)
    · skip
      have c56 := cv_le (by omega) (by omega) c56
      refine lv_iinc (v := nI (b + 64)) (lv' := [(7, .int (nI (b + 64))), (0, .ref (a i)), (1, .ref (a j)), (2, .ref (a x)), (3, .int (nI op)), (4, .int (nI mo)), (5, .int (nI (nIn N / 2))), (6, .int (nI M)), (8, .int (nI (min 64 (M - b)))), (9, .int (nI r))]) hx hb dX0_hold_108 hl (k := 7) rfl (by first | exact nI_add _ 64 | decide) (by decide) rfl (fun ls hl => ?_)
      refine lv_goto (tgt := 23) hx hb dX0_hold_111 (by decide) ?_
      exact ih3 (b + 64) v8.1 v8.2 _ _ _ ⟨(by rw [show min (b + 64) M = b + r by omega]; exact h_q), h_l, hS, lv_sub hl [1, 2, 3, 4, 5, 6, 7, 0] rfl, by omega, by omega⟩ (by show M - (b + 64) < M - b; omega)
    · skip
      have c56 := cv_nle (by omega) (by omega) c56
      refine lv_lab0 102 (fun (H : Heap) (locs : List Loc) (ls : Array Slot) => (PP G (audS a i N op mo (b + r + 1)) H) ∧ (PP G (lanW G a x v8.1 v8.2) H) ∧ (va_S (orA (rng a i 1) (rng a x 5)) s.heap H locs) ∧ (lv_has ls 12 [(0, .ref (a i)), (1, .ref (a j)), (2, .ref (a x)), (3, .int (nI op)), (4, .int (nI mo)), (5, .int (nI (nIn N / 2))), (6, .int (nI M)), (7, .int (nI b)), (8, .int (nI (min 64 (M - b)))), (9, .int (nI r))])) ([]) (fun H locs ls hI => ?_) (fun lab7 => ?_)
      · skip
        obtain ⟨h_q, h_l, hS, hl⟩ := hI
        refine lv_iinc (v := nI (r + 1)) (lv' := [(9, .int (nI (r + 1))), (0, .ref (a i)), (1, .ref (a j)), (2, .ref (a x)), (3, .int (nI op)), (4, .int (nI mo)), (5, .int (nI (nIn N / 2))), (6, .int (nI M)), (7, .int (nI b)), (8, .int (nI (min 64 (M - b))))]) hx hb dX0_hold_102 hl (k := 9) rfl (by first | exact nI_add _ 1 | decide) (by decide) rfl (fun ls hl => ?_)
        refine lv_goto (tgt := 52) hx hb dX0_hold_105 (by decide) ?_
        exact ih6 (r + 1) _ _ _ ⟨h_q, h_l, hS, lv_sub hl [1, 2, 3, 4, 5, 6, 7, 8, 9, 0] rfl, by omega⟩ (by show 64 - (r + 1) < 64 - r; omega)
      refine lv_iload hx hb dX0_hold_59 (lv_at hl 7 rfl) ?_
      refine lv_iload hx hb dX0_hold_61 (lv_at hl 9 rfl) ?_
      refine lv_iadd hx hb dX0_hold_63 ?_
      refine lv_as (nI_add _ _) ?_
      refine lv_istore (lv' := [(10, .int (nI (b + r))), (0, .ref (a i)), (1, .ref (a j)), (2, .ref (a x)), (3, .int (nI op)), (4, .int (nI mo)), (5, .int (nI (nIn N / 2))), (6, .int (nI M)), (7, .int (nI b)), (8, .int (nI (min 64 (M - b)))), (9, .int (nI r))]) hx hb dX0_hold_64 hl (by decide) rfl (fun ls hl => ?_)
      refine lv_aload_n hx hb dX0_hold_66 rfl (lv_at hl 3 rfl) ?_
      refine lv_aload_n hx hb dX0_hold_67 rfl (lv_at hl 2 rfl) ?_
      refine lv_iload hx hb dX0_hold_68 (lv_at hl 10 rfl) ?_
      refine ro_i (va_runV (As := [.ref (a j), .int (nI r)]) (rest := []) FX (c_X1_valueInLane l G a x j v8.1 v8.2 N hN r) (cwV 2 hts gX0_hold_X1_valueInLane rfl rfl rfl (by decide +kernel) ⟨Nat.le_of_ble_eq_true rfl, Nat.le_of_ble_eq_true rfl⟩) (preV hK hNW (⟨h_l, (ro hS h_n hdn)⟩) (va_recv hK h_l (ci := 1) (q0 := 0) rfl rfl)) rfl rfl hl.1 rfl (lv_room (Nat.le_of_ble_eq_true rfl)) dX0_hold_70 ⟨Nat.le_of_ble_eq_true rfl, Nat.le_of_ble_eq_true rfl⟩) ?_
      refine lv_as (y := vl N (b + r)) (lane_val hN hb64 (by omega) (by omega) hv8.2) ?_
      refine lv_iload_n hx hb dX0_hold_73 rfl (lv_at hl 4 rfl) ?_
      refine lv_iload hx hb dX0_hold_74 (lv_at hl 0 rfl) ?_
      refine lv_iload hx hb dX0_hold_76 (lv_at hl 6 rfl) ?_
      refine ro_i (va_runS (As := [.int (nI op), .int (nI (b + r)), .int (nI (nIn N / 2))]) (rest := [.int (vl N (b + r))]) FX (c_X0_dueFor l G op (b + r) (nIn N / 2) (by omega) (by omega) (by omega)) (va_cwS 3 hts gX0_hold_X0_dueFor rfl rfl rfl (by decide +kernel) ⟨Nat.le_of_ble_eq_true rfl, Nat.le_of_ble_eq_true rfl⟩) (preS hK hNW trivial) rfl rfl hl.1 rfl (lv_room (Nat.le_of_ble_eq_true rfl)) dX0_hold_78 ⟨Nat.le_of_ble_eq_true rfl, Nat.le_of_ble_eq_true rfl⟩) ?_
      refine lv_isub hx hb dX0_hold_81 ?_
      refine va_mabs hx hb (hml.trans hl.1.symm) hown (hts (.methodLink RX0 40 Lib.Math.abs.name) (List.mem_of_getElem? (i := 5) (by decide +kernel))) (hts (.static Lib.Math.abs.name) (List.mem_of_getElem? (i := 6) (by decide +kernel))) (hts (.initialized "java/lang/Math") (List.mem_of_getElem? (i := 3) (by decide +kernel))) (hts (.code Lib.Math.abs.name Lib.Math.abs.code 1 (some .int)) (List.mem_of_getElem? (i := 7) (by decide +kernel))) (Nat.le_of_ble_eq_true rfl) (Nat.le_of_ble_eq_true rfl) (Nat.le_of_ble_eq_true rfl) (Nat.le_of_ble_eq_true rfl) dX0_hold_82 ?_
      refine lv_as (y := gapN N op (b + r)) rfl ?_
      refine lv_istore (lv' := [(11, .int (gapN N op (b + r))), (10, .int (nI (b + r))), (0, .ref (a i)), (1, .ref (a j)), (2, .ref (a x)), (3, .int (nI op)), (4, .int (nI mo)), (5, .int (nI (nIn N / 2))), (6, .int (nI M)), (7, .int (nI b)), (8, .int (nI (min 64 (M - b)))), (9, .int (nI r))]) hx hb dX0_hold_85 hl (by decide) rfl (fun ls hl => ?_)
      refine lv_iload hx hb dX0_hold_87 (lv_at hl 0 rfl) ?_
      refine lv_if_le (tgt := 102) hx hb dX0_hold_89 (by decide) (fun c89 => ?_) (fun c89 => ?_)
      · skip
        have c89 := Int32.not_lt.mpr c89
        exact lab7  _ _ _ ⟨(by rw [aud_n c89]; exact h_q), h_l, hS, lv_sub hl [2, 3, 4, 5, 6, 7, 8, 9, 10, 11] rfl⟩
      · skip
        have c89 := Int32.not_le.mp c89
        refine lv_aload_n hx hb dX0_hold_92 rfl (lv_at hl 2 rfl) ?_
        refine lv_iload hx hb dX0_hold_93 (lv_at hl 1 rfl) ?_
        refine lv_iload hx hb dX0_hold_95 (lv_at hl 0 rfl) ?_
        refine lv_iload hx hb dX0_hold_97 (lv_at hl 6 rfl) ?_
        refine wr_v (va_runV (As := [.int (nI (b + r)), .int (gapN N op (b + r)), .int (nI mo)]) (rest := []) FX (c_X0_note l G a ha i (AX N op (b + r)) (b + r) mo (AY N op (b + r)) (AZ N op (b + r)) (AV N op (b + r)) (AU N op mo (b + r)) (gapN N op (b + r)) (by have := AX_le N op (b + r); omega) ⟨by omega, by omega⟩) (cwV 3 hts gX0_hold_X0_note rfl rfl rfl (by decide +kernel) ⟨Nat.le_of_ble_eq_true rfl, Nat.le_of_ble_eq_true rfl⟩) (preV hK hNW h_q (va_recv hK h_q (ci := 0) (q0 := 0) rfl rfl)) rfl rfl hl.1 rfl (lv_room (Nat.le_of_ble_eq_true rfl)) dX0_hold_99 ⟨Nat.le_of_ble_eq_true rfl, Nat.le_of_ble_eq_true rfl⟩) hS (orA_l (fun _ q => q)) (fun _ H locs _ hP9 hk8 hS => ?_)
        have h_q : PP G (audS a i N op mo (b + r + 1)) H := (by rw [aud_y c89]; exact hP9)
        have h_l : PP G (lanW G a x v8.1 v8.2) H := kp hk8 h_l (dj_rng ha (lanW_in (G := G) (a := a) (i := x) (w := v8.1) (o := v8.2)) (by omega))
        exact lab7  _ _ _ ⟨h_q, h_l, hS, lv_sub hl [2, 3, 4, 5, 6, 7, 8, 9, 10, 11] rfl⟩
