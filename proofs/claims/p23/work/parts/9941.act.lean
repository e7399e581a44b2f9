/-! act: what a call answers that may refuse -/
def AR (C : Nat) (r : Int32) (q : Prop) : Prop := (C = 0 → q) ∧ (C = 1 → r = -7000001) ∧ (C = 2 → r = -7000002) ∧ (C = 3 → r = -7000003)
theorem AR.x0 {C : Nat} {r : Int32} {q : Prop} (h : C = 0) (hq : q) : AR C r q := ⟨fun _ => hq, fun e => absurd (h.symm.trans e) (by decide), fun e => absurd (h.symm.trans e) (by decide), fun e => absurd (h.symm.trans e) (by decide)⟩
theorem AR.x1 {C : Nat} {q : Prop} (h : C = 1) : AR C (-7000001) q := ⟨fun e => absurd (h.symm.trans e) (by decide), fun _ => rfl, fun e => absurd (h.symm.trans e) (by decide), fun e => absurd (h.symm.trans e) (by decide)⟩
theorem AR.x2 {C : Nat} {q : Prop} (h : C = 2) : AR C (-7000002) q := ⟨fun e => absurd (h.symm.trans e) (by decide), fun e => absurd (h.symm.trans e) (by decide), fun _ => rfl, fun e => absurd (h.symm.trans e) (by decide)⟩
theorem AR.x3 {C : Nat} {q : Prop} (h : C = 3) : AR C (-7000003) q := ⟨fun e => absurd (h.symm.trans e) (by decide), fun e => absurd (h.symm.trans e) (by decide), fun e => absurd (h.symm.trans e) (by decide), fun _ => rfl⟩
set_option maxHeartbeats 4000000 in
set_option maxRecDepth 100000 in
theorem w_act_input (l : Launch) (hfl : l.stackTraces = false) (G : GG) (a : Nat → Nat) (ha : Inj a) (t9 : Nat) (st : ST) (p9 u09 u19 u29 : Int32) (hO : OKS st) : vx_Met l yL_act wsL_act ({ frames := 8, cells := 2, slots := 12, locals := 125 } : Room) (PcW G a t9 [.ref (a 0), .int (nI 0), .int p9, .int u09, .int u19, .int u29] (fun H => CW G a st H)) (QI (fun (r : Int32) (_ : Unit) => AR (cIn st.1 p9) r (r = nI (nG (st.1 (ix p9))))) (fun _ H => CW G a (stN (cIn st.1 p9) (upN st.1 (ix p9) (addI (st.1 (ix p9)))) st.1, st.2) H) (rng a 0 93)) (fun _ _ _ => False) 2 12 (rng a 0 93) := by
  refine vx_ofWH (cc := cL_act) (maxL := 7) (ret := some .int) (hh := [(0, 306, 307, 73), (0, 306, 312, 76), (0, 306, 317, 79)]) (by decide) rfl ?_
  intro p e s m args below meth c s₁ B hml hv
  obtain ⟨⟨⟨⟨rfl, hCW, hK, hNW⟩, hLow⟩, hX⟩, hNC⟩ := hv
  have hx := B.exec
  have hb := B.bytes
  have hr := B.returns
  have hts := atoms_spec (ws := wsL_act) B.pre
  have hown : s.vm.findClass RL = some m.cls := findClass_of_methodNamed B.named
  have hlocks := B.notSynchronized
  have htab : c.exceptionTable.toList = tableOf [(0, 306, 307, 73), (0, 306, 312, 76), (0, 306, 317, 79)] := vx_table (x := yL_act) B (hts _ List.mem_cons_self)
  have FX : CallFix p m c cL_act 7 s ([.ref (a 0), .int (nI 0), .int p9, .int u09, .int u19, .int u29] : List Value).toArray wsL_act RL := ⟨hx, hb, hml, hown, hts⟩
  have hl := lv_entry ([.ref (a 0), .int (nI 0), .int p9, .int u09, .int u19, .int u29]) (n := 7) (Nat.le_of_ble_eq_true rfl)
  rw [lg_entry_eq]
  generalize (lg_sl ([.ref (a 0), .int (nI 0), .int p9, .int u09, .int u19, .int u29]) ++ List.replicate (7 - (lg_sl ([.ref (a 0), .int (nI 0), .int p9, .int u09, .int u19, .int u29])).length) Slot.unset).toArray = ls at hl ⊢
  have hl : lv_has ls 7 [(0, .ref (a 0)), (1, .int (nI 0)), (2, .int p9), (3, .int u09), (4, .int u19), (5, .int u29)] := hl
  have hS : va_S (rng a 0 93) s.heap s.heap [] := va_S.rf
  refine lv_iload_n hx hb dL_act_0 rfl (lv_at hl 1 rfl) ?_
  refine lv_if_ne (tgt := 12) hx hb dL_act_1 (by decide) (fun c => absurd c (by decide)) (fun _ => ?_)
  refine lv_aload_n hx hb dL_act_4 rfl (lv_at hl 0 rfl) ?_
  refine lv_iload_n hx hb dL_act_5 rfl (lv_at hl 2 rfl) ?_
  refine vx_calli (vx_runV (As := [.int p9]) (rest := []) FX (k_X11_input l hfl G a ha t9 st p9 hO) (cwV 1 hts gL_act_X11_input rfl rfl rfl (by decide +kernel) ⟨Nat.le_of_ble_eq_true rfl, Nat.le_of_ble_eq_true rfl⟩) (preVX hK hNW hCW (hLow.at hS (fun q9 _ q => rng_M q9 q)) (hX.at hS (fun q9 _ q => rng_M q9 q)) (cw_recv hK hCW)) rfl rfl hl.1 rfl (lv_room (Nat.le_of_ble_eq_true rfl)) dL_act_6 ⟨Nat.le_of_ble_eq_true rfl, Nat.le_of_ble_eq_true rfl⟩) hS (fun q _ h => h) (fun q h => h) (fun q _ h => h) (fun E ce q9 u t H locs ht hal _ hBX hsz hk hS hce hcv hcl => ?_) (fun r u t H locs ht hal hp hB hsz hk hS => ?_)
  · skip
    have hCW : CW G a st H := by rw [← ht]; exact hBX.2
    rcases hBX.1 with ⟨rfl, h⟩ | ⟨rfl, h⟩ | ⟨rfl, h⟩
    · skip
      refine vx_catch hown [] ⟨0, 306, 307, 73⟩ [⟨0, 306, 312, 76⟩, ⟨0, 306, 317, 79⟩] htab (fun z hz => absurd hz List.not_mem_nil) (by decide) (show 73 ≠ 0 by decide) (hts (.classLink RL 73 "java/lang/IndexOutOfBoundsException") (List.mem_of_getElem? (i := 1) (by decide +kernel))) (va_Nw.use rfl hX.2.1.2.1) hce hcv hcl ?_
      refine lv_astore (lv' := [(6, .ref q9), (0, .ref (a 0)), (1, .int (nI 0)), (2, .int p9), (3, .int u09), (4, .int u19), (5, .int u29)]) hx hb dL_act_307 hl (by decide) rfl (fun ls hl => ?_)
      refine lv_ldc (v := -7000001) hx hb hown (hts (.constant RL 75 (-7000001)) (List.mem_of_getElem? (i := 4) (by decide +kernel))) dL_act_309 ?_
      refine retw (Nat.le_of_ble_eq_true rfl) (Nat.le_of_ble_eq_true rfl) ?_
      exact en_wi () hx hb hr hlocks hS (AR.x1 h) (by rw [stN_n h (by decide)]; exact hCW) dL_act_311
    · skip
      refine vx_catch hown [⟨0, 306, 307, 73⟩] ⟨0, 306, 312, 76⟩ [⟨0, 306, 317, 79⟩] htab (List.forall_mem_cons.mpr ⟨Or.inr ⟨(show 73 ≠ 0 by decide), _, (hts (.classLink RL 73 "java/lang/IndexOutOfBoundsException") (List.mem_of_getElem? (i := 1) (by decide +kernel))), hNC.1⟩, (fun z hz => absurd hz List.not_mem_nil)⟩) (by decide) (show 76 ≠ 0 by decide) (hts (.classLink RL 76 "java/lang/IllegalArgumentException") (List.mem_of_getElem? (i := 2) (by decide +kernel))) (va_Nw.use rfl hX.2.1.2.2.1) hce hcv hcl ?_
      refine lv_astore (lv' := [(6, .ref q9), (0, .ref (a 0)), (1, .int (nI 0)), (2, .int p9), (3, .int u09), (4, .int u19), (5, .int u29)]) hx hb dL_act_312 hl (by decide) rfl (fun ls hl => ?_)
      refine lv_ldc (v := -7000002) hx hb hown (hts (.constant RL 78 (-7000002)) (List.mem_of_getElem? (i := 5) (by decide +kernel))) dL_act_314 ?_
      refine retw (Nat.le_of_ble_eq_true rfl) (Nat.le_of_ble_eq_true rfl) ?_
      exact en_wi () hx hb hr hlocks hS (AR.x2 h) (by rw [stN_n h (by decide)]; exact hCW) dL_act_316
    · skip
      refine vx_catch hown [⟨0, 306, 307, 73⟩, ⟨0, 306, 312, 76⟩] ⟨0, 306, 317, 79⟩ [] htab (List.forall_mem_cons.mpr ⟨Or.inr ⟨(show 73 ≠ 0 by decide), _, (hts (.classLink RL 73 "java/lang/IndexOutOfBoundsException") (List.mem_of_getElem? (i := 1) (by decide +kernel))), hNC.2.1⟩, (List.forall_mem_cons.mpr ⟨Or.inr ⟨(show 76 ≠ 0 by decide), _, (hts (.classLink RL 76 "java/lang/IllegalArgumentException") (List.mem_of_getElem? (i := 2) (by decide +kernel))), hNC.2.2⟩, (fun z hz => absurd hz List.not_mem_nil)⟩)⟩) (by decide) (show 79 ≠ 0 by decide) (hts (.classLink RL 79 "java/lang/IllegalStateException") (List.mem_of_getElem? (i := 3) (by decide +kernel))) (va_Nw.use rfl hX.2.1.2.2.2) hce hcv hcl ?_
      refine lv_astore (lv' := [(6, .ref q9), (0, .ref (a 0)), (1, .int (nI 0)), (2, .int p9), (3, .int u09), (4, .int u19), (5, .int u29)]) hx hb dL_act_317 hl (by decide) rfl (fun ls hl => ?_)
      refine lv_ldc (v := -7000003) hx hb hown (hts (.constant RL 81 (-7000003)) (List.mem_of_getElem? (i := 6) (by decide +kernel))) dL_act_319 ?_
      refine retw (Nat.le_of_ble_eq_true rfl) (Nat.le_of_ble_eq_true rfl) ?_
      exact en_wi () hx hb hr hlocks hS (AR.x3 h) (by rw [stN_n h (by decide)]; exact hCW) dL_act_321
  · skip
    have hCW : CW G a (stN (cIn st.1 p9) (upN st.1 (ix p9) (addI (st.1 (ix p9)))) st.1, st.2) H := by rw [← ht]; exact hB
    refine lv_goto (tgt := 306) hx hb dL_act_9 (by decide) ?_
    refine retw (Nat.le_of_ble_eq_true rfl) (Nat.le_of_ble_eq_true rfl) ?_
    exact en_wi () hx hb hr hlocks hS (AR.x0 hp.1 hp.2) hCW dL_act_306
set_option maxHeartbeats 4000000 in
set_option maxRecDepth 100000 in
theorem w_act_gate (l : Launch) (hfl : l.stackTraces = false) (G : GG) (a : Nat → Nat) (ha : Inj a) (t9 : Nat) (st : ST) (p9 kd9 f9 s9 : Int32) (hO : OKS st) : vx_Met l yL_act wsL_act ({ frames := 8, cells := 5, slots := 30, locals := 128 } : Room) (PcW G a t9 [.ref (a 0), .int (nI 1), .int p9, .int kd9, .int f9, .int s9] (fun H => CW G a st H)) (QI (fun (r : Int32) (_ : Unit) => AR (cGa st.1 p9 kd9 f9 s9) r (r = nI (nG (st.1 (ix p9))))) (fun _ H => CW G a (stN (cGa st.1 p9 kd9 f9 s9) (upN st.1 (ix p9) (addG (st.1 (ix p9)) (ix kd9) (ix f9) (if ix kd9 = 3 then ix f9 else ix s9))) st.1, st.2) H) (rng a 0 93)) (fun _ _ _ => False) 5 30 (rng a 0 93) := by
  refine vx_ofWH (cc := cL_act) (maxL := 7) (ret := some .int) (hh := [(0, 306, 307, 73), (0, 306, 312, 76), (0, 306, 317, 79)]) (by decide) rfl ?_
  intro p e s m args below meth c s₁ B hml hv
  obtain ⟨⟨⟨⟨rfl, hCW, hK, hNW⟩, hLow⟩, hX⟩, hNC⟩ := hv
  have hx := B.exec
  have hb := B.bytes
  have hr := B.returns
  have hts := atoms_spec (ws := wsL_act) B.pre
  have hown : s.vm.findClass RL = some m.cls := findClass_of_methodNamed B.named
  have hlocks := B.notSynchronized
  have htab : c.exceptionTable.toList = tableOf [(0, 306, 307, 73), (0, 306, 312, 76), (0, 306, 317, 79)] := vx_table (x := yL_act) B (hts _ List.mem_cons_self)
  have FX : CallFix p m c cL_act 7 s ([.ref (a 0), .int (nI 1), .int p9, .int kd9, .int f9, .int s9] : List Value).toArray wsL_act RL := ⟨hx, hb, hml, hown, hts⟩
  have hl := lv_entry ([.ref (a 0), .int (nI 1), .int p9, .int kd9, .int f9, .int s9]) (n := 7) (Nat.le_of_ble_eq_true rfl)
  rw [lg_entry_eq]
  generalize (lg_sl ([.ref (a 0), .int (nI 1), .int p9, .int kd9, .int f9, .int s9]) ++ List.replicate (7 - (lg_sl ([.ref (a 0), .int (nI 1), .int p9, .int kd9, .int f9, .int s9])).length) Slot.unset).toArray = ls at hl ⊢
  have hl : lv_has ls 7 [(0, .ref (a 0)), (1, .int (nI 1)), (2, .int p9), (3, .int kd9), (4, .int f9), (5, .int s9)] := hl
  have hS : va_S (rng a 0 93) s.heap s.heap [] := va_S.rf
  refine lv_iload_n hx hb dL_act_0 rfl (lv_at hl 1 rfl) ?_
  refine lv_if_ne (tgt := 12) hx hb dL_act_1 (by decide) (fun _ => ?_) (fun c => absurd c (by decide))
  refine lv_iload_n hx hb dL_act_12 rfl (lv_at hl 1 rfl) ?_
  refine lv_iconst (v := nI 1) hx hb dL_act_13 (by decide) ?_
  refine lv_icmp_ne (tgt := 30) hx hb dL_act_14 (by decide) (fun c => absurd c (by decide)) (fun _ => ?_)
  refine lv_aload_n hx hb dL_act_17 rfl (lv_at hl 0 rfl) ?_
  refine lv_iload_n hx hb dL_act_18 rfl (lv_at hl 2 rfl) ?_
  refine lv_iload_n hx hb dL_act_19 rfl (lv_at hl 3 rfl) ?_
  refine lv_iload hx hb dL_act_20 (lv_at hl 4 rfl) ?_
  refine lv_iload hx hb dL_act_22 (lv_at hl 5 rfl) ?_
  refine vx_calli (vx_runV (As := [.int p9, .int kd9, .int f9, .int s9]) (rest := []) FX (k_X11_gate l hfl G a ha t9 st p9 kd9 f9 s9 hO) (cwV 4 hts gL_act_X11_gate rfl rfl rfl (by decide +kernel) ⟨Nat.le_of_ble_eq_true rfl, Nat.le_of_ble_eq_true rfl⟩) (preVX hK hNW hCW (hLow.at hS (fun q9 _ q => rng_M q9 q)) (hX.at hS (fun q9 _ q => rng_M q9 q)) (cw_recv hK hCW)) rfl rfl hl.1 rfl (lv_room (Nat.le_of_ble_eq_true rfl)) dL_act_24 ⟨Nat.le_of_ble_eq_true rfl, Nat.le_of_ble_eq_true rfl⟩) hS (fun q _ h => h) (fun q h => h) (fun q _ h => h) (fun E ce q9 u t H locs ht hal _ hBX hsz hk hS hce hcv hcl => ?_) (fun r u t H locs ht hal hp hB hsz hk hS => ?_)
  · skip
    have hCW : CW G a st H := by rw [← ht]; exact hBX.2
    rcases hBX.1 with ⟨rfl, h⟩ | ⟨rfl, h⟩ | ⟨rfl, h⟩
    · skip
      refine vx_catch hown [] ⟨0, 306, 307, 73⟩ [⟨0, 306, 312, 76⟩, ⟨0, 306, 317, 79⟩] htab (fun z hz => absurd hz List.not_mem_nil) (by decide) (show 73 ≠ 0 by decide) (hts (.classLink RL 73 "java/lang/IndexOutOfBoundsException") (List.mem_of_getElem? (i := 1) (by decide +kernel))) (va_Nw.use rfl hX.2.1.2.1) hce hcv hcl ?_
      refine lv_astore (lv' := [(6, .ref q9), (0, .ref (a 0)), (1, .int (nI 1)), (2, .int p9), (3, .int kd9), (4, .int f9), (5, .int s9)]) hx hb dL_act_307 hl (by decide) rfl (fun ls hl => ?_)
      refine lv_ldc (v := -7000001) hx hb hown (hts (.constant RL 75 (-7000001)) (List.mem_of_getElem? (i := 4) (by decide +kernel))) dL_act_309 ?_
      refine retw (Nat.le_of_ble_eq_true rfl) (Nat.le_of_ble_eq_true rfl) ?_
      exact en_wi () hx hb hr hlocks hS (AR.x1 h) (by rw [stN_n h (by decide)]; exact hCW) dL_act_311
    · skip
      refine vx_catch hown [⟨0, 306, 307, 73⟩] ⟨0, 306, 312, 76⟩ [⟨0, 306, 317, 79⟩] htab (List.forall_mem_cons.mpr ⟨Or.inr ⟨(show 73 ≠ 0 by decide), _, (hts (.classLink RL 73 "java/lang/IndexOutOfBoundsException") (List.mem_of_getElem? (i := 1) (by decide +kernel))), hNC.1⟩, (fun z hz => absurd hz List.not_mem_nil)⟩) (by decide) (show 76 ≠ 0 by decide) (hts (.classLink RL 76 "java/lang/IllegalArgumentException") (List.mem_of_getElem? (i := 2) (by decide +kernel))) (va_Nw.use rfl hX.2.1.2.2.1) hce hcv hcl ?_
      refine lv_astore (lv' := [(6, .ref q9), (0, .ref (a 0)), (1, .int (nI 1)), (2, .int p9), (3, .int kd9), (4, .int f9), (5, .int s9)]) hx hb dL_act_312 hl (by decide) rfl (fun ls hl => ?_)
      refine lv_ldc (v := -7000002) hx hb hown (hts (.constant RL 78 (-7000002)) (List.mem_of_getElem? (i := 5) (by decide +kernel))) dL_act_314 ?_
      refine retw (Nat.le_of_ble_eq_true rfl) (Nat.le_of_ble_eq_true rfl) ?_
      exact en_wi () hx hb hr hlocks hS (AR.x2 h) (by rw [stN_n h (by decide)]; exact hCW) dL_act_316
    · skip
      refine vx_catch hown [⟨0, 306, 307, 73⟩, ⟨0, 306, 312, 76⟩] ⟨0, 306, 317, 79⟩ [] htab (List.forall_mem_cons.mpr ⟨Or.inr ⟨(show 73 ≠ 0 by decide), _, (hts (.classLink RL 73 "java/lang/IndexOutOfBoundsException") (List.mem_of_getElem? (i := 1) (by decide +kernel))), hNC.2.1⟩, (List.forall_mem_cons.mpr ⟨Or.inr ⟨(show 76 ≠ 0 by decide), _, (hts (.classLink RL 76 "java/lang/IllegalArgumentException") (List.mem_of_getElem? (i := 2) (by decide +kernel))), hNC.2.2⟩, (fun z hz => absurd hz List.not_mem_nil)⟩)⟩) (by decide) (show 79 ≠ 0 by decide) (hts (.classLink RL 79 "java/lang/IllegalStateException") (List.mem_of_getElem? (i := 3) (by decide +kernel))) (va_Nw.use rfl hX.2.1.2.2.2) hce hcv hcl ?_
      refine lv_astore (lv' := [(6, .ref q9), (0, .ref (a 0)), (1, .int (nI 1)), (2, .int p9), (3, .int kd9), (4, .int f9), (5, .int s9)]) hx hb dL_act_317 hl (by decide) rfl (fun ls hl => ?_)
      refine lv_ldc (v := -7000003) hx hb hown (hts (.constant RL 81 (-7000003)) (List.mem_of_getElem? (i := 6) (by decide +kernel))) dL_act_319 ?_
      refine retw (Nat.le_of_ble_eq_true rfl) (Nat.le_of_ble_eq_true rfl) ?_
      exact en_wi () hx hb hr hlocks hS (AR.x3 h) (by rw [stN_n h (by decide)]; exact hCW) dL_act_321
  · skip
    have hCW : CW G a (stN (cGa st.1 p9 kd9 f9 s9) (upN st.1 (ix p9) (addG (st.1 (ix p9)) (ix kd9) (ix f9) (if ix kd9 = 3 then ix f9 else ix s9))) st.1, st.2) H := by rw [← ht]; exact hB
    refine lv_goto (tgt := 306) hx hb dL_act_27 (by decide) ?_
    refine retw (Nat.le_of_ble_eq_true rfl) (Nat.le_of_ble_eq_true rfl) ?_
    exact en_wi () hx hb hr hlocks hS (AR.x0 hp.1 hp.2) hCW dL_act_306
set_option maxHeartbeats 4000000 in
set_option maxRecDepth 100000 in
theorem w_act_out (l : Launch) (hfl : l.stackTraces = false) (G : GG) (a : Nat → Nat) (ha : Inj a) (t9 : Nat) (st : ST) (p9 g9 u09 u19 : Int32) (hO : OKS st) : vx_Met l yL_act wsL_act ({ frames := 8, cells := 3, slots := 18, locals := 126 } : Room) (PcW G a t9 [.ref (a 0), .int (nI 2), .int p9, .int g9, .int u09, .int u19] (fun H => CW G a st H)) (QI (fun (r : Int32) (_ : Unit) => AR (cOu st.1 p9 g9) r (r = nI (nO (st.1 (ix p9))))) (fun _ H => CW G a (stN (cOu st.1 p9 g9) (upN st.1 (ix p9) (addO (st.1 (ix p9)) (ix g9))) st.1, st.2) H) (rng a 0 93)) (fun _ _ _ => False) 3 18 (rng a 0 93) := by
  refine vx_ofWH (cc := cL_act) (maxL := 7) (ret := some .int) (hh := [(0, 306, 307, 73), (0, 306, 312, 76), (0, 306, 317, 79)]) (by decide) rfl ?_
  intro p e s m args below meth c s₁ B hml hv
  obtain ⟨⟨⟨⟨rfl, hCW, hK, hNW⟩, hLow⟩, hX⟩, hNC⟩ := hv
  have hx := B.exec
  have hb := B.bytes
  have hr := B.returns
  have hts := atoms_spec (ws := wsL_act) B.pre
  have hown : s.vm.findClass RL = some m.cls := findClass_of_methodNamed B.named
  have hlocks := B.notSynchronized
  have htab : c.exceptionTable.toList = tableOf [(0, 306, 307, 73), (0, 306, 312, 76), (0, 306, 317, 79)] := vx_table (x := yL_act) B (hts _ List.mem_cons_self)
  have FX : CallFix p m c cL_act 7 s ([.ref (a 0), .int (nI 2), .int p9, .int g9, .int u09, .int u19] : List Value).toArray wsL_act RL := ⟨hx, hb, hml, hown, hts⟩
  have hl := lv_entry ([.ref (a 0), .int (nI 2), .int p9, .int g9, .int u09, .int u19]) (n := 7) (Nat.le_of_ble_eq_true rfl)
  rw [lg_entry_eq]
  generalize (lg_sl ([.ref (a 0), .int (nI 2), .int p9, .int g9, .int u09, .int u19]) ++ List.replicate (7 - (lg_sl ([.ref (a 0), .int (nI 2), .int p9, .int g9, .int u09, .int u19])).length) Slot.unset).toArray = ls at hl ⊢
  have hl : lv_has ls 7 [(0, .ref (a 0)), (1, .int (nI 2)), (2, .int p9), (3, .int g9), (4, .int u09), (5, .int u19)] := hl
  have hS : va_S (rng a 0 93) s.heap s.heap [] := va_S.rf
  refine lv_iload_n hx hb dL_act_0 rfl (lv_at hl 1 rfl) ?_
  refine lv_if_ne (tgt := 12) hx hb dL_act_1 (by decide) (fun _ => ?_) (fun c => absurd c (by decide))
  refine lv_iload_n hx hb dL_act_12 rfl (lv_at hl 1 rfl) ?_
  refine lv_iconst (v := nI 1) hx hb dL_act_13 (by decide) ?_
  refine lv_icmp_ne (tgt := 30) hx hb dL_act_14 (by decide) (fun _ => ?_) (fun c => absurd c (by decide))
  refine lv_iload_n hx hb dL_act_30 rfl (lv_at hl 1 rfl) ?_
  refine lv_iconst (v := nI 2) hx hb dL_act_31 (by decide) ?_
  refine lv_icmp_ne (tgt := 44) hx hb dL_act_32 (by decide) (fun c => absurd c (by decide)) (fun _ => ?_)
  refine lv_aload_n hx hb dL_act_35 rfl (lv_at hl 0 rfl) ?_
  refine lv_iload_n hx hb dL_act_36 rfl (lv_at hl 2 rfl) ?_
  refine lv_iload_n hx hb dL_act_37 rfl (lv_at hl 3 rfl) ?_
  refine vx_calli (vx_runV (As := [.int p9, .int g9]) (rest := []) FX (k_X11_out l hfl G a ha t9 st p9 g9 hO) (cwV 2 hts gL_act_X11_out rfl rfl rfl (by decide +kernel) ⟨Nat.le_of_ble_eq_true rfl, Nat.le_of_ble_eq_true rfl⟩) (preVX hK hNW hCW (hLow.at hS (fun q9 _ q => rng_M q9 q)) (hX.at hS (fun q9 _ q => rng_M q9 q)) (cw_recv hK hCW)) rfl rfl hl.1 rfl (lv_room (Nat.le_of_ble_eq_true rfl)) dL_act_38 ⟨Nat.le_of_ble_eq_true rfl, Nat.le_of_ble_eq_true rfl⟩) hS (fun q _ h => h) (fun q h => h) (fun q _ h => h) (fun E ce q9 u t H locs ht hal _ hBX hsz hk hS hce hcv hcl => ?_) (fun r u t H locs ht hal hp hB hsz hk hS => ?_)
  · skip
    have hCW : CW G a st H := by rw [← ht]; exact hBX.2
    rcases hBX.1 with ⟨rfl, h⟩ | ⟨rfl, h⟩ | ⟨rfl, h⟩
    · skip
      refine vx_catch hown [] ⟨0, 306, 307, 73⟩ [⟨0, 306, 312, 76⟩, ⟨0, 306, 317, 79⟩] htab (fun z hz => absurd hz List.not_mem_nil) (by decide) (show 73 ≠ 0 by decide) (hts (.classLink RL 73 "java/lang/IndexOutOfBoundsException") (List.mem_of_getElem? (i := 1) (by decide +kernel))) (va_Nw.use rfl hX.2.1.2.1) hce hcv hcl ?_
      refine lv_astore (lv' := [(6, .ref q9), (0, .ref (a 0)), (1, .int (nI 2)), (2, .int p9), (3, .int g9), (4, .int u09), (5, .int u19)]) hx hb dL_act_307 hl (by decide) rfl (fun ls hl => ?_)
      refine lv_ldc (v := -7000001) hx hb hown (hts (.constant RL 75 (-7000001)) (List.mem_of_getElem? (i := 4) (by decide +kernel))) dL_act_309 ?_
      refine retw (Nat.le_of_ble_eq_true rfl) (Nat.le_of_ble_eq_true rfl) ?_
      exact en_wi () hx hb hr hlocks hS (AR.x1 h) (by rw [stN_n h (by decide)]; exact hCW) dL_act_311
    · skip
      refine vx_catch hown [⟨0, 306, 307, 73⟩] ⟨0, 306, 312, 76⟩ [⟨0, 306, 317, 79⟩] htab (List.forall_mem_cons.mpr ⟨Or.inr ⟨(show 73 ≠ 0 by decide), _, (hts (.classLink RL 73 "java/lang/IndexOutOfBoundsException") (List.mem_of_getElem? (i := 1) (by decide +kernel))), hNC.1⟩, (fun z hz => absurd hz List.not_mem_nil)⟩) (by decide) (show 76 ≠ 0 by decide) (hts (.classLink RL 76 "java/lang/IllegalArgumentException") (List.mem_of_getElem? (i := 2) (by decide +kernel))) (va_Nw.use rfl hX.2.1.2.2.1) hce hcv hcl ?_
      refine lv_astore (lv' := [(6, .ref q9), (0, .ref (a 0)), (1, .int (nI 2)), (2, .int p9), (3, .int g9), (4, .int u09), (5, .int u19)]) hx hb dL_act_312 hl (by decide) rfl (fun ls hl => ?_)
      refine lv_ldc (v := -7000002) hx hb hown (hts (.constant RL 78 (-7000002)) (List.mem_of_getElem? (i := 5) (by decide +kernel))) dL_act_314 ?_
      refine retw (Nat.le_of_ble_eq_true rfl) (Nat.le_of_ble_eq_true rfl) ?_
      exact en_wi () hx hb hr hlocks hS (AR.x2 h) (by rw [stN_n h (by decide)]; exact hCW) dL_act_316
    · skip
      refine vx_catch hown [⟨0, 306, 307, 73⟩, ⟨0, 306, 312, 76⟩] ⟨0, 306, 317, 79⟩ [] htab (List.forall_mem_cons.mpr ⟨Or.inr ⟨(show 73 ≠ 0 by decide), _, (hts (.classLink RL 73 "java/lang/IndexOutOfBoundsException") (List.mem_of_getElem? (i := 1) (by decide +kernel))), hNC.2.1⟩, (List.forall_mem_cons.mpr ⟨Or.inr ⟨(show 76 ≠ 0 by decide), _, (hts (.classLink RL 76 "java/lang/IllegalArgumentException") (List.mem_of_getElem? (i := 2) (by decide +kernel))), hNC.2.2⟩, (fun z hz => absurd hz List.not_mem_nil)⟩)⟩) (by decide) (show 79 ≠ 0 by decide) (hts (.classLink RL 79 "java/lang/IllegalStateException") (List.mem_of_getElem? (i := 3) (by decide +kernel))) (va_Nw.use rfl hX.2.1.2.2.2) hce hcv hcl ?_
      refine lv_astore (lv' := [(6, .ref q9), (0, .ref (a 0)), (1, .int (nI 2)), (2, .int p9), (3, .int g9), (4, .int u09), (5, .int u19)]) hx hb dL_act_317 hl (by decide) rfl (fun ls hl => ?_)
      refine lv_ldc (v := -7000003) hx hb hown (hts (.constant RL 81 (-7000003)) (List.mem_of_getElem? (i := 6) (by decide +kernel))) dL_act_319 ?_
      refine retw (Nat.le_of_ble_eq_true rfl) (Nat.le_of_ble_eq_true rfl) ?_
      exact en_wi () hx hb hr hlocks hS (AR.x3 h) (by rw [stN_n h (by decide)]; exact hCW) dL_act_321
  · skip
    have hCW : CW G a (stN (cOu st.1 p9 g9) (upN st.1 (ix p9) (addO (st.1 (ix p9)) (ix g9))) st.1, st.2) H := by rw [← ht]; exact hB
    refine lv_goto (tgt := 306) hx hb dL_act_41 (by decide) ?_
    refine retw (Nat.le_of_ble_eq_true rfl) (Nat.le_of_ble_eq_true rfl) ?_
    exact en_wi () hx hb hr hlocks hS (AR.x0 hp.1 hp.2) hCW dL_act_306
set_option maxHeartbeats 4000000 in
set_option maxRecDepth 100000 in
theorem w_act_adder (l : Launch) (hfl : l.stackTraces = false) (G : GG) (a : Nat → Nat) (ha : Inj a) (t9 : Nat) (st : ST) (p9 m9 w9 u09 : Int32) (hO : OKS st) : vx_Met l yL_act wsL_act ({ frames := 8, cells := 4, slots := 24, locals := 145 } : Room) (PcW G a t9 [.ref (a 0), .int (nI 3), .int p9, .int m9, .int w9, .int u09] (fun H => CW G a st H)) (QI (fun (r : Int32) (_ : Unit) => AR (cAd st.1 p9 m9 w9) r (r = nI (nG (if ix m9 = 0 then ripN (st.1 (ix p9)) (ix w9) else joiN (ix m9 = 1) (st.1 (ix p9)) (ix w9))))) (fun _ H => CW G a (stN (cAd st.1 p9 m9 w9) (upN st.1 (ix p9) (if ix m9 = 0 then ripN (st.1 (ix p9)) (ix w9) else joiN (ix m9 = 1) (st.1 (ix p9)) (ix w9))) st.1, st.2) H) (rng a 0 93)) (fun _ _ _ => False) 4 24 (rng a 0 93) := by
  refine vx_ofWH (cc := cL_act) (maxL := 7) (ret := some .int) (hh := [(0, 306, 307, 73), (0, 306, 312, 76), (0, 306, 317, 79)]) (by decide) rfl ?_
  intro p e s m args below meth c s₁ B hml hv
  obtain ⟨⟨⟨⟨rfl, hCW, hK, hNW⟩, hLow⟩, hX⟩, hNC⟩ := hv
  have hx := B.exec
  have hb := B.bytes
  have hr := B.returns
  have hts := atoms_spec (ws := wsL_act) B.pre
  have hown : s.vm.findClass RL = some m.cls := findClass_of_methodNamed B.named
  have hlocks := B.notSynchronized
  have htab : c.exceptionTable.toList = tableOf [(0, 306, 307, 73), (0, 306, 312, 76), (0, 306, 317, 79)] := vx_table (x := yL_act) B (hts _ List.mem_cons_self)
  have FX : CallFix p m c cL_act 7 s ([.ref (a 0), .int (nI 3), .int p9, .int m9, .int w9, .int u09] : List Value).toArray wsL_act RL := ⟨hx, hb, hml, hown, hts⟩
  have hl := lv_entry ([.ref (a 0), .int (nI 3), .int p9, .int m9, .int w9, .int u09]) (n := 7) (Nat.le_of_ble_eq_true rfl)
  rw [lg_entry_eq]
  generalize (lg_sl ([.ref (a 0), .int (nI 3), .int p9, .int m9, .int w9, .int u09]) ++ List.replicate (7 - (lg_sl ([.ref (a 0), .int (nI 3), .int p9, .int m9, .int w9, .int u09])).length) Slot.unset).toArray = ls at hl ⊢
  have hl : lv_has ls 7 [(0, .ref (a 0)), (1, .int (nI 3)), (2, .int p9), (3, .int m9), (4, .int w9), (5, .int u09)] := hl
  have hS : va_S (rng a 0 93) s.heap s.heap [] := va_S.rf
  refine lv_iload_n hx hb dL_act_0 rfl (lv_at hl 1 rfl) ?_
  refine lv_if_ne (tgt := 12) hx hb dL_act_1 (by decide) (fun _ => ?_) (fun c => absurd c (by decide))
  refine lv_iload_n hx hb dL_act_12 rfl (lv_at hl 1 rfl) ?_
  refine lv_iconst (v := nI 1) hx hb dL_act_13 (by decide) ?_
  refine lv_icmp_ne (tgt := 30) hx hb dL_act_14 (by decide) (fun _ => ?_) (fun c => absurd c (by decide))
  refine lv_iload_n hx hb dL_act_30 rfl (lv_at hl 1 rfl) ?_
  refine lv_iconst (v := nI 2) hx hb dL_act_31 (by decide) ?_
  refine lv_icmp_ne (tgt := 44) hx hb dL_act_32 (by decide) (fun _ => ?_) (fun c => absurd c (by decide))
  refine lv_iload_n hx hb dL_act_44 rfl (lv_at hl 1 rfl) ?_
  refine lv_iconst (v := nI 3) hx hb dL_act_45 (by decide) ?_
  refine lv_icmp_ne (tgt := 60) hx hb dL_act_46 (by decide) (fun c => absurd c (by decide)) (fun _ => ?_)
  refine lv_aload_n hx hb dL_act_49 rfl (lv_at hl 0 rfl) ?_
  refine lv_iload_n hx hb dL_act_50 rfl (lv_at hl 2 rfl) ?_
  refine lv_iload_n hx hb dL_act_51 rfl (lv_at hl 3 rfl) ?_
  refine lv_iload hx hb dL_act_52 (lv_at hl 4 rfl) ?_
  refine vx_calli (vx_runV (As := [.int p9, .int m9, .int w9]) (rest := []) FX (k_X11_adder l hfl G a ha t9 st p9 m9 w9 hO) (cwV 3 hts gL_act_X11_adder rfl rfl rfl (by decide +kernel) ⟨Nat.le_of_ble_eq_true rfl, Nat.le_of_ble_eq_true rfl⟩) (preVX hK hNW hCW (hLow.at hS (fun q9 _ q => rng_M q9 q)) (hX.at hS (fun q9 _ q => rng_M q9 q)) (cw_recv hK hCW)) rfl rfl hl.1 rfl (lv_room (Nat.le_of_ble_eq_true rfl)) dL_act_54 ⟨Nat.le_of_ble_eq_true rfl, Nat.le_of_ble_eq_true rfl⟩) hS (fun q _ h => h) (fun q h => h) (fun q _ h => h) (fun E ce q9 u t H locs ht hal _ hBX hsz hk hS hce hcv hcl => ?_) (fun r u t H locs ht hal hp hB hsz hk hS => ?_)
  · skip
    have hCW : CW G a st H := by rw [← ht]; exact hBX.2
    rcases hBX.1 with ⟨rfl, h⟩ | ⟨rfl, h⟩ | ⟨rfl, h⟩
    · skip
      refine vx_catch hown [] ⟨0, 306, 307, 73⟩ [⟨0, 306, 312, 76⟩, ⟨0, 306, 317, 79⟩] htab (fun z hz => absurd hz List.not_mem_nil) (by decide) (show 73 ≠ 0 by decide) (hts (.classLink RL 73 "java/lang/IndexOutOfBoundsException") (List.mem_of_getElem? (i := 1) (by decide +kernel))) (va_Nw.use rfl hX.2.1.2.1) hce hcv hcl ?_
      refine lv_astore (lv' := [(6, .ref q9), (0, .ref (a 0)), (1, .int (nI 3)), (2, .int p9), (3, .int m9), (4, .int w9), (5, .int u09)]) hx hb dL_act_307 hl (by decide) rfl (fun ls hl => ?_)
      refine lv_ldc (v := -7000001) hx hb hown (hts (.constant RL 75 (-7000001)) (List.mem_of_getElem? (i := 4) (by decide +kernel))) dL_act_309 ?_
      refine retw (Nat.le_of_ble_eq_true rfl) (Nat.le_of_ble_eq_true rfl) ?_
      exact en_wi () hx hb hr hlocks hS (AR.x1 h) (by rw [stN_n h (by decide)]; exact hCW) dL_act_311
    · skip
      refine vx_catch hown [⟨0, 306, 307, 73⟩] ⟨0, 306, 312, 76⟩ [⟨0, 306, 317, 79⟩] htab (List.forall_mem_cons.mpr ⟨Or.inr ⟨(show 73 ≠ 0 by decide), _, (hts (.classLink RL 73 "java/lang/IndexOutOfBoundsException") (List.mem_of_getElem? (i := 1) (by decide +kernel))), hNC.1⟩, (fun z hz => absurd hz List.not_mem_nil)⟩) (by decide) (show 76 ≠ 0 by decide) (hts (.classLink RL 76 "java/lang/IllegalArgumentException") (List.mem_of_getElem? (i := 2) (by decide +kernel))) (va_Nw.use rfl hX.2.1.2.2.1) hce hcv hcl ?_
      refine lv_astore (lv' := [(6, .ref q9), (0, .ref (a 0)), (1, .int (nI 3)), (2, .int p9), (3, .int m9), (4, .int w9), (5, .int u09)]) hx hb dL_act_312 hl (by decide) rfl (fun ls hl => ?_)
      refine lv_ldc (v := -7000002) hx hb hown (hts (.constant RL 78 (-7000002)) (List.mem_of_getElem? (i := 5) (by decide +kernel))) dL_act_314 ?_
      refine retw (Nat.le_of_ble_eq_true rfl) (Nat.le_of_ble_eq_true rfl) ?_
      exact en_wi () hx hb hr hlocks hS (AR.x2 h) (by rw [stN_n h (by decide)]; exact hCW) dL_act_316
    · skip
      refine vx_catch hown [⟨0, 306, 307, 73⟩, ⟨0, 306, 312, 76⟩] ⟨0, 306, 317, 79⟩ [] htab (List.forall_mem_cons.mpr ⟨Or.inr ⟨(show 73 ≠ 0 by decide), _, (hts (.classLink RL 73 "java/lang/IndexOutOfBoundsException") (List.mem_of_getElem? (i := 1) (by decide +kernel))), hNC.2.1⟩, (List.forall_mem_cons.mpr ⟨Or.inr ⟨(show 76 ≠ 0 by decide), _, (hts (.classLink RL 76 "java/lang/IllegalArgumentException") (List.mem_of_getElem? (i := 2) (by decide +kernel))), hNC.2.2⟩, (fun z hz => absurd hz List.not_mem_nil)⟩)⟩) (by decide) (show 79 ≠ 0 by decide) (hts (.classLink RL 79 "java/lang/IllegalStateException") (List.mem_of_getElem? (i := 3) (by decide +kernel))) (va_Nw.use rfl hX.2.1.2.2.2) hce hcv hcl ?_
      refine lv_astore (lv' := [(6, .ref q9), (0, .ref (a 0)), (1, .int (nI 3)), (2, .int p9), (3, .int m9), (4, .int w9), (5, .int u09)]) hx hb dL_act_317 hl (by decide) rfl (fun ls hl => ?_)
      refine lv_ldc (v := -7000003) hx hb hown (hts (.constant RL 81 (-7000003)) (List.mem_of_getElem? (i := 6) (by decide +kernel))) dL_act_319 ?_
      refine retw (Nat.le_of_ble_eq_true rfl) (Nat.le_of_ble_eq_true rfl) ?_
      exact en_wi () hx hb hr hlocks hS (AR.x3 h) (by rw [stN_n h (by decide)]; exact hCW) dL_act_321
  · skip
    have hCW : CW G a (stN (cAd st.1 p9 m9 w9) (upN st.1 (ix p9) (if ix m9 = 0 then ripN (st.1 (ix p9)) (ix w9) else joiN (ix m9 = 1) (st.1 (ix p9)) (ix w9))) st.1, st.2) H := by rw [← ht]; exact hB
    refine lv_goto (tgt := 306) hx hb dL_act_57 (by decide) ?_
    refine retw (Nat.le_of_ble_eq_true rfl) (Nat.le_of_ble_eq_true rfl) ?_
    exact en_wi () hx hb hr hlocks hS (AR.x0 hp.1 hp.2) hCW dL_act_306
set_option maxHeartbeats 4000000 in
set_option maxRecDepth 100000 in
theorem w_act_multiplier (l : Launch) (hfl : l.stackTraces = false) (G : GG) (a : Nat → Nat) (ha : Inj a) (t9 : Nat) (st : ST) (p9 w9 u09 u19 : Int32) (hO : OKS st) : vx_Met l yL_act wsL_act ({ frames := 8, cells := 3, slots := 18, locals := 168 } : Room) (PcW G a t9 [.ref (a 0), .int (nI 4), .int p9, .int w9, .int u09, .int u19] (fun H => CW G a st H)) (QI (fun (r : Int32) (_ : Unit) => AR (cMu st.1 p9 w9) r (r = nI (nG (mulN (st.1 (ix p9)) (ix w9))))) (fun _ H => CW G a (stN (cMu st.1 p9 w9) (upN st.1 (ix p9) (mulN (st.1 (ix p9)) (ix w9))) st.1, st.2) H) (rng a 0 93)) (fun _ _ _ => False) 3 18 (rng a 0 93) := by
  refine vx_ofWH (cc := cL_act) (maxL := 7) (ret := some .int) (hh := [(0, 306, 307, 73), (0, 306, 312, 76), (0, 306, 317, 79)]) (by decide) rfl ?_
  intro p e s m args below meth c s₁ B hml hv
  obtain ⟨⟨⟨⟨rfl, hCW, hK, hNW⟩, hLow⟩, hX⟩, hNC⟩ := hv
  have hx := B.exec
  have hb := B.bytes
  have hr := B.returns
  have hts := atoms_spec (ws := wsL_act) B.pre
  have hown : s.vm.findClass RL = some m.cls := findClass_of_methodNamed B.named
  have hlocks := B.notSynchronized
  have htab : c.exceptionTable.toList = tableOf [(0, 306, 307, 73), (0, 306, 312, 76), (0, 306, 317, 79)] := vx_table (x := yL_act) B (hts _ List.mem_cons_self)
  have FX : CallFix p m c cL_act 7 s ([.ref (a 0), .int (nI 4), .int p9, .int w9, .int u09, .int u19] : List Value).toArray wsL_act RL := ⟨hx, hb, hml, hown, hts⟩
  have hl := lv_entry ([.ref (a 0), .int (nI 4), .int p9, .int w9, .int u09, .int u19]) (n := 7) (Nat.le_of_ble_eq_true rfl)
  rw [lg_entry_eq]
  generalize (lg_sl ([.ref (a 0), .int (nI 4), .int p9, .int w9, .int u09, .int u19]) ++ List.replicate (7 - (lg_sl ([.ref (a 0), .int (nI 4), .int p9, .int w9, .int u09, .int u19])).length) Slot.unset).toArray = ls at hl ⊢
  have hl : lv_has ls 7 [(0, .ref (a 0)), (1, .int (nI 4)), (2, .int p9), (3, .int w9), (4, .int u09), (5, .int u19)] := hl
  have hS : va_S (rng a 0 93) s.heap s.heap [] := va_S.rf
  refine lv_iload_n hx hb dL_act_0 rfl (lv_at hl 1 rfl) ?_
  refine lv_if_ne (tgt := 12) hx hb dL_act_1 (by decide) (fun _ => ?_) (fun c => absurd c (by decide))
  refine lv_iload_n hx hb dL_act_12 rfl (lv_at hl 1 rfl) ?_
  refine lv_iconst (v := nI 1) hx hb dL_act_13 (by decide) ?_
  refine lv_icmp_ne (tgt := 30) hx hb dL_act_14 (by decide) (fun _ => ?_) (fun c => absurd c (by decide))
  refine lv_iload_n hx hb dL_act_30 rfl (lv_at hl 1 rfl) ?_
  refine lv_iconst (v := nI 2) hx hb dL_act_31 (by decide) ?_
  refine lv_icmp_ne (tgt := 44) hx hb dL_act_32 (by decide) (fun _ => ?_) (fun c => absurd c (by decide))
  refine lv_iload_n hx hb dL_act_44 rfl (lv_at hl 1 rfl) ?_
  refine lv_iconst (v := nI 3) hx hb dL_act_45 (by decide) ?_
  refine lv_icmp_ne (tgt := 60) hx hb dL_act_46 (by decide) (fun _ => ?_) (fun c => absurd c (by decide))
  refine lv_iload_n hx hb dL_act_60 rfl (lv_at hl 1 rfl) ?_
  refine lv_iconst (v := nI 4) hx hb dL_act_61 (by decide) ?_
  refine lv_icmp_ne (tgt := 74) hx hb dL_act_62 (by decide) (fun c => absurd c (by decide)) (fun _ => ?_)
  refine lv_aload_n hx hb dL_act_65 rfl (lv_at hl 0 rfl) ?_
  refine lv_iload_n hx hb dL_act_66 rfl (lv_at hl 2 rfl) ?_
  refine lv_iload_n hx hb dL_act_67 rfl (lv_at hl 3 rfl) ?_
  refine vx_calli (vx_runV (As := [.int p9, .int w9]) (rest := []) FX (k_X11_multiplier l hfl G a ha t9 st p9 w9 hO) (cwV 2 hts gL_act_X11_multiplier rfl rfl rfl (by decide +kernel) ⟨Nat.le_of_ble_eq_true rfl, Nat.le_of_ble_eq_true rfl⟩) (preVX hK hNW hCW (hLow.at hS (fun q9 _ q => rng_M q9 q)) (hX.at hS (fun q9 _ q => rng_M q9 q)) (cw_recv hK hCW)) rfl rfl hl.1 rfl (lv_room (Nat.le_of_ble_eq_true rfl)) dL_act_68 ⟨Nat.le_of_ble_eq_true rfl, Nat.le_of_ble_eq_true rfl⟩) hS (fun q _ h => h) (fun q h => h) (fun q _ h => h) (fun E ce q9 u t H locs ht hal _ hBX hsz hk hS hce hcv hcl => ?_) (fun r u t H locs ht hal hp hB hsz hk hS => ?_)
  · skip
    have hCW : CW G a st H := by rw [← ht]; exact hBX.2
    rcases hBX.1 with ⟨rfl, h⟩ | ⟨rfl, h⟩ | ⟨rfl, h⟩
    · skip
      refine vx_catch hown [] ⟨0, 306, 307, 73⟩ [⟨0, 306, 312, 76⟩, ⟨0, 306, 317, 79⟩] htab (fun z hz => absurd hz List.not_mem_nil) (by decide) (show 73 ≠ 0 by decide) (hts (.classLink RL 73 "java/lang/IndexOutOfBoundsException") (List.mem_of_getElem? (i := 1) (by decide +kernel))) (va_Nw.use rfl hX.2.1.2.1) hce hcv hcl ?_
      refine lv_astore (lv' := [(6, .ref q9), (0, .ref (a 0)), (1, .int (nI 4)), (2, .int p9), (3, .int w9), (4, .int u09), (5, .int u19)]) hx hb dL_act_307 hl (by decide) rfl (fun ls hl => ?_)
      refine lv_ldc (v := -7000001) hx hb hown (hts (.constant RL 75 (-7000001)) (List.mem_of_getElem? (i := 4) (by decide +kernel))) dL_act_309 ?_
      refine retw (Nat.le_of_ble_eq_true rfl) (Nat.le_of_ble_eq_true rfl) ?_
      exact en_wi () hx hb hr hlocks hS (AR.x1 h) (by rw [stN_n h (by decide)]; exact hCW) dL_act_311
    · skip
      refine vx_catch hown [⟨0, 306, 307, 73⟩] ⟨0, 306, 312, 76⟩ [⟨0, 306, 317, 79⟩] htab (List.forall_mem_cons.mpr ⟨Or.inr ⟨(show 73 ≠ 0 by decide), _, (hts (.classLink RL 73 "java/lang/IndexOutOfBoundsException") (List.mem_of_getElem? (i := 1) (by decide +kernel))), hNC.1⟩, (fun z hz => absurd hz List.not_mem_nil)⟩) (by decide) (show 76 ≠ 0 by decide) (hts (.classLink RL 76 "java/lang/IllegalArgumentException") (List.mem_of_getElem? (i := 2) (by decide +kernel))) (va_Nw.use rfl hX.2.1.2.2.1) hce hcv hcl ?_
      refine lv_astore (lv' := [(6, .ref q9), (0, .ref (a 0)), (1, .int (nI 4)), (2, .int p9), (3, .int w9), (4, .int u09), (5, .int u19)]) hx hb dL_act_312 hl (by decide) rfl (fun ls hl => ?_)
      refine lv_ldc (v := -7000002) hx hb hown (hts (.constant RL 78 (-7000002)) (List.mem_of_getElem? (i := 5) (by decide +kernel))) dL_act_314 ?_
      refine retw (Nat.le_of_ble_eq_true rfl) (Nat.le_of_ble_eq_true rfl) ?_
      exact en_wi () hx hb hr hlocks hS (AR.x2 h) (by rw [stN_n h (by decide)]; exact hCW) dL_act_316
    · skip
      refine vx_catch hown [⟨0, 306, 307, 73⟩, ⟨0, 306, 312, 76⟩] ⟨0, 306, 317, 79⟩ [] htab (List.forall_mem_cons.mpr ⟨Or.inr ⟨(show 73 ≠ 0 by decide), _, (hts (.classLink RL 73 "java/lang/IndexOutOfBoundsException") (List.mem_of_getElem? (i := 1) (by decide +kernel))), hNC.2.1⟩, (List.forall_mem_cons.mpr ⟨Or.inr ⟨(show 76 ≠ 0 by decide), _, (hts (.classLink RL 76 "java/lang/IllegalArgumentException") (List.mem_of_getElem? (i := 2) (by decide +kernel))), hNC.2.2⟩, (fun z hz => absurd hz List.not_mem_nil)⟩)⟩) (by decide) (show 79 ≠ 0 by decide) (hts (.classLink RL 79 "java/lang/IllegalStateException") (List.mem_of_getElem? (i := 3) (by decide +kernel))) (va_Nw.use rfl hX.2.1.2.2.2) hce hcv hcl ?_
      refine lv_astore (lv' := [(6, .ref q9), (0, .ref (a 0)), (1, .int (nI 4)), (2, .int p9), (3, .int w9), (4, .int u09), (5, .int u19)]) hx hb dL_act_317 hl (by decide) rfl (fun ls hl => ?_)
      refine lv_ldc (v := -7000003) hx hb hown (hts (.constant RL 81 (-7000003)) (List.mem_of_getElem? (i := 6) (by decide +kernel))) dL_act_319 ?_
      refine retw (Nat.le_of_ble_eq_true rfl) (Nat.le_of_ble_eq_true rfl) ?_
      exact en_wi () hx hb hr hlocks hS (AR.x3 h) (by rw [stN_n h (by decide)]; exact hCW) dL_act_321
  · skip
    have hCW : CW G a (stN (cMu st.1 p9 w9) (upN st.1 (ix p9) (mulN (st.1 (ix p9)) (ix w9))) st.1, st.2) H := by rw [← ht]; exact hB
    refine lv_goto (tgt := 306) hx hb dL_act_71 (by decide) ?_
    refine retw (Nat.le_of_ble_eq_true rfl) (Nat.le_of_ble_eq_true rfl) ?_
    exact en_wi () hx hb hr hlocks hS (AR.x0 hp.1 hp.2) hCW dL_act_306
set_option maxHeartbeats 4000000 in
set_option maxRecDepth 100000 in
theorem w_act_clear (l : Launch) (hfl : l.stackTraces = false) (G : GG) (a : Nat → Nat) (ha : Inj a) (t9 : Nat) (st : ST) (p9 u09 u19 u29 : Int32) (hO : OKS st) : vx_Met l yL_act wsL_act ({ frames := 8, cells := 1, slots := 6, locals := 126 } : Room) (PcW G a t9 [.ref (a 0), .int (nI 5), .int p9, .int u09, .int u19, .int u29] (fun H => CW G a st H)) (QI (fun (r : Int32) (_ : Unit) => AR (cCl p9) r (r = nI (nG (st.1 (ix p9))))) (fun _ H => CW G a (stN (cCl p9) (upN st.1 (ix p9) (clrN (st.1 (ix p9)))) st.1, st.2) H) (rng a 0 93)) (fun _ _ _ => False) 1 6 (rng a 0 93) := by
  refine vx_ofWH (cc := cL_act) (maxL := 7) (ret := some .int) (hh := [(0, 306, 307, 73), (0, 306, 312, 76), (0, 306, 317, 79)]) (by decide) rfl ?_
  intro p e s m args below meth c s₁ B hml hv
  obtain ⟨⟨⟨⟨rfl, hCW, hK, hNW⟩, hLow⟩, hX⟩, hNC⟩ := hv
  have hx := B.exec
  have hb := B.bytes
  have hr := B.returns
  have hts := atoms_spec (ws := wsL_act) B.pre
  have hown : s.vm.findClass RL = some m.cls := findClass_of_methodNamed B.named
  have hlocks := B.notSynchronized
  have htab : c.exceptionTable.toList = tableOf [(0, 306, 307, 73), (0, 306, 312, 76), (0, 306, 317, 79)] := vx_table (x := yL_act) B (hts _ List.mem_cons_self)
  have FX : CallFix p m c cL_act 7 s ([.ref (a 0), .int (nI 5), .int p9, .int u09, .int u19, .int u29] : List Value).toArray wsL_act RL := ⟨hx, hb, hml, hown, hts⟩
  have hl := lv_entry ([.ref (a 0), .int (nI 5), .int p9, .int u09, .int u19, .int u29]) (n := 7) (Nat.le_of_ble_eq_true rfl)
  rw [lg_entry_eq]
  generalize (lg_sl ([.ref (a 0), .int (nI 5), .int p9, .int u09, .int u19, .int u29]) ++ List.replicate (7 - (lg_sl ([.ref (a 0), .int (nI 5), .int p9, .int u09, .int u19, .int u29])).length) Slot.unset).toArray = ls at hl ⊢
  have hl : lv_has ls 7 [(0, .ref (a 0)), (1, .int (nI 5)), (2, .int p9), (3, .int u09), (4, .int u19), (5, .int u29)] := hl
  have hS : va_S (rng a 0 93) s.heap s.heap [] := va_S.rf
  refine lv_iload_n hx hb dL_act_0 rfl (lv_at hl 1 rfl) ?_
  refine lv_if_ne (tgt := 12) hx hb dL_act_1 (by decide) (fun _ => ?_) (fun c => absurd c (by decide))
  refine lv_iload_n hx hb dL_act_12 rfl (lv_at hl 1 rfl) ?_
  refine lv_iconst (v := nI 1) hx hb dL_act_13 (by decide) ?_
  refine lv_icmp_ne (tgt := 30) hx hb dL_act_14 (by decide) (fun _ => ?_) (fun c => absurd c (by decide))
  refine lv_iload_n hx hb dL_act_30 rfl (lv_at hl 1 rfl) ?_
  refine lv_iconst (v := nI 2) hx hb dL_act_31 (by decide) ?_
  refine lv_icmp_ne (tgt := 44) hx hb dL_act_32 (by decide) (fun _ => ?_) (fun c => absurd c (by decide))
  refine lv_iload_n hx hb dL_act_44 rfl (lv_at hl 1 rfl) ?_
  refine lv_iconst (v := nI 3) hx hb dL_act_45 (by decide) ?_
  refine lv_icmp_ne (tgt := 60) hx hb dL_act_46 (by decide) (fun _ => ?_) (fun c => absurd c (by decide))
  refine lv_iload_n hx hb dL_act_60 rfl (lv_at hl 1 rfl) ?_
  refine lv_iconst (v := nI 4) hx hb dL_act_61 (by decide) ?_
  refine lv_icmp_ne (tgt := 74) hx hb dL_act_62 (by decide) (fun _ => ?_) (fun c => absurd c (by decide))
  refine lv_iload_n hx hb dL_act_74 rfl (lv_at hl 1 rfl) ?_
  refine lv_iconst (v := nI 5) hx hb dL_act_75 (by decide) ?_
  refine lv_icmp_ne (tgt := 87) hx hb dL_act_76 (by decide) (fun c => absurd c (by decide)) (fun _ => ?_)
  refine lv_aload_n hx hb dL_act_79 rfl (lv_at hl 0 rfl) ?_
  refine lv_iload_n hx hb dL_act_80 rfl (lv_at hl 2 rfl) ?_
  refine vx_calli (vx_runV (As := [.int p9]) (rest := []) FX (k_X11_clear l hfl G a ha t9 st p9 hO) (cwV 1 hts gL_act_X11_clear rfl rfl rfl (by decide +kernel) ⟨Nat.le_of_ble_eq_true rfl, Nat.le_of_ble_eq_true rfl⟩) (preVX hK hNW hCW (hLow.at hS (fun q9 _ q => rng_M q9 q)) (hX.at hS (fun q9 _ q => rng_M q9 q)) (cw_recv hK hCW)) rfl rfl hl.1 rfl (lv_room (Nat.le_of_ble_eq_true rfl)) dL_act_81 ⟨Nat.le_of_ble_eq_true rfl, Nat.le_of_ble_eq_true rfl⟩) hS (fun q _ h => h) (fun q h => h) (fun q _ h => h) (fun E ce q9 u t H locs ht hal _ hBX hsz hk hS hce hcv hcl => ?_) (fun r u t H locs ht hal hp hB hsz hk hS => ?_)
  · skip
    have hCW : CW G a st H := by rw [← ht]; exact hBX.2
    rcases hBX.1 with ⟨rfl, h⟩ | ⟨rfl, h⟩ | ⟨rfl, h⟩
    · skip
      refine vx_catch hown [] ⟨0, 306, 307, 73⟩ [⟨0, 306, 312, 76⟩, ⟨0, 306, 317, 79⟩] htab (fun z hz => absurd hz List.not_mem_nil) (by decide) (show 73 ≠ 0 by decide) (hts (.classLink RL 73 "java/lang/IndexOutOfBoundsException") (List.mem_of_getElem? (i := 1) (by decide +kernel))) (va_Nw.use rfl hX.2.1.2.1) hce hcv hcl ?_
      refine lv_astore (lv' := [(6, .ref q9), (0, .ref (a 0)), (1, .int (nI 5)), (2, .int p9), (3, .int u09), (4, .int u19), (5, .int u29)]) hx hb dL_act_307 hl (by decide) rfl (fun ls hl => ?_)
      refine lv_ldc (v := -7000001) hx hb hown (hts (.constant RL 75 (-7000001)) (List.mem_of_getElem? (i := 4) (by decide +kernel))) dL_act_309 ?_
      refine retw (Nat.le_of_ble_eq_true rfl) (Nat.le_of_ble_eq_true rfl) ?_
      exact en_wi () hx hb hr hlocks hS (AR.x1 h) (by rw [stN_n h (by decide)]; exact hCW) dL_act_311
    · skip
      refine vx_catch hown [⟨0, 306, 307, 73⟩] ⟨0, 306, 312, 76⟩ [⟨0, 306, 317, 79⟩] htab (List.forall_mem_cons.mpr ⟨Or.inr ⟨(show 73 ≠ 0 by decide), _, (hts (.classLink RL 73 "java/lang/IndexOutOfBoundsException") (List.mem_of_getElem? (i := 1) (by decide +kernel))), hNC.1⟩, (fun z hz => absurd hz List.not_mem_nil)⟩) (by decide) (show 76 ≠ 0 by decide) (hts (.classLink RL 76 "java/lang/IllegalArgumentException") (List.mem_of_getElem? (i := 2) (by decide +kernel))) (va_Nw.use rfl hX.2.1.2.2.1) hce hcv hcl ?_
      refine lv_astore (lv' := [(6, .ref q9), (0, .ref (a 0)), (1, .int (nI 5)), (2, .int p9), (3, .int u09), (4, .int u19), (5, .int u29)]) hx hb dL_act_312 hl (by decide) rfl (fun ls hl => ?_)
      refine lv_ldc (v := -7000002) hx hb hown (hts (.constant RL 78 (-7000002)) (List.mem_of_getElem? (i := 5) (by decide +kernel))) dL_act_314 ?_
      refine retw (Nat.le_of_ble_eq_true rfl) (Nat.le_of_ble_eq_true rfl) ?_
      exact en_wi () hx hb hr hlocks hS (AR.x2 h) (by rw [stN_n h (by decide)]; exact hCW) dL_act_316
    · skip
      refine vx_catch hown [⟨0, 306, 307, 73⟩, ⟨0, 306, 312, 76⟩] ⟨0, 306, 317, 79⟩ [] htab (List.forall_mem_cons.mpr ⟨Or.inr ⟨(show 73 ≠ 0 by decide), _, (hts (.classLink RL 73 "java/lang/IndexOutOfBoundsException") (List.mem_of_getElem? (i := 1) (by decide +kernel))), hNC.2.1⟩, (List.forall_mem_cons.mpr ⟨Or.inr ⟨(show 76 ≠ 0 by decide), _, (hts (.classLink RL 76 "java/lang/IllegalArgumentException") (List.mem_of_getElem? (i := 2) (by decide +kernel))), hNC.2.2⟩, (fun z hz => absurd hz List.not_mem_nil)⟩)⟩) (by decide) (show 79 ≠ 0 by decide) (hts (.classLink RL 79 "java/lang/IllegalStateException") (List.mem_of_getElem? (i := 3) (by decide +kernel))) (va_Nw.use rfl hX.2.1.2.2.2) hce hcv hcl ?_
      refine lv_astore (lv' := [(6, .ref q9), (0, .ref (a 0)), (1, .int (nI 5)), (2, .int p9), (3, .int u09), (4, .int u19), (5, .int u29)]) hx hb dL_act_317 hl (by decide) rfl (fun ls hl => ?_)
      refine lv_ldc (v := -7000003) hx hb hown (hts (.constant RL 81 (-7000003)) (List.mem_of_getElem? (i := 6) (by decide +kernel))) dL_act_319 ?_
      refine retw (Nat.le_of_ble_eq_true rfl) (Nat.le_of_ble_eq_true rfl) ?_
      exact en_wi () hx hb hr hlocks hS (AR.x3 h) (by rw [stN_n h (by decide)]; exact hCW) dL_act_321
  · skip
    have hCW : CW G a (stN (cCl p9) (upN st.1 (ix p9) (clrN (st.1 (ix p9)))) st.1, st.2) H := by rw [← ht]; exact hB
    refine lv_goto (tgt := 306) hx hb dL_act_84 (by decide) ?_
    refine retw (Nat.le_of_ble_eq_true rfl) (Nat.le_of_ble_eq_true rfl) ?_
    exact en_wi () hx hb hr hlocks hS (AR.x0 hp.1 hp.2) hCW dL_act_306
set_option maxHeartbeats 4000000 in
set_option maxRecDepth 100000 in
theorem w_act_cost (l : Launch) (hfl : l.stackTraces = false) (G : GG) (a : Nat → Nat) (ha : Inj a) (t9 : Nat) (st : ST) (kd9 d9 x9 u09 : Int32) (hO : OKS st) : vx_Met l yL_act wsL_act ({ frames := 8, cells := 3, slots := 18, locals := 128 } : Room) (PcW G a t9 [.ref (a 0), .int (nI 6), .int kd9, .int d9, .int x9, .int u09] (fun H => CW G a st H)) (QI (fun (r : Int32) (_ : Unit) => AR (cCo kd9 d9 x9) r (r = nI (st.2.1 (ix kd9)))) (fun _ H => CW G a (st.1, stN (cCo kd9 d9 x9) (un st.2.1 (ix kd9) (ix d9)) st.2.1, stN (cCo kd9 d9 x9) (un st.2.2 (ix kd9) (ix x9)) st.2.2) H) (rng a 0 93)) (fun _ _ _ => False) 3 18 (rng a 0 93) := by
  refine vx_ofWH (cc := cL_act) (maxL := 7) (ret := some .int) (hh := [(0, 306, 307, 73), (0, 306, 312, 76), (0, 306, 317, 79)]) (by decide) rfl ?_
  intro p e s m args below meth c s₁ B hml hv
  obtain ⟨⟨⟨⟨rfl, hCW, hK, hNW⟩, hLow⟩, hX⟩, hNC⟩ := hv
  have hx := B.exec
  have hb := B.bytes
  have hr := B.returns
  have hts := atoms_spec (ws := wsL_act) B.pre
  have hown : s.vm.findClass RL = some m.cls := findClass_of_methodNamed B.named
  have hlocks := B.notSynchronized
  have htab : c.exceptionTable.toList = tableOf [(0, 306, 307, 73), (0, 306, 312, 76), (0, 306, 317, 79)] := vx_table (x := yL_act) B (hts _ List.mem_cons_self)
  have FX : CallFix p m c cL_act 7 s ([.ref (a 0), .int (nI 6), .int kd9, .int d9, .int x9, .int u09] : List Value).toArray wsL_act RL := ⟨hx, hb, hml, hown, hts⟩
  have hl := lv_entry ([.ref (a 0), .int (nI 6), .int kd9, .int d9, .int x9, .int u09]) (n := 7) (Nat.le_of_ble_eq_true rfl)
  rw [lg_entry_eq]
  generalize (lg_sl ([.ref (a 0), .int (nI 6), .int kd9, .int d9, .int x9, .int u09]) ++ List.replicate (7 - (lg_sl ([.ref (a 0), .int (nI 6), .int kd9, .int d9, .int x9, .int u09])).length) Slot.unset).toArray = ls at hl ⊢
  have hl : lv_has ls 7 [(0, .ref (a 0)), (1, .int (nI 6)), (2, .int kd9), (3, .int d9), (4, .int x9), (5, .int u09)] := hl
  have hS : va_S (rng a 0 93) s.heap s.heap [] := va_S.rf
  refine lv_iload_n hx hb dL_act_0 rfl (lv_at hl 1 rfl) ?_
  refine lv_if_ne (tgt := 12) hx hb dL_act_1 (by decide) (fun _ => ?_) (fun c => absurd c (by decide))
  refine lv_iload_n hx hb dL_act_12 rfl (lv_at hl 1 rfl) ?_
  refine lv_iconst (v := nI 1) hx hb dL_act_13 (by decide) ?_
  refine lv_icmp_ne (tgt := 30) hx hb dL_act_14 (by decide) (fun _ => ?_) (fun c => absurd c (by decide))
  refine lv_iload_n hx hb dL_act_30 rfl (lv_at hl 1 rfl) ?_
  refine lv_iconst (v := nI 2) hx hb dL_act_31 (by decide) ?_
  refine lv_icmp_ne (tgt := 44) hx hb dL_act_32 (by decide) (fun _ => ?_) (fun c => absurd c (by decide))
  refine lv_iload_n hx hb dL_act_44 rfl (lv_at hl 1 rfl) ?_
  refine lv_iconst (v := nI 3) hx hb dL_act_45 (by decide) ?_
  refine lv_icmp_ne (tgt := 60) hx hb dL_act_46 (by decide) (fun _ => ?_) (fun c => absurd c (by decide))
  refine lv_iload_n hx hb dL_act_60 rfl (lv_at hl 1 rfl) ?_
  refine lv_iconst (v := nI 4) hx hb dL_act_61 (by decide) ?_
  refine lv_icmp_ne (tgt := 74) hx hb dL_act_62 (by decide) (fun _ => ?_) (fun c => absurd c (by decide))
  refine lv_iload_n hx hb dL_act_74 rfl (lv_at hl 1 rfl) ?_
  refine lv_iconst (v := nI 5) hx hb dL_act_75 (by decide) ?_
  refine lv_icmp_ne (tgt := 87) hx hb dL_act_76 (by decide) (fun _ => ?_) (fun c => absurd c (by decide))
  refine lv_iload_n hx hb dL_act_87 rfl (lv_at hl 1 rfl) ?_
  refine lv_bipush (v := nI 6) hx hb dL_act_88 (by decide) ?_
  refine lv_icmp_ne (tgt := 104) hx hb dL_act_90 (by decide) (fun c => absurd c (by decide)) (fun _ => ?_)
  refine lv_aload_n hx hb dL_act_93 rfl (lv_at hl 0 rfl) ?_
  refine lv_iload_n hx hb dL_act_94 rfl (lv_at hl 2 rfl) ?_
  refine lv_iload_n hx hb dL_act_95 rfl (lv_at hl 3 rfl) ?_
  refine lv_iload hx hb dL_act_96 (lv_at hl 4 rfl) ?_
  refine vx_calli (vx_runV (As := [.int kd9, .int d9, .int x9]) (rest := []) FX (k_X11_cost l hfl G a ha t9 st kd9 d9 x9 hO) (cwV 3 hts gL_act_X11_cost rfl rfl rfl (by decide +kernel) ⟨Nat.le_of_ble_eq_true rfl, Nat.le_of_ble_eq_true rfl⟩) (preVX hK hNW hCW (hLow.at hS (fun q9 _ q => rng_M q9 q)) (hX.at hS (fun q9 _ q => rng_M q9 q)) (cw_recv hK hCW)) rfl rfl hl.1 rfl (lv_room (Nat.le_of_ble_eq_true rfl)) dL_act_98 ⟨Nat.le_of_ble_eq_true rfl, Nat.le_of_ble_eq_true rfl⟩) hS (fun q _ h => h) (fun q h => h) (fun q _ h => h) (fun E ce q9 u t H locs ht hal _ hBX hsz hk hS hce hcv hcl => ?_) (fun r u t H locs ht hal hp hB hsz hk hS => ?_)
  · skip
    have hCW : CW G a st H := by rw [← ht]; exact hBX.2
    rcases hBX.1 with ⟨rfl, h⟩ | ⟨rfl, h⟩ | ⟨rfl, h⟩
    · skip
      refine vx_catch hown [] ⟨0, 306, 307, 73⟩ [⟨0, 306, 312, 76⟩, ⟨0, 306, 317, 79⟩] htab (fun z hz => absurd hz List.not_mem_nil) (by decide) (show 73 ≠ 0 by decide) (hts (.classLink RL 73 "java/lang/IndexOutOfBoundsException") (List.mem_of_getElem? (i := 1) (by decide +kernel))) (va_Nw.use rfl hX.2.1.2.1) hce hcv hcl ?_
      refine lv_astore (lv' := [(6, .ref q9), (0, .ref (a 0)), (1, .int (nI 6)), (2, .int kd9), (3, .int d9), (4, .int x9), (5, .int u09)]) hx hb dL_act_307 hl (by decide) rfl (fun ls hl => ?_)
      refine lv_ldc (v := -7000001) hx hb hown (hts (.constant RL 75 (-7000001)) (List.mem_of_getElem? (i := 4) (by decide +kernel))) dL_act_309 ?_
      refine retw (Nat.le_of_ble_eq_true rfl) (Nat.le_of_ble_eq_true rfl) ?_
      exact en_wi () hx hb hr hlocks hS (AR.x1 h) (by rw [stN_n h (by decide), stN_n h (by decide)]; exact hCW) dL_act_311
    · skip
      refine vx_catch hown [⟨0, 306, 307, 73⟩] ⟨0, 306, 312, 76⟩ [⟨0, 306, 317, 79⟩] htab (List.forall_mem_cons.mpr ⟨Or.inr ⟨(show 73 ≠ 0 by decide), _, (hts (.classLink RL 73 "java/lang/IndexOutOfBoundsException") (List.mem_of_getElem? (i := 1) (by decide +kernel))), hNC.1⟩, (fun z hz => absurd hz List.not_mem_nil)⟩) (by decide) (show 76 ≠ 0 by decide) (hts (.classLink RL 76 "java/lang/IllegalArgumentException") (List.mem_of_getElem? (i := 2) (by decide +kernel))) (va_Nw.use rfl hX.2.1.2.2.1) hce hcv hcl ?_
      refine lv_astore (lv' := [(6, .ref q9), (0, .ref (a 0)), (1, .int (nI 6)), (2, .int kd9), (3, .int d9), (4, .int x9), (5, .int u09)]) hx hb dL_act_312 hl (by decide) rfl (fun ls hl => ?_)
      refine lv_ldc (v := -7000002) hx hb hown (hts (.constant RL 78 (-7000002)) (List.mem_of_getElem? (i := 5) (by decide +kernel))) dL_act_314 ?_
      refine retw (Nat.le_of_ble_eq_true rfl) (Nat.le_of_ble_eq_true rfl) ?_
      exact en_wi () hx hb hr hlocks hS (AR.x2 h) (by rw [stN_n h (by decide), stN_n h (by decide)]; exact hCW) dL_act_316
    · skip
      refine vx_catch hown [⟨0, 306, 307, 73⟩, ⟨0, 306, 312, 76⟩] ⟨0, 306, 317, 79⟩ [] htab (List.forall_mem_cons.mpr ⟨Or.inr ⟨(show 73 ≠ 0 by decide), _, (hts (.classLink RL 73 "java/lang/IndexOutOfBoundsException") (List.mem_of_getElem? (i := 1) (by decide +kernel))), hNC.2.1⟩, (List.forall_mem_cons.mpr ⟨Or.inr ⟨(show 76 ≠ 0 by decide), _, (hts (.classLink RL 76 "java/lang/IllegalArgumentException") (List.mem_of_getElem? (i := 2) (by decide +kernel))), hNC.2.2⟩, (fun z hz => absurd hz List.not_mem_nil)⟩)⟩) (by decide) (show 79 ≠ 0 by decide) (hts (.classLink RL 79 "java/lang/IllegalStateException") (List.mem_of_getElem? (i := 3) (by decide +kernel))) (va_Nw.use rfl hX.2.1.2.2.2) hce hcv hcl ?_
      refine lv_astore (lv' := [(6, .ref q9), (0, .ref (a 0)), (1, .int (nI 6)), (2, .int kd9), (3, .int d9), (4, .int x9), (5, .int u09)]) hx hb dL_act_317 hl (by decide) rfl (fun ls hl => ?_)
      refine lv_ldc (v := -7000003) hx hb hown (hts (.constant RL 81 (-7000003)) (List.mem_of_getElem? (i := 6) (by decide +kernel))) dL_act_319 ?_
      refine retw (Nat.le_of_ble_eq_true rfl) (Nat.le_of_ble_eq_true rfl) ?_
      exact en_wi () hx hb hr hlocks hS (AR.x3 h) (by rw [stN_n h (by decide), stN_n h (by decide)]; exact hCW) dL_act_321
  · skip
    have hCW : CW G a (st.1, stN (cCo kd9 d9 x9) (un st.2.1 (ix kd9) (ix d9)) st.2.1, stN (cCo kd9 d9 x9) (un st.2.2 (ix kd9) (ix x9)) st.2.2) H := by rw [← ht]; exact hB
    refine lv_goto (tgt := 306) hx hb dL_act_101 (by decide) ?_
    refine retw (Nat.le_of_ble_eq_true rfl) (Nat.le_of_ble_eq_true rfl) ?_
    exact en_wi () hx hb hr hlocks hS (AR.x0 hp.1 hp.2) hCW dL_act_306
set_option maxHeartbeats 4000000 in
set_option maxRecDepth 100000 in
theorem w_act_stick (l : Launch) (hfl : l.stackTraces = false) (G : GG) (a : Nat → Nat) (ha : Inj a) (t9 : Nat) (st : ST) (p9 g9 b9 u09 : Int32) (hO : OKS st) : vx_Met l yL_act wsL_act ({ frames := 8, cells := 3, slots := 18, locals := 129 } : Room) (PcW G a t9 [.ref (a 0), .int (nI 7), .int p9, .int g9, .int b9, .int u09] (fun H => CW G a st H)) (QI (fun (r : Int32) (_ : Unit) => AR (cSt st.1 p9 g9 b9) r (r = nT (st.1 (ix p9)) (ix g9))) (fun _ H => CW G a (stN (cSt st.1 p9 g9 b9) (upN st.1 (ix p9) (stkN (st.1 (ix p9)) (ix g9) b9)) st.1, st.2) H) (rng a 0 93)) (fun _ _ _ => False) 3 18 (rng a 0 93) := by
  refine vx_ofWH (cc := cL_act) (maxL := 7) (ret := some .int) (hh := [(0, 306, 307, 73), (0, 306, 312, 76), (0, 306, 317, 79)]) (by decide) rfl ?_
  intro p e s m args below meth c s₁ B hml hv
  obtain ⟨⟨⟨⟨rfl, hCW, hK, hNW⟩, hLow⟩, hX⟩, hNC⟩ := hv
  have hx := B.exec
  have hb := B.bytes
  have hr := B.returns
  have hts := atoms_spec (ws := wsL_act) B.pre
  have hown : s.vm.findClass RL = some m.cls := findClass_of_methodNamed B.named
  have hlocks := B.notSynchronized
  have htab : c.exceptionTable.toList = tableOf [(0, 306, 307, 73), (0, 306, 312, 76), (0, 306, 317, 79)] := vx_table (x := yL_act) B (hts _ List.mem_cons_self)
  have FX : CallFix p m c cL_act 7 s ([.ref (a 0), .int (nI 7), .int p9, .int g9, .int b9, .int u09] : List Value).toArray wsL_act RL := ⟨hx, hb, hml, hown, hts⟩
  have hl := lv_entry ([.ref (a 0), .int (nI 7), .int p9, .int g9, .int b9, .int u09]) (n := 7) (Nat.le_of_ble_eq_true rfl)
  rw [lg_entry_eq]
  generalize (lg_sl ([.ref (a 0), .int (nI 7), .int p9, .int g9, .int b9, .int u09]) ++ List.replicate (7 - (lg_sl ([.ref (a 0), .int (nI 7), .int p9, .int g9, .int b9, .int u09])).length) Slot.unset).toArray = ls at hl ⊢
  have hl : lv_has ls 7 [(0, .ref (a 0)), (1, .int (nI 7)), (2, .int p9), (3, .int g9), (4, .int b9), (5, .int u09)] := hl
  have hS : va_S (rng a 0 93) s.heap s.heap [] := va_S.rf
  refine lv_iload_n hx hb dL_act_0 rfl (lv_at hl 1 rfl) ?_
  refine lv_if_ne (tgt := 12) hx hb dL_act_1 (by decide) (fun _ => ?_) (fun c => absurd c (by decide))
  refine lv_iload_n hx hb dL_act_12 rfl (lv_at hl 1 rfl) ?_
  refine lv_iconst (v := nI 1) hx hb dL_act_13 (by decide) ?_
  refine lv_icmp_ne (tgt := 30) hx hb dL_act_14 (by decide) (fun _ => ?_) (fun c => absurd c (by decide))
  refine lv_iload_n hx hb dL_act_30 rfl (lv_at hl 1 rfl) ?_
  refine lv_iconst (v := nI 2) hx hb dL_act_31 (by decide) ?_
  refine lv_icmp_ne (tgt := 44) hx hb dL_act_32 (by decide) (fun _ => ?_) (fun c => absurd c (by decide))
  refine lv_iload_n hx hb dL_act_44 rfl (lv_at hl 1 rfl) ?_
  refine lv_iconst (v := nI 3) hx hb dL_act_45 (by decide) ?_
  refine lv_icmp_ne (tgt := 60) hx hb dL_act_46 (by decide) (fun _ => ?_) (fun c => absurd c (by decide))
  refine lv_iload_n hx hb dL_act_60 rfl (lv_at hl 1 rfl) ?_
  refine lv_iconst (v := nI 4) hx hb dL_act_61 (by decide) ?_
  refine lv_icmp_ne (tgt := 74) hx hb dL_act_62 (by decide) (fun _ => ?_) (fun c => absurd c (by decide))
  refine lv_iload_n hx hb dL_act_74 rfl (lv_at hl 1 rfl) ?_
  refine lv_iconst (v := nI 5) hx hb dL_act_75 (by decide) ?_
  refine lv_icmp_ne (tgt := 87) hx hb dL_act_76 (by decide) (fun _ => ?_) (fun c => absurd c (by decide))
  refine lv_iload_n hx hb dL_act_87 rfl (lv_at hl 1 rfl) ?_
  refine lv_bipush (v := nI 6) hx hb dL_act_88 (by decide) ?_
  refine lv_icmp_ne (tgt := 104) hx hb dL_act_90 (by decide) (fun _ => ?_) (fun c => absurd c (by decide))
  refine lv_iload_n hx hb dL_act_104 rfl (lv_at hl 1 rfl) ?_
  refine lv_bipush (v := nI 7) hx hb dL_act_105 (by decide) ?_
  refine lv_icmp_ne (tgt := 121) hx hb dL_act_107 (by decide) (fun c => absurd c (by decide)) (fun _ => ?_)
  refine lv_aload_n hx hb dL_act_110 rfl (lv_at hl 0 rfl) ?_
  refine lv_iload_n hx hb dL_act_111 rfl (lv_at hl 2 rfl) ?_
  refine lv_iload_n hx hb dL_act_112 rfl (lv_at hl 3 rfl) ?_
  refine lv_iload hx hb dL_act_113 (lv_at hl 4 rfl) ?_
  refine vx_calli (vx_runV (As := [.int p9, .int g9, .int b9]) (rest := []) FX (k_X11_stick l hfl G a ha t9 st p9 g9 b9 hO) (cwV 3 hts gL_act_X11_stick rfl rfl rfl (by decide +kernel) ⟨Nat.le_of_ble_eq_true rfl, Nat.le_of_ble_eq_true rfl⟩) (preVX hK hNW hCW (hLow.at hS (fun q9 _ q => rng_M q9 q)) (hX.at hS (fun q9 _ q => rng_M q9 q)) (cw_recv hK hCW)) rfl rfl hl.1 rfl (lv_room (Nat.le_of_ble_eq_true rfl)) dL_act_115 ⟨Nat.le_of_ble_eq_true rfl, Nat.le_of_ble_eq_true rfl⟩) hS (fun q _ h => h) (fun q h => h) (fun q _ h => h) (fun E ce q9 u t H locs ht hal _ hBX hsz hk hS hce hcv hcl => ?_) (fun r u t H locs ht hal hp hB hsz hk hS => ?_)
  · skip
    have hCW : CW G a st H := by rw [← ht]; exact hBX.2
    rcases hBX.1 with ⟨rfl, h⟩ | ⟨rfl, h⟩ | ⟨rfl, h⟩
    · skip
      refine vx_catch hown [] ⟨0, 306, 307, 73⟩ [⟨0, 306, 312, 76⟩, ⟨0, 306, 317, 79⟩] htab (fun z hz => absurd hz List.not_mem_nil) (by decide) (show 73 ≠ 0 by decide) (hts (.classLink RL 73 "java/lang/IndexOutOfBoundsException") (List.mem_of_getElem? (i := 1) (by decide +kernel))) (va_Nw.use rfl hX.2.1.2.1) hce hcv hcl ?_
      refine lv_astore (lv' := [(6, .ref q9), (0, .ref (a 0)), (1, .int (nI 7)), (2, .int p9), (3, .int g9), (4, .int b9), (5, .int u09)]) hx hb dL_act_307 hl (by decide) rfl (fun ls hl => ?_)
      refine lv_ldc (v := -7000001) hx hb hown (hts (.constant RL 75 (-7000001)) (List.mem_of_getElem? (i := 4) (by decide +kernel))) dL_act_309 ?_
      refine retw (Nat.le_of_ble_eq_true rfl) (Nat.le_of_ble_eq_true rfl) ?_
      exact en_wi () hx hb hr hlocks hS (AR.x1 h) (by rw [stN_n h (by decide)]; exact hCW) dL_act_311
    · skip
      refine vx_catch hown [⟨0, 306, 307, 73⟩] ⟨0, 306, 312, 76⟩ [⟨0, 306, 317, 79⟩] htab (List.forall_mem_cons.mpr ⟨Or.inr ⟨(show 73 ≠ 0 by decide), _, (hts (.classLink RL 73 "java/lang/IndexOutOfBoundsException") (List.mem_of_getElem? (i := 1) (by decide +kernel))), hNC.1⟩, (fun z hz => absurd hz List.not_mem_nil)⟩) (by decide) (show 76 ≠ 0 by decide) (hts (.classLink RL 76 "java/lang/IllegalArgumentException") (List.mem_of_getElem? (i := 2) (by decide +kernel))) (va_Nw.use rfl hX.2.1.2.2.1) hce hcv hcl ?_
      refine lv_astore (lv' := [(6, .ref q9), (0, .ref (a 0)), (1, .int (nI 7)), (2, .int p9), (3, .int g9), (4, .int b9), (5, .int u09)]) hx hb dL_act_312 hl (by decide) rfl (fun ls hl => ?_)
      refine lv_ldc (v := -7000002) hx hb hown (hts (.constant RL 78 (-7000002)) (List.mem_of_getElem? (i := 5) (by decide +kernel))) dL_act_314 ?_
      refine retw (Nat.le_of_ble_eq_true rfl) (Nat.le_of_ble_eq_true rfl) ?_
      exact en_wi () hx hb hr hlocks hS (AR.x2 h) (by rw [stN_n h (by decide)]; exact hCW) dL_act_316
    · skip
      refine vx_catch hown [⟨0, 306, 307, 73⟩, ⟨0, 306, 312, 76⟩] ⟨0, 306, 317, 79⟩ [] htab (List.forall_mem_cons.mpr ⟨Or.inr ⟨(show 73 ≠ 0 by decide), _, (hts (.classLink RL 73 "java/lang/IndexOutOfBoundsException") (List.mem_of_getElem? (i := 1) (by decide +kernel))), hNC.2.1⟩, (List.forall_mem_cons.mpr ⟨Or.inr ⟨(show 76 ≠ 0 by decide), _, (hts (.classLink RL 76 "java/lang/IllegalArgumentException") (List.mem_of_getElem? (i := 2) (by decide +kernel))), hNC.2.2⟩, (fun z hz => absurd hz List.not_mem_nil)⟩)⟩) (by decide) (show 79 ≠ 0 by decide) (hts (.classLink RL 79 "java/lang/IllegalStateException") (List.mem_of_getElem? (i := 3) (by decide +kernel))) (va_Nw.use rfl hX.2.1.2.2.2) hce hcv hcl ?_
      refine lv_astore (lv' := [(6, .ref q9), (0, .ref (a 0)), (1, .int (nI 7)), (2, .int p9), (3, .int g9), (4, .int b9), (5, .int u09)]) hx hb dL_act_317 hl (by decide) rfl (fun ls hl => ?_)
      refine lv_ldc (v := -7000003) hx hb hown (hts (.constant RL 81 (-7000003)) (List.mem_of_getElem? (i := 6) (by decide +kernel))) dL_act_319 ?_
      refine retw (Nat.le_of_ble_eq_true rfl) (Nat.le_of_ble_eq_true rfl) ?_
      exact en_wi () hx hb hr hlocks hS (AR.x3 h) (by rw [stN_n h (by decide)]; exact hCW) dL_act_321
  · skip
    have hCW : CW G a (stN (cSt st.1 p9 g9 b9) (upN st.1 (ix p9) (stkN (st.1 (ix p9)) (ix g9) b9)) st.1, st.2) H := by rw [← ht]; exact hB
    refine lv_goto (tgt := 306) hx hb dL_act_118 (by decide) ?_
    refine retw (Nat.le_of_ble_eq_true rfl) (Nat.le_of_ble_eq_true rfl) ?_
    exact en_wi () hx hb hr hlocks hS (AR.x0 hp.1 hp.2) hCW dL_act_306
set_option maxHeartbeats 4000000 in
set_option maxRecDepth 100000 in
theorem w_act_bit (l : Launch) (hfl : l.stackTraces = false) (G : GG) (a : Nat → Nat) (ha : Inj a) (t9 : Nat) (st : ST) (p9 g9 x9 u09 : Int32) (hO : OKS st) : vx_Met l yL_act wsL_act ({ frames := 8, cells := 3, slots := 18, locals := 128 } : Room) (PcW G a t9 [.ref (a 0), .int (nI 8), .int p9, .int g9, .int x9, .int u09] (fun H => CW G a st H)) (QI (fun (r : Int32) (_ : Unit) => AR (cBi st.1 p9 g9 x9) r (r = bi (bt (st.1 (ix p9)) (ix x9) (ix g9)))) (fun _ H => CW G a st H) (rng a 0 93)) (fun _ _ _ => False) 3 18 (rng a 0 93) := by
  refine vx_ofWH (cc := cL_act) (maxL := 7) (ret := some .int) (hh := [(0, 306, 307, 73), (0, 306, 312, 76), (0, 306, 317, 79)]) (by decide) rfl ?_
  intro p e s m args below meth c s₁ B hml hv
  obtain ⟨⟨⟨⟨rfl, hCW, hK, hNW⟩, hLow⟩, hX⟩, hNC⟩ := hv
  have hx := B.exec
  have hb := B.bytes
  have hr := B.returns
  have hts := atoms_spec (ws := wsL_act) B.pre
  have hown : s.vm.findClass RL = some m.cls := findClass_of_methodNamed B.named
  have hlocks := B.notSynchronized
  have htab : c.exceptionTable.toList = tableOf [(0, 306, 307, 73), (0, 306, 312, 76), (0, 306, 317, 79)] := vx_table (x := yL_act) B (hts _ List.mem_cons_self)
  have FX : CallFix p m c cL_act 7 s ([.ref (a 0), .int (nI 8), .int p9, .int g9, .int x9, .int u09] : List Value).toArray wsL_act RL := ⟨hx, hb, hml, hown, hts⟩
  have hl := lv_entry ([.ref (a 0), .int (nI 8), .int p9, .int g9, .int x9, .int u09]) (n := 7) (Nat.le_of_ble_eq_true rfl)
  rw [lg_entry_eq]
  generalize (lg_sl ([.ref (a 0), .int (nI 8), .int p9, .int g9, .int x9, .int u09]) ++ List.replicate (7 - (lg_sl ([.ref (a 0), .int (nI 8), .int p9, .int g9, .int x9, .int u09])).length) Slot.unset).toArray = ls at hl ⊢
  have hl : lv_has ls 7 [(0, .ref (a 0)), (1, .int (nI 8)), (2, .int p9), (3, .int g9), (4, .int x9), (5, .int u09)] := hl
  have hS : va_S (rng a 0 93) s.heap s.heap [] := va_S.rf
  refine lv_iload_n hx hb dL_act_0 rfl (lv_at hl 1 rfl) ?_
  refine lv_if_ne (tgt := 12) hx hb dL_act_1 (by decide) (fun _ => ?_) (fun c => absurd c (by decide))
  refine lv_iload_n hx hb dL_act_12 rfl (lv_at hl 1 rfl) ?_
  refine lv_iconst (v := nI 1) hx hb dL_act_13 (by decide) ?_
  refine lv_icmp_ne (tgt := 30) hx hb dL_act_14 (by decide) (fun _ => ?_) (fun c => absurd c (by decide))
  refine lv_iload_n hx hb dL_act_30 rfl (lv_at hl 1 rfl) ?_
  refine lv_iconst (v := nI 2) hx hb dL_act_31 (by decide) ?_
  refine lv_icmp_ne (tgt := 44) hx hb dL_act_32 (by decide) (fun _ => ?_) (fun c => absurd c (by decide))
  refine lv_iload_n hx hb dL_act_44 rfl (lv_at hl 1 rfl) ?_
  refine lv_iconst (v := nI 3) hx hb dL_act_45 (by decide) ?_
  refine lv_icmp_ne (tgt := 60) hx hb dL_act_46 (by decide) (fun _ => ?_) (fun c => absurd c (by decide))
  refine lv_iload_n hx hb dL_act_60 rfl (lv_at hl 1 rfl) ?_
  refine lv_iconst (v := nI 4) hx hb dL_act_61 (by decide) ?_
  refine lv_icmp_ne (tgt := 74) hx hb dL_act_62 (by decide) (fun _ => ?_) (fun c => absurd c (by decide))
  refine lv_iload_n hx hb dL_act_74 rfl (lv_at hl 1 rfl) ?_
  refine lv_iconst (v := nI 5) hx hb dL_act_75 (by decide) ?_
  refine lv_icmp_ne (tgt := 87) hx hb dL_act_76 (by decide) (fun _ => ?_) (fun c => absurd c (by decide))
  refine lv_iload_n hx hb dL_act_87 rfl (lv_at hl 1 rfl) ?_
  refine lv_bipush (v := nI 6) hx hb dL_act_88 (by decide) ?_
  refine lv_icmp_ne (tgt := 104) hx hb dL_act_90 (by decide) (fun _ => ?_) (fun c => absurd c (by decide))
  refine lv_iload_n hx hb dL_act_104 rfl (lv_at hl 1 rfl) ?_
  refine lv_bipush (v := nI 7) hx hb dL_act_105 (by decide) ?_
  refine lv_icmp_ne (tgt := 121) hx hb dL_act_107 (by decide) (fun _ => ?_) (fun c => absurd c (by decide))
  refine lv_iload_n hx hb dL_act_121 rfl (lv_at hl 1 rfl) ?_
  refine lv_bipush (v := nI 8) hx hb dL_act_122 (by decide) ?_
  refine lv_icmp_ne (tgt := 138) hx hb dL_act_124 (by decide) (fun c => absurd c (by decide)) (fun _ => ?_)
  refine lv_aload_n hx hb dL_act_127 rfl (lv_at hl 0 rfl) ?_
  refine lv_iload_n hx hb dL_act_128 rfl (lv_at hl 2 rfl) ?_
  refine lv_iload_n hx hb dL_act_129 rfl (lv_at hl 3 rfl) ?_
  refine lv_iload hx hb dL_act_130 (lv_at hl 4 rfl) ?_
  refine vx_calli (vx_runV (As := [.int p9, .int g9, .int x9]) (rest := []) FX (k_X11_bit l hfl G a ha t9 st p9 g9 x9 hO) (cwV 3 hts gL_act_X11_bit rfl rfl rfl (by decide +kernel) ⟨Nat.le_of_ble_eq_true rfl, Nat.le_of_ble_eq_true rfl⟩) (preVX hK hNW hCW (hLow.at hS (fun q9 _ q => rng_M q9 q)) (hX.at hS (fun q9 _ q => rng_M q9 q)) (cw_recv hK hCW)) rfl rfl hl.1 rfl (lv_room (Nat.le_of_ble_eq_true rfl)) dL_act_132 ⟨Nat.le_of_ble_eq_true rfl, Nat.le_of_ble_eq_true rfl⟩) hS (fun q _ h => h) (fun q h => h) (fun q _ h => h) (fun E ce q9 u t H locs ht hal _ hBX hsz hk hS hce hcv hcl => ?_) (fun r u t H locs ht hal hp hB hsz hk hS => ?_)
  · skip
    have hCW : CW G a st H := by rw [← ht]; exact hBX.2
    rcases hBX.1 with ⟨rfl, h⟩ | ⟨rfl, h⟩ | ⟨rfl, h⟩
    · skip
      refine vx_catch hown [] ⟨0, 306, 307, 73⟩ [⟨0, 306, 312, 76⟩, ⟨0, 306, 317, 79⟩] htab (fun z hz => absurd hz List.not_mem_nil) (by decide) (show 73 ≠ 0 by decide) (hts (.classLink RL 73 "java/lang/IndexOutOfBoundsException") (List.mem_of_getElem? (i := 1) (by decide +kernel))) (va_Nw.use rfl hX.2.1.2.1) hce hcv hcl ?_
      refine lv_astore (lv' := [(6, .ref q9), (0, .ref (a 0)), (1, .int (nI 8)), (2, .int p9), (3, .int g9), (4, .int x9), (5, .int u09)]) hx hb dL_act_307 hl (by decide) rfl (fun ls hl => ?_)
      refine lv_ldc (v := -7000001) hx hb hown (hts (.constant RL 75 (-7000001)) (List.mem_of_getElem? (i := 4) (by decide +kernel))) dL_act_309 ?_
      refine retw (Nat.le_of_ble_eq_true rfl) (Nat.le_of_ble_eq_true rfl) ?_
      exact en_wi () hx hb hr hlocks hS (AR.x1 h) hCW dL_act_311
    · skip
      refine vx_catch hown [⟨0, 306, 307, 73⟩] ⟨0, 306, 312, 76⟩ [⟨0, 306, 317, 79⟩] htab (List.forall_mem_cons.mpr ⟨Or.inr ⟨(show 73 ≠ 0 by decide), _, (hts (.classLink RL 73 "java/lang/IndexOutOfBoundsException") (List.mem_of_getElem? (i := 1) (by decide +kernel))), hNC.1⟩, (fun z hz => absurd hz List.not_mem_nil)⟩) (by decide) (show 76 ≠ 0 by decide) (hts (.classLink RL 76 "java/lang/IllegalArgumentException") (List.mem_of_getElem? (i := 2) (by decide +kernel))) (va_Nw.use rfl hX.2.1.2.2.1) hce hcv hcl ?_
      refine lv_astore (lv' := [(6, .ref q9), (0, .ref (a 0)), (1, .int (nI 8)), (2, .int p9), (3, .int g9), (4, .int x9), (5, .int u09)]) hx hb dL_act_312 hl (by decide) rfl (fun ls hl => ?_)
      refine lv_ldc (v := -7000002) hx hb hown (hts (.constant RL 78 (-7000002)) (List.mem_of_getElem? (i := 5) (by decide +kernel))) dL_act_314 ?_
      refine retw (Nat.le_of_ble_eq_true rfl) (Nat.le_of_ble_eq_true rfl) ?_
      exact en_wi () hx hb hr hlocks hS (AR.x2 h) hCW dL_act_316
    · skip
      refine vx_catch hown [⟨0, 306, 307, 73⟩, ⟨0, 306, 312, 76⟩] ⟨0, 306, 317, 79⟩ [] htab (List.forall_mem_cons.mpr ⟨Or.inr ⟨(show 73 ≠ 0 by decide), _, (hts (.classLink RL 73 "java/lang/IndexOutOfBoundsException") (List.mem_of_getElem? (i := 1) (by decide +kernel))), hNC.2.1⟩, (List.forall_mem_cons.mpr ⟨Or.inr ⟨(show 76 ≠ 0 by decide), _, (hts (.classLink RL 76 "java/lang/IllegalArgumentException") (List.mem_of_getElem? (i := 2) (by decide +kernel))), hNC.2.2⟩, (fun z hz => absurd hz List.not_mem_nil)⟩)⟩) (by decide) (show 79 ≠ 0 by decide) (hts (.classLink RL 79 "java/lang/IllegalStateException") (List.mem_of_getElem? (i := 3) (by decide +kernel))) (va_Nw.use rfl hX.2.1.2.2.2) hce hcv hcl ?_
      refine lv_astore (lv' := [(6, .ref q9), (0, .ref (a 0)), (1, .int (nI 8)), (2, .int p9), (3, .int g9), (4, .int x9), (5, .int u09)]) hx hb dL_act_317 hl (by decide) rfl (fun ls hl => ?_)
      refine lv_ldc (v := -7000003) hx hb hown (hts (.constant RL 81 (-7000003)) (List.mem_of_getElem? (i := 6) (by decide +kernel))) dL_act_319 ?_
      refine retw (Nat.le_of_ble_eq_true rfl) (Nat.le_of_ble_eq_true rfl) ?_
      exact en_wi () hx hb hr hlocks hS (AR.x3 h) hCW dL_act_321
  · skip
    have hCW : CW G a st H := by rw [← ht]; exact hB
    refine lv_goto (tgt := 306) hx hb dL_act_135 (by decide) ?_
    refine retw (Nat.le_of_ble_eq_true rfl) (Nat.le_of_ble_eq_true rfl) ?_
    exact en_wi () hx hb hr hlocks hS (AR.x0 hp.1 hp.2) hCW dL_act_306
set_option maxHeartbeats 4000000 in
set_option maxRecDepth 100000 in
theorem w_act_value (l : Launch) (hfl : l.stackTraces = false) (G : GG) (a : Nat → Nat) (ha : Inj a) (t9 : Nat) (st : ST) (p9 x9 u09 u19 : Int32) (hO : OKS st) : vx_Met l yL_act wsL_act ({ frames := 8, cells := 2, slots := 12, locals := 127 } : Room) (PcW G a t9 [.ref (a 0), .int (nI 9), .int p9, .int x9, .int u09, .int u19] (fun H => CW G a st H)) (QI (fun (r : Int32) (_ : Unit) => AR (cVa p9 x9) r (r = vl (st.1 (ix p9)) (ix x9))) (fun _ H => CW G a st H) (rng a 0 93)) (fun _ _ _ => False) 2 12 (rng a 0 93) := by
  refine vx_ofWH (cc := cL_act) (maxL := 7) (ret := some .int) (hh := [(0, 306, 307, 73), (0, 306, 312, 76), (0, 306, 317, 79)]) (by decide) rfl ?_
  intro p e s m args below meth c s₁ B hml hv
  obtain ⟨⟨⟨⟨rfl, hCW, hK, hNW⟩, hLow⟩, hX⟩, hNC⟩ := hv
  have hx := B.exec
  have hb := B.bytes
  have hr := B.returns
  have hts := atoms_spec (ws := wsL_act) B.pre
  have hown : s.vm.findClass RL = some m.cls := findClass_of_methodNamed B.named
  have hlocks := B.notSynchronized
  have htab : c.exceptionTable.toList = tableOf [(0, 306, 307, 73), (0, 306, 312, 76), (0, 306, 317, 79)] := vx_table (x := yL_act) B (hts _ List.mem_cons_self)
  have FX : CallFix p m c cL_act 7 s ([.ref (a 0), .int (nI 9), .int p9, .int x9, .int u09, .int u19] : List Value).toArray wsL_act RL := ⟨hx, hb, hml, hown, hts⟩
  have hl := lv_entry ([.ref (a 0), .int (nI 9), .int p9, .int x9, .int u09, .int u19]) (n := 7) (Nat.le_of_ble_eq_true rfl)
  rw [lg_entry_eq]
  generalize (lg_sl ([.ref (a 0), .int (nI 9), .int p9, .int x9, .int u09, .int u19]) ++ List.replicate (7 - (lg_sl ([.ref (a 0), .int (nI 9), .int p9, .int x9, .int u09, .int u19])).length) Slot.unset).toArray = ls at hl ⊢
  have hl : lv_has ls 7 [(0, .ref (a 0)), (1, .int (nI 9)), (2, .int p9), (3, .int x9), (4, .int u09), (5, .int u19)] := hl
  have hS : va_S (rng a 0 93) s.heap s.heap [] := va_S.rf
  refine lv_iload_n hx hb dL_act_0 rfl (lv_at hl 1 rfl) ?_
  refine lv_if_ne (tgt := 12) hx hb dL_act_1 (by decide) (fun _ => ?_) (fun c => absurd c (by decide))
  refine lv_iload_n hx hb dL_act_12 rfl (lv_at hl 1 rfl) ?_
  refine lv_iconst (v := nI 1) hx hb dL_act_13 (by decide) ?_
  refine lv_icmp_ne (tgt := 30) hx hb dL_act_14 (by decide) (fun _ => ?_) (fun c => absurd c (by decide))
  refine lv_iload_n hx hb dL_act_30 rfl (lv_at hl 1 rfl) ?_
  refine lv_iconst (v := nI 2) hx hb dL_act_31 (by decide) ?_
  refine lv_icmp_ne (tgt := 44) hx hb dL_act_32 (by decide) (fun _ => ?_) (fun c => absurd c (by decide))
  refine lv_iload_n hx hb dL_act_44 rfl (lv_at hl 1 rfl) ?_
  refine lv_iconst (v := nI 3) hx hb dL_act_45 (by decide) ?_
  refine lv_icmp_ne (tgt := 60) hx hb dL_act_46 (by decide) (fun _ => ?_) (fun c => absurd c (by decide))
  refine lv_iload_n hx hb dL_act_60 rfl (lv_at hl 1 rfl) ?_
  refine lv_iconst (v := nI 4) hx hb dL_act_61 (by decide) ?_
  refine lv_icmp_ne (tgt := 74) hx hb dL_act_62 (by decide) (fun _ => ?_) (fun c => absurd c (by decide))
  refine lv_iload_n hx hb dL_act_74 rfl (lv_at hl 1 rfl) ?_
  refine lv_iconst (v := nI 5) hx hb dL_act_75 (by decide) ?_
  refine lv_icmp_ne (tgt := 87) hx hb dL_act_76 (by decide) (fun _ => ?_) (fun c => absurd c (by decide))
  refine lv_iload_n hx hb dL_act_87 rfl (lv_at hl 1 rfl) ?_
  refine lv_bipush (v := nI 6) hx hb dL_act_88 (by decide) ?_
  refine lv_icmp_ne (tgt := 104) hx hb dL_act_90 (by decide) (fun _ => ?_) (fun c => absurd c (by decide))
  refine lv_iload_n hx hb dL_act_104 rfl (lv_at hl 1 rfl) ?_
  refine lv_bipush (v := nI 7) hx hb dL_act_105 (by decide) ?_
  refine lv_icmp_ne (tgt := 121) hx hb dL_act_107 (by decide) (fun _ => ?_) (fun c => absurd c (by decide))
  refine lv_iload_n hx hb dL_act_121 rfl (lv_at hl 1 rfl) ?_
  refine lv_bipush (v := nI 8) hx hb dL_act_122 (by decide) ?_
  refine lv_icmp_ne (tgt := 138) hx hb dL_act_124 (by decide) (fun _ => ?_) (fun c => absurd c (by decide))
  refine lv_iload_n hx hb dL_act_138 rfl (lv_at hl 1 rfl) ?_
  refine lv_bipush (v := nI 9) hx hb dL_act_139 (by decide) ?_
  refine lv_icmp_ne (tgt := 153) hx hb dL_act_141 (by decide) (fun c => absurd c (by decide)) (fun _ => ?_)
  refine lv_aload_n hx hb dL_act_144 rfl (lv_at hl 0 rfl) ?_
  refine lv_iload_n hx hb dL_act_145 rfl (lv_at hl 2 rfl) ?_
  refine lv_iload_n hx hb dL_act_146 rfl (lv_at hl 3 rfl) ?_
  refine vx_calli (vx_runV (As := [.int p9, .int x9]) (rest := []) FX (k_X11_value l hfl G a ha t9 st p9 x9 hO) (cwV 2 hts gL_act_X11_value rfl rfl rfl (by decide +kernel) ⟨Nat.le_of_ble_eq_true rfl, Nat.le_of_ble_eq_true rfl⟩) (preVX hK hNW hCW (hLow.at hS (fun q9 _ q => rng_M q9 q)) (hX.at hS (fun q9 _ q => rng_M q9 q)) (cw_recv hK hCW)) rfl rfl hl.1 rfl (lv_room (Nat.le_of_ble_eq_true rfl)) dL_act_147 ⟨Nat.le_of_ble_eq_true rfl, Nat.le_of_ble_eq_true rfl⟩) hS (fun q _ h => h) (fun q h => h) (fun q _ h => h) (fun E ce q9 u t H locs ht hal _ hBX hsz hk hS hce hcv hcl => ?_) (fun r u t H locs ht hal hp hB hsz hk hS => ?_)
  · skip
    have hCW : CW G a st H := by rw [← ht]; exact hBX.2
    rcases hBX.1 with ⟨rfl, h⟩ | ⟨rfl, h⟩ | ⟨rfl, h⟩
    · skip
      refine vx_catch hown [] ⟨0, 306, 307, 73⟩ [⟨0, 306, 312, 76⟩, ⟨0, 306, 317, 79⟩] htab (fun z hz => absurd hz List.not_mem_nil) (by decide) (show 73 ≠ 0 by decide) (hts (.classLink RL 73 "java/lang/IndexOutOfBoundsException") (List.mem_of_getElem? (i := 1) (by decide +kernel))) (va_Nw.use rfl hX.2.1.2.1) hce hcv hcl ?_
      refine lv_astore (lv' := [(6, .ref q9), (0, .ref (a 0)), (1, .int (nI 9)), (2, .int p9), (3, .int x9), (4, .int u09), (5, .int u19)]) hx hb dL_act_307 hl (by decide) rfl (fun ls hl => ?_)
      refine lv_ldc (v := -7000001) hx hb hown (hts (.constant RL 75 (-7000001)) (List.mem_of_getElem? (i := 4) (by decide +kernel))) dL_act_309 ?_
      refine retw (Nat.le_of_ble_eq_true rfl) (Nat.le_of_ble_eq_true rfl) ?_
      exact en_wi () hx hb hr hlocks hS (AR.x1 h) hCW dL_act_311
    · skip
      refine vx_catch hown [⟨0, 306, 307, 73⟩] ⟨0, 306, 312, 76⟩ [⟨0, 306, 317, 79⟩] htab (List.forall_mem_cons.mpr ⟨Or.inr ⟨(show 73 ≠ 0 by decide), _, (hts (.classLink RL 73 "java/lang/IndexOutOfBoundsException") (List.mem_of_getElem? (i := 1) (by decide +kernel))), hNC.1⟩, (fun z hz => absurd hz List.not_mem_nil)⟩) (by decide) (show 76 ≠ 0 by decide) (hts (.classLink RL 76 "java/lang/IllegalArgumentException") (List.mem_of_getElem? (i := 2) (by decide +kernel))) (va_Nw.use rfl hX.2.1.2.2.1) hce hcv hcl ?_
      refine lv_astore (lv' := [(6, .ref q9), (0, .ref (a 0)), (1, .int (nI 9)), (2, .int p9), (3, .int x9), (4, .int u09), (5, .int u19)]) hx hb dL_act_312 hl (by decide) rfl (fun ls hl => ?_)
      refine lv_ldc (v := -7000002) hx hb hown (hts (.constant RL 78 (-7000002)) (List.mem_of_getElem? (i := 5) (by decide +kernel))) dL_act_314 ?_
      refine retw (Nat.le_of_ble_eq_true rfl) (Nat.le_of_ble_eq_true rfl) ?_
      exact en_wi () hx hb hr hlocks hS (AR.x2 h) hCW dL_act_316
    · skip
      refine vx_catch hown [⟨0, 306, 307, 73⟩, ⟨0, 306, 312, 76⟩] ⟨0, 306, 317, 79⟩ [] htab (List.forall_mem_cons.mpr ⟨Or.inr ⟨(show 73 ≠ 0 by decide), _, (hts (.classLink RL 73 "java/lang/IndexOutOfBoundsException") (List.mem_of_getElem? (i := 1) (by decide +kernel))), hNC.2.1⟩, (List.forall_mem_cons.mpr ⟨Or.inr ⟨(show 76 ≠ 0 by decide), _, (hts (.classLink RL 76 "java/lang/IllegalArgumentException") (List.mem_of_getElem? (i := 2) (by decide +kernel))), hNC.2.2⟩, (fun z hz => absurd hz List.not_mem_nil)⟩)⟩) (by decide) (show 79 ≠ 0 by decide) (hts (.classLink RL 79 "java/lang/IllegalStateException") (List.mem_of_getElem? (i := 3) (by decide +kernel))) (va_Nw.use rfl hX.2.1.2.2.2) hce hcv hcl ?_
      refine lv_astore (lv' := [(6, .ref q9), (0, .ref (a 0)), (1, .int (nI 9)), (2, .int p9), (3, .int x9), (4, .int u09), (5, .int u19)]) hx hb dL_act_317 hl (by decide) rfl (fun ls hl => ?_)
      refine lv_ldc (v := -7000003) hx hb hown (hts (.constant RL 81 (-7000003)) (List.mem_of_getElem? (i := 6) (by decide +kernel))) dL_act_319 ?_
      refine retw (Nat.le_of_ble_eq_true rfl) (Nat.le_of_ble_eq_true rfl) ?_
      exact en_wi () hx hb hr hlocks hS (AR.x3 h) hCW dL_act_321
  · skip
    have hCW : CW G a st H := by rw [← ht]; exact hB
    refine lv_goto (tgt := 306) hx hb dL_act_150 (by decide) ?_
    refine retw (Nat.le_of_ble_eq_true rfl) (Nat.le_of_ble_eq_true rfl) ?_
    exact en_wi () hx hb hr hlocks hS (AR.x0 hp.1 hp.2) hCW dL_act_306
set_option maxHeartbeats 4000000 in
set_option maxRecDepth 100000 in
theorem w_act_valueAnew (l : Launch) (hfl : l.stackTraces = false) (G : GG) (a : Nat → Nat) (ha : Inj a) (t9 : Nat) (st : ST) (p9 x9 u09 u19 : Int32) (hO : OKS st) : vx_Met l yL_act wsL_act ({ frames := 8, cells := 2, slots := 12, locals := 129 } : Room) (PcW G a t9 [.ref (a 0), .int (nI 10), .int p9, .int x9, .int u09, .int u19] (fun H => CW G a st H)) (QI (fun (r : Int32) (_ : Unit) => AR (cVa p9 x9) r (r = vl (st.1 (ix p9)) (ix x9))) (fun _ H => CW G a st H) (rng a 0 93)) (fun _ _ _ => False) 2 12 (rng a 0 93) := by
  refine vx_ofWH (cc := cL_act) (maxL := 7) (ret := some .int) (hh := [(0, 306, 307, 73), (0, 306, 312, 76), (0, 306, 317, 79)]) (by decide) rfl ?_
  intro p e s m args below meth c s₁ B hml hv
  obtain ⟨⟨⟨⟨rfl, hCW, hK, hNW⟩, hLow⟩, hX⟩, hNC⟩ := hv
  have hx := B.exec
  have hb := B.bytes
  have hr := B.returns
  have hts := atoms_spec (ws := wsL_act) B.pre
  have hown : s.vm.findClass RL = some m.cls := findClass_of_methodNamed B.named
  have hlocks := B.notSynchronized
  have htab : c.exceptionTable.toList = tableOf [(0, 306, 307, 73), (0, 306, 312, 76), (0, 306, 317, 79)] := vx_table (x := yL_act) B (hts _ List.mem_cons_self)
  have FX : CallFix p m c cL_act 7 s ([.ref (a 0), .int (nI 10), .int p9, .int x9, .int u09, .int u19] : List Value).toArray wsL_act RL := ⟨hx, hb, hml, hown, hts⟩
  have hl := lv_entry ([.ref (a 0), .int (nI 10), .int p9, .int x9, .int u09, .int u19]) (n := 7) (Nat.le_of_ble_eq_true rfl)
  rw [lg_entry_eq]
  generalize (lg_sl ([.ref (a 0), .int (nI 10), .int p9, .int x9, .int u09, .int u19]) ++ List.replicate (7 - (lg_sl ([.ref (a 0), .int (nI 10), .int p9, .int x9, .int u09, .int u19])).length) Slot.unset).toArray = ls at hl ⊢
  have hl : lv_has ls 7 [(0, .ref (a 0)), (1, .int (nI 10)), (2, .int p9), (3, .int x9), (4, .int u09), (5, .int u19)] := hl
  have hS : va_S (rng a 0 93) s.heap s.heap [] := va_S.rf
  refine lv_iload_n hx hb dL_act_0 rfl (lv_at hl 1 rfl) ?_
  refine lv_if_ne (tgt := 12) hx hb dL_act_1 (by decide) (fun _ => ?_) (fun c => absurd c (by decide))
  refine lv_iload_n hx hb dL_act_12 rfl (lv_at hl 1 rfl) ?_
  refine lv_iconst (v := nI 1) hx hb dL_act_13 (by decide) ?_
  refine lv_icmp_ne (tgt := 30) hx hb dL_act_14 (by decide) (fun _ => ?_) (fun c => absurd c (by decide))
  refine lv_iload_n hx hb dL_act_30 rfl (lv_at hl 1 rfl) ?_
  refine lv_iconst (v := nI 2) hx hb dL_act_31 (by decide) ?_
  refine lv_icmp_ne (tgt := 44) hx hb dL_act_32 (by decide) (fun _ => ?_) (fun c => absurd c (by decide))
  refine lv_iload_n hx hb dL_act_44 rfl (lv_at hl 1 rfl) ?_
  refine lv_iconst (v := nI 3) hx hb dL_act_45 (by decide) ?_
  refine lv_icmp_ne (tgt := 60) hx hb dL_act_46 (by decide) (fun _ => ?_) (fun c => absurd c (by decide))
  refine lv_iload_n hx hb dL_act_60 rfl (lv_at hl 1 rfl) ?_
  refine lv_iconst (v := nI 4) hx hb dL_act_61 (by decide) ?_
  refine lv_icmp_ne (tgt := 74) hx hb dL_act_62 (by decide) (fun _ => ?_) (fun c => absurd c (by decide))
  refine lv_iload_n hx hb dL_act_74 rfl (lv_at hl 1 rfl) ?_
  refine lv_iconst (v := nI 5) hx hb dL_act_75 (by decide) ?_
  refine lv_icmp_ne (tgt := 87) hx hb dL_act_76 (by decide) (fun _ => ?_) (fun c => absurd c (by decide))
  refine lv_iload_n hx hb dL_act_87 rfl (lv_at hl 1 rfl) ?_
  refine lv_bipush (v := nI 6) hx hb dL_act_88 (by decide) ?_
  refine lv_icmp_ne (tgt := 104) hx hb dL_act_90 (by decide) (fun _ => ?_) (fun c => absurd c (by decide))
  refine lv_iload_n hx hb dL_act_104 rfl (lv_at hl 1 rfl) ?_
  refine lv_bipush (v := nI 7) hx hb dL_act_105 (by decide) ?_
  refine lv_icmp_ne (tgt := 121) hx hb dL_act_107 (by decide) (fun _ => ?_) (fun c => absurd c (by decide))
  refine lv_iload_n hx hb dL_act_121 rfl (lv_at hl 1 rfl) ?_
  refine lv_bipush (v := nI 8) hx hb dL_act_122 (by decide) ?_
  refine lv_icmp_ne (tgt := 138) hx hb dL_act_124 (by decide) (fun _ => ?_) (fun c => absurd c (by decide))
  refine lv_iload_n hx hb dL_act_138 rfl (lv_at hl 1 rfl) ?_
  refine lv_bipush (v := nI 9) hx hb dL_act_139 (by decide) ?_
  refine lv_icmp_ne (tgt := 153) hx hb dL_act_141 (by decide) (fun _ => ?_) (fun c => absurd c (by decide))
  refine lv_iload_n hx hb dL_act_153 rfl (lv_at hl 1 rfl) ?_
  refine lv_bipush (v := nI 10) hx hb dL_act_154 (by decide) ?_
  refine lv_icmp_ne (tgt := 168) hx hb dL_act_156 (by decide) (fun c => absurd c (by decide)) (fun _ => ?_)
  refine lv_aload_n hx hb dL_act_159 rfl (lv_at hl 0 rfl) ?_
  refine lv_iload_n hx hb dL_act_160 rfl (lv_at hl 2 rfl) ?_
  refine lv_iload_n hx hb dL_act_161 rfl (lv_at hl 3 rfl) ?_
  refine vx_calli (vx_runV (As := [.int p9, .int x9]) (rest := []) FX (k_X11_valueAnew l hfl G a ha t9 st p9 x9 hO) (cwV 2 hts gL_act_X11_valueAnew rfl rfl rfl (by decide +kernel) ⟨Nat.le_of_ble_eq_true rfl, Nat.le_of_ble_eq_true rfl⟩) (preVX hK hNW hCW (hLow.at hS (fun q9 _ q => rng_M q9 q)) (hX.at hS (fun q9 _ q => rng_M q9 q)) (cw_recv hK hCW)) rfl rfl hl.1 rfl (lv_room (Nat.le_of_ble_eq_true rfl)) dL_act_162 ⟨Nat.le_of_ble_eq_true rfl, Nat.le_of_ble_eq_true rfl⟩) hS (fun q _ h => h) (fun q h => h) (fun q _ h => h) (fun E ce q9 u t H locs ht hal _ hBX hsz hk hS hce hcv hcl => ?_) (fun r u t H locs ht hal hp hB hsz hk hS => ?_)
  · skip
    have hCW : CW G a st H := by rw [← ht]; exact hBX.2
    rcases hBX.1 with ⟨rfl, h⟩ | ⟨rfl, h⟩ | ⟨rfl, h⟩
    · skip
      refine vx_catch hown [] ⟨0, 306, 307, 73⟩ [⟨0, 306, 312, 76⟩, ⟨0, 306, 317, 79⟩] htab (fun z hz => absurd hz List.not_mem_nil) (by decide) (show 73 ≠ 0 by decide) (hts (.classLink RL 73 "java/lang/IndexOutOfBoundsException") (List.mem_of_getElem? (i := 1) (by decide +kernel))) (va_Nw.use rfl hX.2.1.2.1) hce hcv hcl ?_
      refine lv_astore (lv' := [(6, .ref q9), (0, .ref (a 0)), (1, .int (nI 10)), (2, .int p9), (3, .int x9), (4, .int u09), (5, .int u19)]) hx hb dL_act_307 hl (by decide) rfl (fun ls hl => ?_)
      refine lv_ldc (v := -7000001) hx hb hown (hts (.constant RL 75 (-7000001)) (List.mem_of_getElem? (i := 4) (by decide +kernel))) dL_act_309 ?_
      refine retw (Nat.le_of_ble_eq_true rfl) (Nat.le_of_ble_eq_true rfl) ?_
      exact en_wi () hx hb hr hlocks hS (AR.x1 h) hCW dL_act_311
    · skip
      refine vx_catch hown [⟨0, 306, 307, 73⟩] ⟨0, 306, 312, 76⟩ [⟨0, 306, 317, 79⟩] htab (List.forall_mem_cons.mpr ⟨Or.inr ⟨(show 73 ≠ 0 by decide), _, (hts (.classLink RL 73 "java/lang/IndexOutOfBoundsException") (List.mem_of_getElem? (i := 1) (by decide +kernel))), hNC.1⟩, (fun z hz => absurd hz List.not_mem_nil)⟩) (by decide) (show 76 ≠ 0 by decide) (hts (.classLink RL 76 "java/lang/IllegalArgumentException") (List.mem_of_getElem? (i := 2) (by decide +kernel))) (va_Nw.use rfl hX.2.1.2.2.1) hce hcv hcl ?_
      refine lv_astore (lv' := [(6, .ref q9), (0, .ref (a 0)), (1, .int (nI 10)), (2, .int p9), (3, .int x9), (4, .int u09), (5, .int u19)]) hx hb dL_act_312 hl (by decide) rfl (fun ls hl => ?_)
      refine lv_ldc (v := -7000002) hx hb hown (hts (.constant RL 78 (-7000002)) (List.mem_of_getElem? (i := 5) (by decide +kernel))) dL_act_314 ?_
      refine retw (Nat.le_of_ble_eq_true rfl) (Nat.le_of_ble_eq_true rfl) ?_
      exact en_wi () hx hb hr hlocks hS (AR.x2 h) hCW dL_act_316
    · skip
      refine vx_catch hown [⟨0, 306, 307, 73⟩, ⟨0, 306, 312, 76⟩] ⟨0, 306, 317, 79⟩ [] htab (List.forall_mem_cons.mpr ⟨Or.inr ⟨(show 73 ≠ 0 by decide), _, (hts (.classLink RL 73 "java/lang/IndexOutOfBoundsException") (List.mem_of_getElem? (i := 1) (by decide +kernel))), hNC.2.1⟩, (List.forall_mem_cons.mpr ⟨Or.inr ⟨(show 76 ≠ 0 by decide), _, (hts (.classLink RL 76 "java/lang/IllegalArgumentException") (List.mem_of_getElem? (i := 2) (by decide +kernel))), hNC.2.2⟩, (fun z hz => absurd hz List.not_mem_nil)⟩)⟩) (by decide) (show 79 ≠ 0 by decide) (hts (.classLink RL 79 "java/lang/IllegalStateException") (List.mem_of_getElem? (i := 3) (by decide +kernel))) (va_Nw.use rfl hX.2.1.2.2.2) hce hcv hcl ?_
      refine lv_astore (lv' := [(6, .ref q9), (0, .ref (a 0)), (1, .int (nI 10)), (2, .int p9), (3, .int x9), (4, .int u09), (5, .int u19)]) hx hb dL_act_317 hl (by decide) rfl (fun ls hl => ?_)
      refine lv_ldc (v := -7000003) hx hb hown (hts (.constant RL 81 (-7000003)) (List.mem_of_getElem? (i := 6) (by decide +kernel))) dL_act_319 ?_
      refine retw (Nat.le_of_ble_eq_true rfl) (Nat.le_of_ble_eq_true rfl) ?_
      exact en_wi () hx hb hr hlocks hS (AR.x3 h) hCW dL_act_321
  · skip
    have hCW : CW G a st H := by rw [← ht]; exact hB
    refine lv_goto (tgt := 306) hx hb dL_act_165 (by decide) ?_
    refine retw (Nat.le_of_ble_eq_true rfl) (Nat.le_of_ble_eq_true rfl) ?_
    exact en_wi () hx hb hr hlocks hS (AR.x0 hp.1 hp.2) hCW dL_act_306
set_option maxHeartbeats 4000000 in
set_option maxRecDepth 100000 in
theorem w_act_ofNet (l : Launch) (hfl : l.stackTraces = false) (G : GG) (a : Nat → Nat) (ha : Inj a) (t9 : Nat) (st : ST) (p9 w9 u09 u19 : Int32) (hO : OKS st) : vx_Met l yL_act wsL_act ({ frames := 8, cells := 2, slots := 12, locals := 127 } : Room) (PcW G a t9 [.ref (a 0), .int (nI 11), .int p9, .int w9, .int u09, .int u19] (fun H => CW G a st H)) (QI (fun (r : Int32) (_ : Unit) => AR (cOf p9 w9) r (r = ofV (st.1 (ix p9)) st.2.1 st.2.2 (ix w9))) (fun _ H => CW G a st H) (rng a 0 93)) (fun _ _ _ => False) 2 12 (rng a 0 93) := by
  refine vx_ofWH (cc := cL_act) (maxL := 7) (ret := some .int) (hh := [(0, 306, 307, 73), (0, 306, 312, 76), (0, 306, 317, 79)]) (by decide) rfl ?_
  intro p e s m args below meth c s₁ B hml hv
  obtain ⟨⟨⟨⟨rfl, hCW, hK, hNW⟩, hLow⟩, hX⟩, hNC⟩ := hv
  have hx := B.exec
  have hb := B.bytes
  have hr := B.returns
  have hts := atoms_spec (ws := wsL_act) B.pre
  have hown : s.vm.findClass RL = some m.cls := findClass_of_methodNamed B.named
  have hlocks := B.notSynchronized
  have htab : c.exceptionTable.toList = tableOf [(0, 306, 307, 73), (0, 306, 312, 76), (0, 306, 317, 79)] := vx_table (x := yL_act) B (hts _ List.mem_cons_self)
  have FX : CallFix p m c cL_act 7 s ([.ref (a 0), .int (nI 11), .int p9, .int w9, .int u09, .int u19] : List Value).toArray wsL_act RL := ⟨hx, hb, hml, hown, hts⟩
  have hl := lv_entry ([.ref (a 0), .int (nI 11), .int p9, .int w9, .int u09, .int u19]) (n := 7) (Nat.le_of_ble_eq_true rfl)
  rw [lg_entry_eq]
  generalize (lg_sl ([.ref (a 0), .int (nI 11), .int p9, .int w9, .int u09, .int u19]) ++ List.replicate (7 - (lg_sl ([.ref (a 0), .int (nI 11), .int p9, .int w9, .int u09, .int u19])).length) Slot.unset).toArray = ls at hl ⊢
  have hl : lv_has ls 7 [(0, .ref (a 0)), (1, .int (nI 11)), (2, .int p9), (3, .int w9), (4, .int u09), (5, .int u19)] := hl
  have hS : va_S (rng a 0 93) s.heap s.heap [] := va_S.rf
  refine lv_iload_n hx hb dL_act_0 rfl (lv_at hl 1 rfl) ?_
  refine lv_if_ne (tgt := 12) hx hb dL_act_1 (by decide) (fun _ => ?_) (fun c => absurd c (by decide))
  refine lv_iload_n hx hb dL_act_12 rfl (lv_at hl 1 rfl) ?_
  refine lv_iconst (v := nI 1) hx hb dL_act_13 (by decide) ?_
  refine lv_icmp_ne (tgt := 30) hx hb dL_act_14 (by decide) (fun _ => ?_) (fun c => absurd c (by decide))
  refine lv_iload_n hx hb dL_act_30 rfl (lv_at hl 1 rfl) ?_
  refine lv_iconst (v := nI 2) hx hb dL_act_31 (by decide) ?_
  refine lv_icmp_ne (tgt := 44) hx hb dL_act_32 (by decide) (fun _ => ?_) (fun c => absurd c (by decide))
  refine lv_iload_n hx hb dL_act_44 rfl (lv_at hl 1 rfl) ?_
  refine lv_iconst (v := nI 3) hx hb dL_act_45 (by decide) ?_
  refine lv_icmp_ne (tgt := 60) hx hb dL_act_46 (by decide) (fun _ => ?_) (fun c => absurd c (by decide))
  refine lv_iload_n hx hb dL_act_60 rfl (lv_at hl 1 rfl) ?_
  refine lv_iconst (v := nI 4) hx hb dL_act_61 (by decide) ?_
  refine lv_icmp_ne (tgt := 74) hx hb dL_act_62 (by decide) (fun _ => ?_) (fun c => absurd c (by decide))
  refine lv_iload_n hx hb dL_act_74 rfl (lv_at hl 1 rfl) ?_
  refine lv_iconst (v := nI 5) hx hb dL_act_75 (by decide) ?_
  refine lv_icmp_ne (tgt := 87) hx hb dL_act_76 (by decide) (fun _ => ?_) (fun c => absurd c (by decide))
  refine lv_iload_n hx hb dL_act_87 rfl (lv_at hl 1 rfl) ?_
  refine lv_bipush (v := nI 6) hx hb dL_act_88 (by decide) ?_
  refine lv_icmp_ne (tgt := 104) hx hb dL_act_90 (by decide) (fun _ => ?_) (fun c => absurd c (by decide))
  refine lv_iload_n hx hb dL_act_104 rfl (lv_at hl 1 rfl) ?_
  refine lv_bipush (v := nI 7) hx hb dL_act_105 (by decide) ?_
  refine lv_icmp_ne (tgt := 121) hx hb dL_act_107 (by decide) (fun _ => ?_) (fun c => absurd c (by decide))
  refine lv_iload_n hx hb dL_act_121 rfl (lv_at hl 1 rfl) ?_
  refine lv_bipush (v := nI 8) hx hb dL_act_122 (by decide) ?_
  refine lv_icmp_ne (tgt := 138) hx hb dL_act_124 (by decide) (fun _ => ?_) (fun c => absurd c (by decide))
  refine lv_iload_n hx hb dL_act_138 rfl (lv_at hl 1 rfl) ?_
  refine lv_bipush (v := nI 9) hx hb dL_act_139 (by decide) ?_
  refine lv_icmp_ne (tgt := 153) hx hb dL_act_141 (by decide) (fun _ => ?_) (fun c => absurd c (by decide))
  refine lv_iload_n hx hb dL_act_153 rfl (lv_at hl 1 rfl) ?_
  refine lv_bipush (v := nI 10) hx hb dL_act_154 (by decide) ?_
  refine lv_icmp_ne (tgt := 168) hx hb dL_act_156 (by decide) (fun _ => ?_) (fun c => absurd c (by decide))
  refine lv_iload_n hx hb dL_act_168 rfl (lv_at hl 1 rfl) ?_
  refine lv_bipush (v := nI 11) hx hb dL_act_169 (by decide) ?_
  refine lv_icmp_ne (tgt := 183) hx hb dL_act_171 (by decide) (fun c => absurd c (by decide)) (fun _ => ?_)
  refine lv_aload_n hx hb dL_act_174 rfl (lv_at hl 0 rfl) ?_
  refine lv_iload_n hx hb dL_act_175 rfl (lv_at hl 2 rfl) ?_
  refine lv_iload_n hx hb dL_act_176 rfl (lv_at hl 3 rfl) ?_
  refine vx_calli (vx_runV (As := [.int p9, .int w9]) (rest := []) FX (k_X11_ofNet l hfl G a ha t9 st p9 w9 hO) (cwV 2 hts gL_act_X11_ofNet rfl rfl rfl (by decide +kernel) ⟨Nat.le_of_ble_eq_true rfl, Nat.le_of_ble_eq_true rfl⟩) (preVX hK hNW hCW (hLow.at hS (fun q9 _ q => rng_M q9 q)) (hX.at hS (fun q9 _ q => rng_M q9 q)) (cw_recv hK hCW)) rfl rfl hl.1 rfl (lv_room (Nat.le_of_ble_eq_true rfl)) dL_act_177 ⟨Nat.le_of_ble_eq_true rfl, Nat.le_of_ble_eq_true rfl⟩) hS (fun q _ h => h) (fun q h => h) (fun q _ h => h) (fun E ce q9 u t H locs ht hal _ hBX hsz hk hS hce hcv hcl => ?_) (fun r u t H locs ht hal hp hB hsz hk hS => ?_)
  · skip
    have hCW : CW G a st H := by rw [← ht]; exact hBX.2
    rcases hBX.1 with ⟨rfl, h⟩ | ⟨rfl, h⟩ | ⟨rfl, h⟩
    · skip
      refine vx_catch hown [] ⟨0, 306, 307, 73⟩ [⟨0, 306, 312, 76⟩, ⟨0, 306, 317, 79⟩] htab (fun z hz => absurd hz List.not_mem_nil) (by decide) (show 73 ≠ 0 by decide) (hts (.classLink RL 73 "java/lang/IndexOutOfBoundsException") (List.mem_of_getElem? (i := 1) (by decide +kernel))) (va_Nw.use rfl hX.2.1.2.1) hce hcv hcl ?_
      refine lv_astore (lv' := [(6, .ref q9), (0, .ref (a 0)), (1, .int (nI 11)), (2, .int p9), (3, .int w9), (4, .int u09), (5, .int u19)]) hx hb dL_act_307 hl (by decide) rfl (fun ls hl => ?_)
      refine lv_ldc (v := -7000001) hx hb hown (hts (.constant RL 75 (-7000001)) (List.mem_of_getElem? (i := 4) (by decide +kernel))) dL_act_309 ?_
      refine retw (Nat.le_of_ble_eq_true rfl) (Nat.le_of_ble_eq_true rfl) ?_
      exact en_wi () hx hb hr hlocks hS (AR.x1 h) hCW dL_act_311
    · skip
      refine vx_catch hown [⟨0, 306, 307, 73⟩] ⟨0, 306, 312, 76⟩ [⟨0, 306, 317, 79⟩] htab (List.forall_mem_cons.mpr ⟨Or.inr ⟨(show 73 ≠ 0 by decide), _, (hts (.classLink RL 73 "java/lang/IndexOutOfBoundsException") (List.mem_of_getElem? (i := 1) (by decide +kernel))), hNC.1⟩, (fun z hz => absurd hz List.not_mem_nil)⟩) (by decide) (show 76 ≠ 0 by decide) (hts (.classLink RL 76 "java/lang/IllegalArgumentException") (List.mem_of_getElem? (i := 2) (by decide +kernel))) (va_Nw.use rfl hX.2.1.2.2.1) hce hcv hcl ?_
      refine lv_astore (lv' := [(6, .ref q9), (0, .ref (a 0)), (1, .int (nI 11)), (2, .int p9), (3, .int w9), (4, .int u09), (5, .int u19)]) hx hb dL_act_312 hl (by decide) rfl (fun ls hl => ?_)
      refine lv_ldc (v := -7000002) hx hb hown (hts (.constant RL 78 (-7000002)) (List.mem_of_getElem? (i := 5) (by decide +kernel))) dL_act_314 ?_
      refine retw (Nat.le_of_ble_eq_true rfl) (Nat.le_of_ble_eq_true rfl) ?_
      exact en_wi () hx hb hr hlocks hS (AR.x2 h) hCW dL_act_316
    · skip
      refine vx_catch hown [⟨0, 306, 307, 73⟩, ⟨0, 306, 312, 76⟩] ⟨0, 306, 317, 79⟩ [] htab (List.forall_mem_cons.mpr ⟨Or.inr ⟨(show 73 ≠ 0 by decide), _, (hts (.classLink RL 73 "java/lang/IndexOutOfBoundsException") (List.mem_of_getElem? (i := 1) (by decide +kernel))), hNC.2.1⟩, (List.forall_mem_cons.mpr ⟨Or.inr ⟨(show 76 ≠ 0 by decide), _, (hts (.classLink RL 76 "java/lang/IllegalArgumentException") (List.mem_of_getElem? (i := 2) (by decide +kernel))), hNC.2.2⟩, (fun z hz => absurd hz List.not_mem_nil)⟩)⟩) (by decide) (show 79 ≠ 0 by decide) (hts (.classLink RL 79 "java/lang/IllegalStateException") (List.mem_of_getElem? (i := 3) (by decide +kernel))) (va_Nw.use rfl hX.2.1.2.2.2) hce hcv hcl ?_
      refine lv_astore (lv' := [(6, .ref q9), (0, .ref (a 0)), (1, .int (nI 11)), (2, .int p9), (3, .int w9), (4, .int u09), (5, .int u19)]) hx hb dL_act_317 hl (by decide) rfl (fun ls hl => ?_)
      refine lv_ldc (v := -7000003) hx hb hown (hts (.constant RL 81 (-7000003)) (List.mem_of_getElem? (i := 6) (by decide +kernel))) dL_act_319 ?_
      refine retw (Nat.le_of_ble_eq_true rfl) (Nat.le_of_ble_eq_true rfl) ?_
      exact en_wi () hx hb hr hlocks hS (AR.x3 h) hCW dL_act_321
  · skip
    have hCW : CW G a st H := by rw [← ht]; exact hB
    refine lv_goto (tgt := 306) hx hb dL_act_180 (by decide) ?_
    refine retw (Nat.le_of_ble_eq_true rfl) (Nat.le_of_ble_eq_true rfl) ?_
    exact en_wi () hx hb hr hlocks hS (AR.x0 hp.1 hp.2) hCW dL_act_306
set_option maxHeartbeats 4000000 in
set_option maxRecDepth 100000 in
theorem w_act_time (l : Launch) (hfl : l.stackTraces = false) (G : GG) (a : Nat → Nat) (ha : Inj a) (t9 : Nat) (st : ST) (p9 g9 u09 u19 : Int32) (hO : OKS st) : vx_Met l yL_act wsL_act ({ frames := 8, cells := 2, slots := 12, locals := 126 } : Room) (PcW G a t9 [.ref (a 0), .int (nI 12), .int p9, .int g9, .int u09, .int u19] (fun H => CW G a st H)) (QI (fun (r : Int32) (_ : Unit) => AR (cTi st.1 p9 g9) r (r = nI (tm (st.1 (ix p9)) st.2.1 (ix g9)))) (fun _ H => CW G a st H) (rng a 0 93)) (fun _ _ _ => False) 2 12 (rng a 0 93) := by
  refine vx_ofWH (cc := cL_act) (maxL := 7) (ret := some .int) (hh := [(0, 306, 307, 73), (0, 306, 312, 76), (0, 306, 317, 79)]) (by decide) rfl ?_
  intro p e s m args below meth c s₁ B hml hv
  obtain ⟨⟨⟨⟨rfl, hCW, hK, hNW⟩, hLow⟩, hX⟩, hNC⟩ := hv
  have hx := B.exec
  have hb := B.bytes
  have hr := B.returns
  have hts := atoms_spec (ws := wsL_act) B.pre
  have hown : s.vm.findClass RL = some m.cls := findClass_of_methodNamed B.named
  have hlocks := B.notSynchronized
  have htab : c.exceptionTable.toList = tableOf [(0, 306, 307, 73), (0, 306, 312, 76), (0, 306, 317, 79)] := vx_table (x := yL_act) B (hts _ List.mem_cons_self)
  have FX : CallFix p m c cL_act 7 s ([.ref (a 0), .int (nI 12), .int p9, .int g9, .int u09, .int u19] : List Value).toArray wsL_act RL := ⟨hx, hb, hml, hown, hts⟩
  have hl := lv_entry ([.ref (a 0), .int (nI 12), .int p9, .int g9, .int u09, .int u19]) (n := 7) (Nat.le_of_ble_eq_true rfl)
  rw [lg_entry_eq]
  generalize (lg_sl ([.ref (a 0), .int (nI 12), .int p9, .int g9, .int u09, .int u19]) ++ List.replicate (7 - (lg_sl ([.ref (a 0), .int (nI 12), .int p9, .int g9, .int u09, .int u19])).length) Slot.unset).toArray = ls at hl ⊢
  have hl : lv_has ls 7 [(0, .ref (a 0)), (1, .int (nI 12)), (2, .int p9), (3, .int g9), (4, .int u09), (5, .int u19)] := hl
  have hS : va_S (rng a 0 93) s.heap s.heap [] := va_S.rf
  refine lv_iload_n hx hb dL_act_0 rfl (lv_at hl 1 rfl) ?_
  refine lv_if_ne (tgt := 12) hx hb dL_act_1 (by decide) (fun _ => ?_) (fun c => absurd c (by decide))
  refine lv_iload_n hx hb dL_act_12 rfl (lv_at hl 1 rfl) ?_
  refine lv_iconst (v := nI 1) hx hb dL_act_13 (by decide) ?_
  refine lv_icmp_ne (tgt := 30) hx hb dL_act_14 (by decide) (fun _ => ?_) (fun c => absurd c (by decide))
  refine lv_iload_n hx hb dL_act_30 rfl (lv_at hl 1 rfl) ?_
  refine lv_iconst (v := nI 2) hx hb dL_act_31 (by decide) ?_
  refine lv_icmp_ne (tgt := 44) hx hb dL_act_32 (by decide) (fun _ => ?_) (fun c => absurd c (by decide))
  refine lv_iload_n hx hb dL_act_44 rfl (lv_at hl 1 rfl) ?_
  refine lv_iconst (v := nI 3) hx hb dL_act_45 (by decide) ?_
  refine lv_icmp_ne (tgt := 60) hx hb dL_act_46 (by decide) (fun _ => ?_) (fun c => absurd c (by decide))
  refine lv_iload_n hx hb dL_act_60 rfl (lv_at hl 1 rfl) ?_
  refine lv_iconst (v := nI 4) hx hb dL_act_61 (by decide) ?_
  refine lv_icmp_ne (tgt := 74) hx hb dL_act_62 (by decide) (fun _ => ?_) (fun c => absurd c (by decide))
  refine lv_iload_n hx hb dL_act_74 rfl (lv_at hl 1 rfl) ?_
  refine lv_iconst (v := nI 5) hx hb dL_act_75 (by decide) ?_
  refine lv_icmp_ne (tgt := 87) hx hb dL_act_76 (by decide) (fun _ => ?_) (fun c => absurd c (by decide))
  refine lv_iload_n hx hb dL_act_87 rfl (lv_at hl 1 rfl) ?_
  refine lv_bipush (v := nI 6) hx hb dL_act_88 (by decide) ?_
  refine lv_icmp_ne (tgt := 104) hx hb dL_act_90 (by decide) (fun _ => ?_) (fun c => absurd c (by decide))
  refine lv_iload_n hx hb dL_act_104 rfl (lv_at hl 1 rfl) ?_
  refine lv_bipush (v := nI 7) hx hb dL_act_105 (by decide) ?_
  refine lv_icmp_ne (tgt := 121) hx hb dL_act_107 (by decide) (fun _ => ?_) (fun c => absurd c (by decide))
  refine lv_iload_n hx hb dL_act_121 rfl (lv_at hl 1 rfl) ?_
  refine lv_bipush (v := nI 8) hx hb dL_act_122 (by decide) ?_
  refine lv_icmp_ne (tgt := 138) hx hb dL_act_124 (by decide) (fun _ => ?_) (fun c => absurd c (by decide))
  refine lv_iload_n hx hb dL_act_138 rfl (lv_at hl 1 rfl) ?_
  refine lv_bipush (v := nI 9) hx hb dL_act_139 (by decide) ?_
  refine lv_icmp_ne (tgt := 153) hx hb dL_act_141 (by decide) (fun _ => ?_) (fun c => absurd c (by decide))
  refine lv_iload_n hx hb dL_act_153 rfl (lv_at hl 1 rfl) ?_
  refine lv_bipush (v := nI 10) hx hb dL_act_154 (by decide) ?_
  refine lv_icmp_ne (tgt := 168) hx hb dL_act_156 (by decide) (fun _ => ?_) (fun c => absurd c (by decide))
  refine lv_iload_n hx hb dL_act_168 rfl (lv_at hl 1 rfl) ?_
  refine lv_bipush (v := nI 11) hx hb dL_act_169 (by decide) ?_
  refine lv_icmp_ne (tgt := 183) hx hb dL_act_171 (by decide) (fun _ => ?_) (fun c => absurd c (by decide))
  refine lv_iload_n hx hb dL_act_183 rfl (lv_at hl 1 rfl) ?_
  refine lv_bipush (v := nI 12) hx hb dL_act_184 (by decide) ?_
  refine lv_icmp_ne (tgt := 198) hx hb dL_act_186 (by decide) (fun c => absurd c (by decide)) (fun _ => ?_)
  refine lv_aload_n hx hb dL_act_189 rfl (lv_at hl 0 rfl) ?_
  refine lv_iload_n hx hb dL_act_190 rfl (lv_at hl 2 rfl) ?_
  refine lv_iload_n hx hb dL_act_191 rfl (lv_at hl 3 rfl) ?_
  refine vx_calli (vx_runV (As := [.int p9, .int g9]) (rest := []) FX (k_X11_time l hfl G a ha t9 st p9 g9 hO) (cwV 2 hts gL_act_X11_time rfl rfl rfl (by decide +kernel) ⟨Nat.le_of_ble_eq_true rfl, Nat.le_of_ble_eq_true rfl⟩) (preVX hK hNW hCW (hLow.at hS (fun q9 _ q => rng_M q9 q)) (hX.at hS (fun q9 _ q => rng_M q9 q)) (cw_recv hK hCW)) rfl rfl hl.1 rfl (lv_room (Nat.le_of_ble_eq_true rfl)) dL_act_192 ⟨Nat.le_of_ble_eq_true rfl, Nat.le_of_ble_eq_true rfl⟩) hS (fun q _ h => h) (fun q h => h) (fun q _ h => h) (fun E ce q9 u t H locs ht hal _ hBX hsz hk hS hce hcv hcl => ?_) (fun r u t H locs ht hal hp hB hsz hk hS => ?_)
  · skip
    have hCW : CW G a st H := by rw [← ht]; exact hBX.2
    rcases hBX.1 with ⟨rfl, h⟩ | ⟨rfl, h⟩ | ⟨rfl, h⟩
    · skip
      refine vx_catch hown [] ⟨0, 306, 307, 73⟩ [⟨0, 306, 312, 76⟩, ⟨0, 306, 317, 79⟩] htab (fun z hz => absurd hz List.not_mem_nil) (by decide) (show 73 ≠ 0 by decide) (hts (.classLink RL 73 "java/lang/IndexOutOfBoundsException") (List.mem_of_getElem? (i := 1) (by decide +kernel))) (va_Nw.use rfl hX.2.1.2.1) hce hcv hcl ?_
      refine lv_astore (lv' := [(6, .ref q9), (0, .ref (a 0)), (1, .int (nI 12)), (2, .int p9), (3, .int g9), (4, .int u09), (5, .int u19)]) hx hb dL_act_307 hl (by decide) rfl (fun ls hl => ?_)
      refine lv_ldc (v := -7000001) hx hb hown (hts (.constant RL 75 (-7000001)) (List.mem_of_getElem? (i := 4) (by decide +kernel))) dL_act_309 ?_
      refine retw (Nat.le_of_ble_eq_true rfl) (Nat.le_of_ble_eq_true rfl) ?_
      exact en_wi () hx hb hr hlocks hS (AR.x1 h) hCW dL_act_311
    · skip
      refine vx_catch hown [⟨0, 306, 307, 73⟩] ⟨0, 306, 312, 76⟩ [⟨0, 306, 317, 79⟩] htab (List.forall_mem_cons.mpr ⟨Or.inr ⟨(show 73 ≠ 0 by decide), _, (hts (.classLink RL 73 "java/lang/IndexOutOfBoundsException") (List.mem_of_getElem? (i := 1) (by decide +kernel))), hNC.1⟩, (fun z hz => absurd hz List.not_mem_nil)⟩) (by decide) (show 76 ≠ 0 by decide) (hts (.classLink RL 76 "java/lang/IllegalArgumentException") (List.mem_of_getElem? (i := 2) (by decide +kernel))) (va_Nw.use rfl hX.2.1.2.2.1) hce hcv hcl ?_
      refine lv_astore (lv' := [(6, .ref q9), (0, .ref (a 0)), (1, .int (nI 12)), (2, .int p9), (3, .int g9), (4, .int u09), (5, .int u19)]) hx hb dL_act_312 hl (by decide) rfl (fun ls hl => ?_)
      refine lv_ldc (v := -7000002) hx hb hown (hts (.constant RL 78 (-7000002)) (List.mem_of_getElem? (i := 5) (by decide +kernel))) dL_act_314 ?_
      refine retw (Nat.le_of_ble_eq_true rfl) (Nat.le_of_ble_eq_true rfl) ?_
      exact en_wi () hx hb hr hlocks hS (AR.x2 h) hCW dL_act_316
    · skip
      refine vx_catch hown [⟨0, 306, 307, 73⟩, ⟨0, 306, 312, 76⟩] ⟨0, 306, 317, 79⟩ [] htab (List.forall_mem_cons.mpr ⟨Or.inr ⟨(show 73 ≠ 0 by decide), _, (hts (.classLink RL 73 "java/lang/IndexOutOfBoundsException") (List.mem_of_getElem? (i := 1) (by decide +kernel))), hNC.2.1⟩, (List.forall_mem_cons.mpr ⟨Or.inr ⟨(show 76 ≠ 0 by decide), _, (hts (.classLink RL 76 "java/lang/IllegalArgumentException") (List.mem_of_getElem? (i := 2) (by decide +kernel))), hNC.2.2⟩, (fun z hz => absurd hz List.not_mem_nil)⟩)⟩) (by decide) (show 79 ≠ 0 by decide) (hts (.classLink RL 79 "java/lang/IllegalStateException") (List.mem_of_getElem? (i := 3) (by decide +kernel))) (va_Nw.use rfl hX.2.1.2.2.2) hce hcv hcl ?_
      refine lv_astore (lv' := [(6, .ref q9), (0, .ref (a 0)), (1, .int (nI 12)), (2, .int p9), (3, .int g9), (4, .int u09), (5, .int u19)]) hx hb dL_act_317 hl (by decide) rfl (fun ls hl => ?_)
      refine lv_ldc (v := -7000003) hx hb hown (hts (.constant RL 81 (-7000003)) (List.mem_of_getElem? (i := 6) (by decide +kernel))) dL_act_319 ?_
      refine retw (Nat.le_of_ble_eq_true rfl) (Nat.le_of_ble_eq_true rfl) ?_
      exact en_wi () hx hb hr hlocks hS (AR.x3 h) hCW dL_act_321
  · skip
    have hCW : CW G a st H := by rw [← ht]; exact hB
    refine lv_goto (tgt := 306) hx hb dL_act_195 (by decide) ?_
    refine retw (Nat.le_of_ble_eq_true rfl) (Nat.le_of_ble_eq_true rfl) ?_
    exact en_wi () hx hb hr hlocks hS (AR.x0 hp.1 hp.2) hCW dL_act_306
set_option maxHeartbeats 4000000 in
set_option maxRecDepth 100000 in
theorem w_act_path (l : Launch) (hfl : l.stackTraces = false) (G : GG) (a : Nat → Nat) (ha : Inj a) (t9 : Nat) (st : ST) (p9 x9 u09 u19 : Int32) (hO : OKS st) : vx_Met l yL_act wsL_act ({ frames := 8, cells := 2, slots := 12, locals := 128 } : Room) (PcW G a t9 [.ref (a 0), .int (nI 13), .int p9, .int x9, .int u09, .int u19] (fun H => CW G a st H)) (QI (fun (r : Int32) (_ : Unit) => AR (cPa p9 x9) r (r = paV (st.1 (ix p9)) st.2.1 x9)) (fun _ H => CW G a st H) (rng a 0 93)) (fun _ _ _ => False) 2 12 (rng a 0 93) := by
  refine vx_ofWH (cc := cL_act) (maxL := 7) (ret := some .int) (hh := [(0, 306, 307, 73), (0, 306, 312, 76), (0, 306, 317, 79)]) (by decide) rfl ?_
  intro p e s m args below meth c s₁ B hml hv
  obtain ⟨⟨⟨⟨rfl, hCW, hK, hNW⟩, hLow⟩, hX⟩, hNC⟩ := hv
  have hx := B.exec
  have hb := B.bytes
  have hr := B.returns
  have hts := atoms_spec (ws := wsL_act) B.pre
  have hown : s.vm.findClass RL = some m.cls := findClass_of_methodNamed B.named
  have hlocks := B.notSynchronized
  have htab : c.exceptionTable.toList = tableOf [(0, 306, 307, 73), (0, 306, 312, 76), (0, 306, 317, 79)] := vx_table (x := yL_act) B (hts _ List.mem_cons_self)
  have FX : CallFix p m c cL_act 7 s ([.ref (a 0), .int (nI 13), .int p9, .int x9, .int u09, .int u19] : List Value).toArray wsL_act RL := ⟨hx, hb, hml, hown, hts⟩
  have hl := lv_entry ([.ref (a 0), .int (nI 13), .int p9, .int x9, .int u09, .int u19]) (n := 7) (Nat.le_of_ble_eq_true rfl)
  rw [lg_entry_eq]
  generalize (lg_sl ([.ref (a 0), .int (nI 13), .int p9, .int x9, .int u09, .int u19]) ++ List.replicate (7 - (lg_sl ([.ref (a 0), .int (nI 13), .int p9, .int x9, .int u09, .int u19])).length) Slot.unset).toArray = ls at hl ⊢
  have hl : lv_has ls 7 [(0, .ref (a 0)), (1, .int (nI 13)), (2, .int p9), (3, .int x9), (4, .int u09), (5, .int u19)] := hl
  have hS : va_S (rng a 0 93) s.heap s.heap [] := va_S.rf
  refine lv_iload_n hx hb dL_act_0 rfl (lv_at hl 1 rfl) ?_
  refine lv_if_ne (tgt := 12) hx hb dL_act_1 (by decide) (fun _ => ?_) (fun c => absurd c (by decide))
  refine lv_iload_n hx hb dL_act_12 rfl (lv_at hl 1 rfl) ?_
  refine lv_iconst (v := nI 1) hx hb dL_act_13 (by decide) ?_
  refine lv_icmp_ne (tgt := 30) hx hb dL_act_14 (by decide) (fun _ => ?_) (fun c => absurd c (by decide))
  refine lv_iload_n hx hb dL_act_30 rfl (lv_at hl 1 rfl) ?_
  refine lv_iconst (v := nI 2) hx hb dL_act_31 (by decide) ?_
  refine lv_icmp_ne (tgt := 44) hx hb dL_act_32 (by decide) (fun _ => ?_) (fun c => absurd c (by decide))
  refine lv_iload_n hx hb dL_act_44 rfl (lv_at hl 1 rfl) ?_
  refine lv_iconst (v := nI 3) hx hb dL_act_45 (by decide) ?_
  refine lv_icmp_ne (tgt := 60) hx hb dL_act_46 (by decide) (fun _ => ?_) (fun c => absurd c (by decide))
  refine lv_iload_n hx hb dL_act_60 rfl (lv_at hl 1 rfl) ?_
  refine lv_iconst (v := nI 4) hx hb dL_act_61 (by decide) ?_
  refine lv_icmp_ne (tgt := 74) hx hb dL_act_62 (by decide) (fun _ => ?_) (fun c => absurd c (by decide))
  refine lv_iload_n hx hb dL_act_74 rfl (lv_at hl 1 rfl) ?_
  refine lv_iconst (v := nI 5) hx hb dL_act_75 (by decide) ?_
  refine lv_icmp_ne (tgt := 87) hx hb dL_act_76 (by decide) (fun _ => ?_) (fun c => absurd c (by decide))
  refine lv_iload_n hx hb dL_act_87 rfl (lv_at hl 1 rfl) ?_
  refine lv_bipush (v := nI 6) hx hb dL_act_88 (by decide) ?_
  refine lv_icmp_ne (tgt := 104) hx hb dL_act_90 (by decide) (fun _ => ?_) (fun c => absurd c (by decide))
  refine lv_iload_n hx hb dL_act_104 rfl (lv_at hl 1 rfl) ?_
  refine lv_bipush (v := nI 7) hx hb dL_act_105 (by decide) ?_
  refine lv_icmp_ne (tgt := 121) hx hb dL_act_107 (by decide) (fun _ => ?_) (fun c => absurd c (by decide))
  refine lv_iload_n hx hb dL_act_121 rfl (lv_at hl 1 rfl) ?_
  refine lv_bipush (v := nI 8) hx hb dL_act_122 (by decide) ?_
  refine lv_icmp_ne (tgt := 138) hx hb dL_act_124 (by decide) (fun _ => ?_) (fun c => absurd c (by decide))
  refine lv_iload_n hx hb dL_act_138 rfl (lv_at hl 1 rfl) ?_
  refine lv_bipush (v := nI 9) hx hb dL_act_139 (by decide) ?_
  refine lv_icmp_ne (tgt := 153) hx hb dL_act_141 (by decide) (fun _ => ?_) (fun c => absurd c (by decide))
  refine lv_iload_n hx hb dL_act_153 rfl (lv_at hl 1 rfl) ?_
  refine lv_bipush (v := nI 10) hx hb dL_act_154 (by decide) ?_
  refine lv_icmp_ne (tgt := 168) hx hb dL_act_156 (by decide) (fun _ => ?_) (fun c => absurd c (by decide))
  refine lv_iload_n hx hb dL_act_168 rfl (lv_at hl 1 rfl) ?_
  refine lv_bipush (v := nI 11) hx hb dL_act_169 (by decide) ?_
  refine lv_icmp_ne (tgt := 183) hx hb dL_act_171 (by decide) (fun _ => ?_) (fun c => absurd c (by decide))
  refine lv_iload_n hx hb dL_act_183 rfl (lv_at hl 1 rfl) ?_
  refine lv_bipush (v := nI 12) hx hb dL_act_184 (by decide) ?_
  refine lv_icmp_ne (tgt := 198) hx hb dL_act_186 (by decide) (fun _ => ?_) (fun c => absurd c (by decide))
  refine lv_iload_n hx hb dL_act_198 rfl (lv_at hl 1 rfl) ?_
  refine lv_bipush (v := nI 13) hx hb dL_act_199 (by decide) ?_
  refine lv_icmp_ne (tgt := 213) hx hb dL_act_201 (by decide) (fun c => absurd c (by decide)) (fun _ => ?_)
  refine lv_aload_n hx hb dL_act_204 rfl (lv_at hl 0 rfl) ?_
  refine lv_iload_n hx hb dL_act_205 rfl (lv_at hl 2 rfl) ?_
  refine lv_iload_n hx hb dL_act_206 rfl (lv_at hl 3 rfl) ?_
  refine vx_calli (vx_runV (As := [.int p9, .int x9]) (rest := []) FX (k_X11_path l hfl G a ha t9 st p9 x9 hO) (cwV 2 hts gL_act_X11_path rfl rfl rfl (by decide +kernel) ⟨Nat.le_of_ble_eq_true rfl, Nat.le_of_ble_eq_true rfl⟩) (preVX hK hNW hCW (hLow.at hS (fun q9 _ q => rng_M q9 q)) (hX.at hS (fun q9 _ q => rng_M q9 q)) (cw_recv hK hCW)) rfl rfl hl.1 rfl (lv_room (Nat.le_of_ble_eq_true rfl)) dL_act_207 ⟨Nat.le_of_ble_eq_true rfl, Nat.le_of_ble_eq_true rfl⟩) hS (fun q _ h => h) (fun q h => h) (fun q _ h => h) (fun E ce q9 u t H locs ht hal _ hBX hsz hk hS hce hcv hcl => ?_) (fun r u t H locs ht hal hp hB hsz hk hS => ?_)
  · skip
    have hCW : CW G a st H := by rw [← ht]; exact hBX.2
    rcases hBX.1 with ⟨rfl, h⟩ | ⟨rfl, h⟩ | ⟨rfl, h⟩
    · skip
      refine vx_catch hown [] ⟨0, 306, 307, 73⟩ [⟨0, 306, 312, 76⟩, ⟨0, 306, 317, 79⟩] htab (fun z hz => absurd hz List.not_mem_nil) (by decide) (show 73 ≠ 0 by decide) (hts (.classLink RL 73 "java/lang/IndexOutOfBoundsException") (List.mem_of_getElem? (i := 1) (by decide +kernel))) (va_Nw.use rfl hX.2.1.2.1) hce hcv hcl ?_
      refine lv_astore (lv' := [(6, .ref q9), (0, .ref (a 0)), (1, .int (nI 13)), (2, .int p9), (3, .int x9), (4, .int u09), (5, .int u19)]) hx hb dL_act_307 hl (by decide) rfl (fun ls hl => ?_)
      refine lv_ldc (v := -7000001) hx hb hown (hts (.constant RL 75 (-7000001)) (List.mem_of_getElem? (i := 4) (by decide +kernel))) dL_act_309 ?_
      refine retw (Nat.le_of_ble_eq_true rfl) (Nat.le_of_ble_eq_true rfl) ?_
      exact en_wi () hx hb hr hlocks hS (AR.x1 h) hCW dL_act_311
    · skip
      refine vx_catch hown [⟨0, 306, 307, 73⟩] ⟨0, 306, 312, 76⟩ [⟨0, 306, 317, 79⟩] htab (List.forall_mem_cons.mpr ⟨Or.inr ⟨(show 73 ≠ 0 by decide), _, (hts (.classLink RL 73 "java/lang/IndexOutOfBoundsException") (List.mem_of_getElem? (i := 1) (by decide +kernel))), hNC.1⟩, (fun z hz => absurd hz List.not_mem_nil)⟩) (by decide) (show 76 ≠ 0 by decide) (hts (.classLink RL 76 "java/lang/IllegalArgumentException") (List.mem_of_getElem? (i := 2) (by decide +kernel))) (va_Nw.use rfl hX.2.1.2.2.1) hce hcv hcl ?_
      refine lv_astore (lv' := [(6, .ref q9), (0, .ref (a 0)), (1, .int (nI 13)), (2, .int p9), (3, .int x9), (4, .int u09), (5, .int u19)]) hx hb dL_act_312 hl (by decide) rfl (fun ls hl => ?_)
      refine lv_ldc (v := -7000002) hx hb hown (hts (.constant RL 78 (-7000002)) (List.mem_of_getElem? (i := 5) (by decide +kernel))) dL_act_314 ?_
      refine retw (Nat.le_of_ble_eq_true rfl) (Nat.le_of_ble_eq_true rfl) ?_
      exact en_wi () hx hb hr hlocks hS (AR.x2 h) hCW dL_act_316
    · skip
      refine vx_catch hown [⟨0, 306, 307, 73⟩, ⟨0, 306, 312, 76⟩] ⟨0, 306, 317, 79⟩ [] htab (List.forall_mem_cons.mpr ⟨Or.inr ⟨(show 73 ≠ 0 by decide), _, (hts (.classLink RL 73 "java/lang/IndexOutOfBoundsException") (List.mem_of_getElem? (i := 1) (by decide +kernel))), hNC.2.1⟩, (List.forall_mem_cons.mpr ⟨Or.inr ⟨(show 76 ≠ 0 by decide), _, (hts (.classLink RL 76 "java/lang/IllegalArgumentException") (List.mem_of_getElem? (i := 2) (by decide +kernel))), hNC.2.2⟩, (fun z hz => absurd hz List.not_mem_nil)⟩)⟩) (by decide) (show 79 ≠ 0 by decide) (hts (.classLink RL 79 "java/lang/IllegalStateException") (List.mem_of_getElem? (i := 3) (by decide +kernel))) (va_Nw.use rfl hX.2.1.2.2.2) hce hcv hcl ?_
      refine lv_astore (lv' := [(6, .ref q9), (0, .ref (a 0)), (1, .int (nI 13)), (2, .int p9), (3, .int x9), (4, .int u09), (5, .int u19)]) hx hb dL_act_317 hl (by decide) rfl (fun ls hl => ?_)
      refine lv_ldc (v := -7000003) hx hb hown (hts (.constant RL 81 (-7000003)) (List.mem_of_getElem? (i := 6) (by decide +kernel))) dL_act_319 ?_
      refine retw (Nat.le_of_ble_eq_true rfl) (Nat.le_of_ble_eq_true rfl) ?_
      exact en_wi () hx hb hr hlocks hS (AR.x3 h) hCW dL_act_321
  · skip
    have hCW : CW G a st H := by rw [← ht]; exact hB
    refine lv_goto (tgt := 306) hx hb dL_act_210 (by decide) ?_
    refine retw (Nat.le_of_ble_eq_true rfl) (Nat.le_of_ble_eq_true rfl) ?_
    exact en_wi () hx hb hr hlocks hS (AR.x0 hp.1 hp.2) hCW dL_act_306
set_option maxHeartbeats 4000000 in
set_option maxRecDepth 100000 in
theorem w_act_changes (l : Launch) (hfl : l.stackTraces = false) (G : GG) (a : Nat → Nat) (ha : Inj a) (t9 : Nat) (st : ST) (p9 f9 v9 w9 : Int32) (hO : OKS st) : vx_Met l yL_act wsL_act ({ frames := 9, cells := 4, slots := 24, locals := 151 } : Room) (PcW G a t9 [.ref (a 0), .int (nI 14), .int p9, .int f9, .int v9, .int w9] (fun H => CW G a st H)) (QI (fun (r : Int32) (_ : Unit) => AR (cCh p9 f9 v9 w9) r (r = nI (tkV (st.1 (ix p9)) st.2.1 (ix f9) (ix v9) (mxT (st.1 (ix p9)) st.2.1 (nG (st.1 (ix p9))) + 1) (ix w9)))) (fun _ H => CW G a st H) (rng a 0 93)) (fun _ _ _ => False) 4 24 (rng a 0 93) := by
  refine vx_ofWH (cc := cL_act) (maxL := 7) (ret := some .int) (hh := [(0, 306, 307, 73), (0, 306, 312, 76), (0, 306, 317, 79)]) (by decide) rfl ?_
  intro p e s m args below meth c s₁ B hml hv
  obtain ⟨⟨⟨⟨rfl, hCW, hK, hNW⟩, hLow⟩, hX⟩, hNC⟩ := hv
  have hx := B.exec
  have hb := B.bytes
  have hr := B.returns
  have hts := atoms_spec (ws := wsL_act) B.pre
  have hown : s.vm.findClass RL = some m.cls := findClass_of_methodNamed B.named
  have hlocks := B.notSynchronized
  have htab : c.exceptionTable.toList = tableOf [(0, 306, 307, 73), (0, 306, 312, 76), (0, 306, 317, 79)] := vx_table (x := yL_act) B (hts _ List.mem_cons_self)
  have FX : CallFix p m c cL_act 7 s ([.ref (a 0), .int (nI 14), .int p9, .int f9, .int v9, .int w9] : List Value).toArray wsL_act RL := ⟨hx, hb, hml, hown, hts⟩
  have hl := lv_entry ([.ref (a 0), .int (nI 14), .int p9, .int f9, .int v9, .int w9]) (n := 7) (Nat.le_of_ble_eq_true rfl)
  rw [lg_entry_eq]
  generalize (lg_sl ([.ref (a 0), .int (nI 14), .int p9, .int f9, .int v9, .int w9]) ++ List.replicate (7 - (lg_sl ([.ref (a 0), .int (nI 14), .int p9, .int f9, .int v9, .int w9])).length) Slot.unset).toArray = ls at hl ⊢
  have hl : lv_has ls 7 [(0, .ref (a 0)), (1, .int (nI 14)), (2, .int p9), (3, .int f9), (4, .int v9), (5, .int w9)] := hl
  have hS : va_S (rng a 0 93) s.heap s.heap [] := va_S.rf
  refine lv_iload_n hx hb dL_act_0 rfl (lv_at hl 1 rfl) ?_
  refine lv_if_ne (tgt := 12) hx hb dL_act_1 (by decide) (fun _ => ?_) (fun c => absurd c (by decide))
  refine lv_iload_n hx hb dL_act_12 rfl (lv_at hl 1 rfl) ?_
  refine lv_iconst (v := nI 1) hx hb dL_act_13 (by decide) ?_
  refine lv_icmp_ne (tgt := 30) hx hb dL_act_14 (by decide) (fun _ => ?_) (fun c => absurd c (by decide))
  refine lv_iload_n hx hb dL_act_30 rfl (lv_at hl 1 rfl) ?_
  refine lv_iconst (v := nI 2) hx hb dL_act_31 (by decide) ?_
  refine lv_icmp_ne (tgt := 44) hx hb dL_act_32 (by decide) (fun _ => ?_) (fun c => absurd c (by decide))
  refine lv_iload_n hx hb dL_act_44 rfl (lv_at hl 1 rfl) ?_
  refine lv_iconst (v := nI 3) hx hb dL_act_45 (by decide) ?_
  refine lv_icmp_ne (tgt := 60) hx hb dL_act_46 (by decide) (fun _ => ?_) (fun c => absurd c (by decide))
  refine lv_iload_n hx hb dL_act_60 rfl (lv_at hl 1 rfl) ?_
  refine lv_iconst (v := nI 4) hx hb dL_act_61 (by decide) ?_
  refine lv_icmp_ne (tgt := 74) hx hb dL_act_62 (by decide) (fun _ => ?_) (fun c => absurd c (by decide))
  refine lv_iload_n hx hb dL_act_74 rfl (lv_at hl 1 rfl) ?_
  refine lv_iconst (v := nI 5) hx hb dL_act_75 (by decide) ?_
  refine lv_icmp_ne (tgt := 87) hx hb dL_act_76 (by decide) (fun _ => ?_) (fun c => absurd c (by decide))
  refine lv_iload_n hx hb dL_act_87 rfl (lv_at hl 1 rfl) ?_
  refine lv_bipush (v := nI 6) hx hb dL_act_88 (by decide) ?_
  refine lv_icmp_ne (tgt := 104) hx hb dL_act_90 (by decide) (fun _ => ?_) (fun c => absurd c (by decide))
  refine lv_iload_n hx hb dL_act_104 rfl (lv_at hl 1 rfl) ?_
  refine lv_bipush (v := nI 7) hx hb dL_act_105 (by decide) ?_
  refine lv_icmp_ne (tgt := 121) hx hb dL_act_107 (by decide) (fun _ => ?_) (fun c => absurd c (by decide))
  refine lv_iload_n hx hb dL_act_121 rfl (lv_at hl 1 rfl) ?_
  refine lv_bipush (v := nI 8) hx hb dL_act_122 (by decide) ?_
  refine lv_icmp_ne (tgt := 138) hx hb dL_act_124 (by decide) (fun _ => ?_) (fun c => absurd c (by decide))
  refine lv_iload_n hx hb dL_act_138 rfl (lv_at hl 1 rfl) ?_
  refine lv_bipush (v := nI 9) hx hb dL_act_139 (by decide) ?_
  refine lv_icmp_ne (tgt := 153) hx hb dL_act_141 (by decide) (fun _ => ?_) (fun c => absurd c (by decide))
  refine lv_iload_n hx hb dL_act_153 rfl (lv_at hl 1 rfl) ?_
  refine lv_bipush (v := nI 10) hx hb dL_act_154 (by decide) ?_
  refine lv_icmp_ne (tgt := 168) hx hb dL_act_156 (by decide) (fun _ => ?_) (fun c => absurd c (by decide))
  refine lv_iload_n hx hb dL_act_168 rfl (lv_at hl 1 rfl) ?_
  refine lv_bipush (v := nI 11) hx hb dL_act_169 (by decide) ?_
  refine lv_icmp_ne (tgt := 183) hx hb dL_act_171 (by decide) (fun _ => ?_) (fun c => absurd c (by decide))
  refine lv_iload_n hx hb dL_act_183 rfl (lv_at hl 1 rfl) ?_
  refine lv_bipush (v := nI 12) hx hb dL_act_184 (by decide) ?_
  refine lv_icmp_ne (tgt := 198) hx hb dL_act_186 (by decide) (fun _ => ?_) (fun c => absurd c (by decide))
  refine lv_iload_n hx hb dL_act_198 rfl (lv_at hl 1 rfl) ?_
  refine lv_bipush (v := nI 13) hx hb dL_act_199 (by decide) ?_
  refine lv_icmp_ne (tgt := 213) hx hb dL_act_201 (by decide) (fun _ => ?_) (fun c => absurd c (by decide))
  refine lv_iload_n hx hb dL_act_213 rfl (lv_at hl 1 rfl) ?_
  refine lv_bipush (v := nI 14) hx hb dL_act_214 (by decide) ?_
  refine lv_icmp_ne (tgt := 232) hx hb dL_act_216 (by decide) (fun c => absurd c (by decide)) (fun _ => ?_)
  refine lv_aload_n hx hb dL_act_219 rfl (lv_at hl 0 rfl) ?_
  refine lv_iload_n hx hb dL_act_220 rfl (lv_at hl 2 rfl) ?_
  refine lv_iload_n hx hb dL_act_221 rfl (lv_at hl 3 rfl) ?_
  refine lv_iload hx hb dL_act_222 (lv_at hl 4 rfl) ?_
  refine lv_iload hx hb dL_act_224 (lv_at hl 5 rfl) ?_
  refine vx_calli (vx_runV (As := [.int p9, .int f9, .int v9, .int w9]) (rest := []) FX (k_X11_changes l hfl G a ha t9 st p9 f9 v9 w9 hO) (cwV 4 hts gL_act_X11_changes rfl rfl rfl (by decide +kernel) ⟨Nat.le_of_ble_eq_true rfl, Nat.le_of_ble_eq_true rfl⟩) (preVX hK hNW hCW (hLow.at hS (fun q9 _ q => rng_M q9 q)) (hX.at hS (fun q9 _ q => rng_M q9 q)) (cw_recv hK hCW)) rfl rfl hl.1 rfl (lv_room (Nat.le_of_ble_eq_true rfl)) dL_act_226 ⟨Nat.le_of_ble_eq_true rfl, Nat.le_of_ble_eq_true rfl⟩) hS (fun q _ h => h) (fun q h => h) (fun q _ h => h) (fun E ce q9 u t H locs ht hal _ hBX hsz hk hS hce hcv hcl => ?_) (fun r u t H locs ht hal hp hB hsz hk hS => ?_)
  · skip
    have hCW : CW G a st H := by rw [← ht]; exact hBX.2
    rcases hBX.1 with ⟨rfl, h⟩ | ⟨rfl, h⟩ | ⟨rfl, h⟩
    · skip
      refine vx_catch hown [] ⟨0, 306, 307, 73⟩ [⟨0, 306, 312, 76⟩, ⟨0, 306, 317, 79⟩] htab (fun z hz => absurd hz List.not_mem_nil) (by decide) (show 73 ≠ 0 by decide) (hts (.classLink RL 73 "java/lang/IndexOutOfBoundsException") (List.mem_of_getElem? (i := 1) (by decide +kernel))) (va_Nw.use rfl hX.2.1.2.1) hce hcv hcl ?_
      refine lv_astore (lv' := [(6, .ref q9), (0, .ref (a 0)), (1, .int (nI 14)), (2, .int p9), (3, .int f9), (4, .int v9), (5, .int w9)]) hx hb dL_act_307 hl (by decide) rfl (fun ls hl => ?_)
      refine lv_ldc (v := -7000001) hx hb hown (hts (.constant RL 75 (-7000001)) (List.mem_of_getElem? (i := 4) (by decide +kernel))) dL_act_309 ?_
      refine retw (Nat.le_of_ble_eq_true rfl) (Nat.le_of_ble_eq_true rfl) ?_
      exact en_wi () hx hb hr hlocks hS (AR.x1 h) hCW dL_act_311
    · skip
      refine vx_catch hown [⟨0, 306, 307, 73⟩] ⟨0, 306, 312, 76⟩ [⟨0, 306, 317, 79⟩] htab (List.forall_mem_cons.mpr ⟨Or.inr ⟨(show 73 ≠ 0 by decide), _, (hts (.classLink RL 73 "java/lang/IndexOutOfBoundsException") (List.mem_of_getElem? (i := 1) (by decide +kernel))), hNC.1⟩, (fun z hz => absurd hz List.not_mem_nil)⟩) (by decide) (show 76 ≠ 0 by decide) (hts (.classLink RL 76 "java/lang/IllegalArgumentException") (List.mem_of_getElem? (i := 2) (by decide +kernel))) (va_Nw.use rfl hX.2.1.2.2.1) hce hcv hcl ?_
      refine lv_astore (lv' := [(6, .ref q9), (0, .ref (a 0)), (1, .int (nI 14)), (2, .int p9), (3, .int f9), (4, .int v9), (5, .int w9)]) hx hb dL_act_312 hl (by decide) rfl (fun ls hl => ?_)
      refine lv_ldc (v := -7000002) hx hb hown (hts (.constant RL 78 (-7000002)) (List.mem_of_getElem? (i := 5) (by decide +kernel))) dL_act_314 ?_
      refine retw (Nat.le_of_ble_eq_true rfl) (Nat.le_of_ble_eq_true rfl) ?_
      exact en_wi () hx hb hr hlocks hS (AR.x2 h) hCW dL_act_316
    · skip
      refine vx_catch hown [⟨0, 306, 307, 73⟩, ⟨0, 306, 312, 76⟩] ⟨0, 306, 317, 79⟩ [] htab (List.forall_mem_cons.mpr ⟨Or.inr ⟨(show 73 ≠ 0 by decide), _, (hts (.classLink RL 73 "java/lang/IndexOutOfBoundsException") (List.mem_of_getElem? (i := 1) (by decide +kernel))), hNC.2.1⟩, (List.forall_mem_cons.mpr ⟨Or.inr ⟨(show 76 ≠ 0 by decide), _, (hts (.classLink RL 76 "java/lang/IllegalArgumentException") (List.mem_of_getElem? (i := 2) (by decide +kernel))), hNC.2.2⟩, (fun z hz => absurd hz List.not_mem_nil)⟩)⟩) (by decide) (show 79 ≠ 0 by decide) (hts (.classLink RL 79 "java/lang/IllegalStateException") (List.mem_of_getElem? (i := 3) (by decide +kernel))) (va_Nw.use rfl hX.2.1.2.2.2) hce hcv hcl ?_
      refine lv_astore (lv' := [(6, .ref q9), (0, .ref (a 0)), (1, .int (nI 14)), (2, .int p9), (3, .int f9), (4, .int v9), (5, .int w9)]) hx hb dL_act_317 hl (by decide) rfl (fun ls hl => ?_)
      refine lv_ldc (v := -7000003) hx hb hown (hts (.constant RL 81 (-7000003)) (List.mem_of_getElem? (i := 6) (by decide +kernel))) dL_act_319 ?_
      refine retw (Nat.le_of_ble_eq_true rfl) (Nat.le_of_ble_eq_true rfl) ?_
      exact en_wi () hx hb hr hlocks hS (AR.x3 h) hCW dL_act_321
  · skip
    have hCW : CW G a st H := by rw [← ht]; exact hB
    refine lv_goto (tgt := 306) hx hb dL_act_229 (by decide) ?_
    refine retw (Nat.le_of_ble_eq_true rfl) (Nat.le_of_ble_eq_true rfl) ?_
    exact en_wi () hx hb hr hlocks hS (AR.x0 hp.1 hp.2) hCW dL_act_306
set_option maxHeartbeats 4000000 in
set_option maxRecDepth 100000 in
theorem w_act_changesAnew (l : Launch) (hfl : l.stackTraces = false) (G : GG) (a : Nat → Nat) (ha : Inj a) (t9 : Nat) (st : ST) (p9 f9 v9 w9 : Int32) (hO : OKS st) : vx_Met l yL_act wsL_act ({ frames := 9, cells := 4, slots := 24, locals := 152 } : Room) (PcW G a t9 [.ref (a 0), .int (nI 15), .int p9, .int f9, .int v9, .int w9] (fun H => CW G a st H)) (QI (fun (r : Int32) (_ : Unit) => AR (cCh p9 f9 v9 w9) r (r = nI (tkV (st.1 (ix p9)) st.2.1 (ix f9) (ix v9) (mxT (st.1 (ix p9)) st.2.1 (nG (st.1 (ix p9))) + 1) (ix w9)))) (fun _ H => CW G a st H) (rng a 0 93)) (fun _ _ _ => False) 4 24 (rng a 0 93) := by
  refine vx_ofWH (cc := cL_act) (maxL := 7) (ret := some .int) (hh := [(0, 306, 307, 73), (0, 306, 312, 76), (0, 306, 317, 79)]) (by decide) rfl ?_
  intro p e s m args below meth c s₁ B hml hv
  obtain ⟨⟨⟨⟨rfl, hCW, hK, hNW⟩, hLow⟩, hX⟩, hNC⟩ := hv
  have hx := B.exec
  have hb := B.bytes
  have hr := B.returns
  have hts := atoms_spec (ws := wsL_act) B.pre
  have hown : s.vm.findClass RL = some m.cls := findClass_of_methodNamed B.named
  have hlocks := B.notSynchronized
  have htab : c.exceptionTable.toList = tableOf [(0, 306, 307, 73), (0, 306, 312, 76), (0, 306, 317, 79)] := vx_table (x := yL_act) B (hts _ List.mem_cons_self)
  have FX : CallFix p m c cL_act 7 s ([.ref (a 0), .int (nI 15), .int p9, .int f9, .int v9, .int w9] : List Value).toArray wsL_act RL := ⟨hx, hb, hml, hown, hts⟩
  have hl := lv_entry ([.ref (a 0), .int (nI 15), .int p9, .int f9, .int v9, .int w9]) (n := 7) (Nat.le_of_ble_eq_true rfl)
  rw [lg_entry_eq]
  generalize (lg_sl ([.ref (a 0), .int (nI 15), .int p9, .int f9, .int v9, .int w9]) ++ List.replicate (7 - (lg_sl ([.ref (a 0), .int (nI 15), .int p9, .int f9, .int v9, .int w9])).length) Slot.unset).toArray = ls at hl ⊢
  have hl : lv_has ls 7 [(0, .ref (a 0)), (1, .int (nI 15)), (2, .int p9), (3, .int f9), (4, .int v9), (5, .int w9)] := hl
  have hS : va_S (rng a 0 93) s.heap s.heap [] := va_S.rf
  refine lv_iload_n hx hb dL_act_0 rfl (lv_at hl 1 rfl) ?_
  refine lv_if_ne (tgt := 12) hx hb dL_act_1 (by decide) (fun _ => ?_) (fun c => absurd c (by decide))
  refine lv_iload_n hx hb dL_act_12 rfl (lv_at hl 1 rfl) ?_
  refine lv_iconst (v := nI 1) hx hb dL_act_13 (by decide) ?_
  refine lv_icmp_ne (tgt := 30) hx hb dL_act_14 (by decide) (fun _ => ?_) (fun c => absurd c (by decide))
  refine lv_iload_n hx hb dL_act_30 rfl (lv_at hl 1 rfl) ?_
  refine lv_iconst (v := nI 2) hx hb dL_act_31 (by decide) ?_
  refine lv_icmp_ne (tgt := 44) hx hb dL_act_32 (by decide) (fun _ => ?_) (fun c => absurd c (by decide))
  refine lv_iload_n hx hb dL_act_44 rfl (lv_at hl 1 rfl) ?_
  refine lv_iconst (v := nI 3) hx hb dL_act_45 (by decide) ?_
  refine lv_icmp_ne (tgt := 60) hx hb dL_act_46 (by decide) (fun _ => ?_) (fun c => absurd c (by decide))
  refine lv_iload_n hx hb dL_act_60 rfl (lv_at hl 1 rfl) ?_
  refine lv_iconst (v := nI 4) hx hb dL_act_61 (by decide) ?_
  refine lv_icmp_ne (tgt := 74) hx hb dL_act_62 (by decide) (fun _ => ?_) (fun c => absurd c (by decide))
  refine lv_iload_n hx hb dL_act_74 rfl (lv_at hl 1 rfl) ?_
  refine lv_iconst (v := nI 5) hx hb dL_act_75 (by decide) ?_
  refine lv_icmp_ne (tgt := 87) hx hb dL_act_76 (by decide) (fun _ => ?_) (fun c => absurd c (by decide))
  refine lv_iload_n hx hb dL_act_87 rfl (lv_at hl 1 rfl) ?_
  refine lv_bipush (v := nI 6) hx hb dL_act_88 (by decide) ?_
  refine lv_icmp_ne (tgt := 104) hx hb dL_act_90 (by decide) (fun _ => ?_) (fun c => absurd c (by decide))
  refine lv_iload_n hx hb dL_act_104 rfl (lv_at hl 1 rfl) ?_
  refine lv_bipush (v := nI 7) hx hb dL_act_105 (by decide) ?_
  refine lv_icmp_ne (tgt := 121) hx hb dL_act_107 (by decide) (fun _ => ?_) (fun c => absurd c (by decide))
  refine lv_iload_n hx hb dL_act_121 rfl (lv_at hl 1 rfl) ?_
  refine lv_bipush (v := nI 8) hx hb dL_act_122 (by decide) ?_
  refine lv_icmp_ne (tgt := 138) hx hb dL_act_124 (by decide) (fun _ => ?_) (fun c => absurd c (by decide))
  refine lv_iload_n hx hb dL_act_138 rfl (lv_at hl 1 rfl) ?_
  refine lv_bipush (v := nI 9) hx hb dL_act_139 (by decide) ?_
  refine lv_icmp_ne (tgt := 153) hx hb dL_act_141 (by decide) (fun _ => ?_) (fun c => absurd c (by decide))
  refine lv_iload_n hx hb dL_act_153 rfl (lv_at hl 1 rfl) ?_
  refine lv_bipush (v := nI 10) hx hb dL_act_154 (by decide) ?_
  refine lv_icmp_ne (tgt := 168) hx hb dL_act_156 (by decide) (fun _ => ?_) (fun c => absurd c (by decide))
  refine lv_iload_n hx hb dL_act_168 rfl (lv_at hl 1 rfl) ?_
  refine lv_bipush (v := nI 11) hx hb dL_act_169 (by decide) ?_
  refine lv_icmp_ne (tgt := 183) hx hb dL_act_171 (by decide) (fun _ => ?_) (fun c => absurd c (by decide))
  refine lv_iload_n hx hb dL_act_183 rfl (lv_at hl 1 rfl) ?_
  refine lv_bipush (v := nI 12) hx hb dL_act_184 (by decide) ?_
  refine lv_icmp_ne (tgt := 198) hx hb dL_act_186 (by decide) (fun _ => ?_) (fun c => absurd c (by decide))
  refine lv_iload_n hx hb dL_act_198 rfl (lv_at hl 1 rfl) ?_
  refine lv_bipush (v := nI 13) hx hb dL_act_199 (by decide) ?_
  refine lv_icmp_ne (tgt := 213) hx hb dL_act_201 (by decide) (fun _ => ?_) (fun c => absurd c (by decide))
  refine lv_iload_n hx hb dL_act_213 rfl (lv_at hl 1 rfl) ?_
  refine lv_bipush (v := nI 14) hx hb dL_act_214 (by decide) ?_
  refine lv_icmp_ne (tgt := 232) hx hb dL_act_216 (by decide) (fun _ => ?_) (fun c => absurd c (by decide))
  refine lv_iload_n hx hb dL_act_232 rfl (lv_at hl 1 rfl) ?_
  refine lv_bipush (v := nI 15) hx hb dL_act_233 (by decide) ?_
  refine lv_icmp_ne (tgt := 251) hx hb dL_act_235 (by decide) (fun c => absurd c (by decide)) (fun _ => ?_)
  refine lv_aload_n hx hb dL_act_238 rfl (lv_at hl 0 rfl) ?_
  refine lv_iload_n hx hb dL_act_239 rfl (lv_at hl 2 rfl) ?_
  refine lv_iload_n hx hb dL_act_240 rfl (lv_at hl 3 rfl) ?_
  refine lv_iload hx hb dL_act_241 (lv_at hl 4 rfl) ?_
  refine lv_iload hx hb dL_act_243 (lv_at hl 5 rfl) ?_
  refine vx_calli (vx_runV (As := [.int p9, .int f9, .int v9, .int w9]) (rest := []) FX (k_X11_changesAnew l hfl G a ha t9 st p9 f9 v9 w9 hO) (cwV 4 hts gL_act_X11_changesAnew rfl rfl rfl (by decide +kernel) ⟨Nat.le_of_ble_eq_true rfl, Nat.le_of_ble_eq_true rfl⟩) (preVX hK hNW hCW (hLow.at hS (fun q9 _ q => rng_M q9 q)) (hX.at hS (fun q9 _ q => rng_M q9 q)) (cw_recv hK hCW)) rfl rfl hl.1 rfl (lv_room (Nat.le_of_ble_eq_true rfl)) dL_act_245 ⟨Nat.le_of_ble_eq_true rfl, Nat.le_of_ble_eq_true rfl⟩) hS (fun q _ h => h) (fun q h => h) (fun q _ h => h) (fun E ce q9 u t H locs ht hal _ hBX hsz hk hS hce hcv hcl => ?_) (fun r u t H locs ht hal hp hB hsz hk hS => ?_)
  · skip
    have hCW : CW G a st H := by rw [← ht]; exact hBX.2
    rcases hBX.1 with ⟨rfl, h⟩ | ⟨rfl, h⟩ | ⟨rfl, h⟩
    · skip
      refine vx_catch hown [] ⟨0, 306, 307, 73⟩ [⟨0, 306, 312, 76⟩, ⟨0, 306, 317, 79⟩] htab (fun z hz => absurd hz List.not_mem_nil) (by decide) (show 73 ≠ 0 by decide) (hts (.classLink RL 73 "java/lang/IndexOutOfBoundsException") (List.mem_of_getElem? (i := 1) (by decide +kernel))) (va_Nw.use rfl hX.2.1.2.1) hce hcv hcl ?_
      refine lv_astore (lv' := [(6, .ref q9), (0, .ref (a 0)), (1, .int (nI 15)), (2, .int p9), (3, .int f9), (4, .int v9), (5, .int w9)]) hx hb dL_act_307 hl (by decide) rfl (fun ls hl => ?_)
      refine lv_ldc (v := -7000001) hx hb hown (hts (.constant RL 75 (-7000001)) (List.mem_of_getElem? (i := 4) (by decide +kernel))) dL_act_309 ?_
      refine retw (Nat.le_of_ble_eq_true rfl) (Nat.le_of_ble_eq_true rfl) ?_
      exact en_wi () hx hb hr hlocks hS (AR.x1 h) hCW dL_act_311
    · skip
      refine vx_catch hown [⟨0, 306, 307, 73⟩] ⟨0, 306, 312, 76⟩ [⟨0, 306, 317, 79⟩] htab (List.forall_mem_cons.mpr ⟨Or.inr ⟨(show 73 ≠ 0 by decide), _, (hts (.classLink RL 73 "java/lang/IndexOutOfBoundsException") (List.mem_of_getElem? (i := 1) (by decide +kernel))), hNC.1⟩, (fun z hz => absurd hz List.not_mem_nil)⟩) (by decide) (show 76 ≠ 0 by decide) (hts (.classLink RL 76 "java/lang/IllegalArgumentException") (List.mem_of_getElem? (i := 2) (by decide +kernel))) (va_Nw.use rfl hX.2.1.2.2.1) hce hcv hcl ?_
      refine lv_astore (lv' := [(6, .ref q9), (0, .ref (a 0)), (1, .int (nI 15)), (2, .int p9), (3, .int f9), (4, .int v9), (5, .int w9)]) hx hb dL_act_312 hl (by decide) rfl (fun ls hl => ?_)
      refine lv_ldc (v := -7000002) hx hb hown (hts (.constant RL 78 (-7000002)) (List.mem_of_getElem? (i := 5) (by decide +kernel))) dL_act_314 ?_
      refine retw (Nat.le_of_ble_eq_true rfl) (Nat.le_of_ble_eq_true rfl) ?_
      exact en_wi () hx hb hr hlocks hS (AR.x2 h) hCW dL_act_316
    · skip
      refine vx_catch hown [⟨0, 306, 307, 73⟩, ⟨0, 306, 312, 76⟩] ⟨0, 306, 317, 79⟩ [] htab (List.forall_mem_cons.mpr ⟨Or.inr ⟨(show 73 ≠ 0 by decide), _, (hts (.classLink RL 73 "java/lang/IndexOutOfBoundsException") (List.mem_of_getElem? (i := 1) (by decide +kernel))), hNC.2.1⟩, (List.forall_mem_cons.mpr ⟨Or.inr ⟨(show 76 ≠ 0 by decide), _, (hts (.classLink RL 76 "java/lang/IllegalArgumentException") (List.mem_of_getElem? (i := 2) (by decide +kernel))), hNC.2.2⟩, (fun z hz => absurd hz List.not_mem_nil)⟩)⟩) (by decide) (show 79 ≠ 0 by decide) (hts (.classLink RL 79 "java/lang/IllegalStateException") (List.mem_of_getElem? (i := 3) (by decide +kernel))) (va_Nw.use rfl hX.2.1.2.2.2) hce hcv hcl ?_
      refine lv_astore (lv' := [(6, .ref q9), (0, .ref (a 0)), (1, .int (nI 15)), (2, .int p9), (3, .int f9), (4, .int v9), (5, .int w9)]) hx hb dL_act_317 hl (by decide) rfl (fun ls hl => ?_)
      refine lv_ldc (v := -7000003) hx hb hown (hts (.constant RL 81 (-7000003)) (List.mem_of_getElem? (i := 6) (by decide +kernel))) dL_act_319 ?_
      refine retw (Nat.le_of_ble_eq_true rfl) (Nat.le_of_ble_eq_true rfl) ?_
      exact en_wi () hx hb hr hlocks hS (AR.x3 h) hCW dL_act_321
  · skip
    have hCW : CW G a st H := by rw [← ht]; exact hB
    refine lv_goto (tgt := 306) hx hb dL_act_248 (by decide) ?_
    refine retw (Nat.le_of_ble_eq_true rfl) (Nat.le_of_ble_eq_true rfl) ?_
    exact en_wi () hx hb hr hlocks hS (AR.x0 hp.1 hp.2) hCW dL_act_306
set_option maxHeartbeats 4000000 in
set_option maxRecDepth 100000 in
theorem w_act_off (l : Launch) (hfl : l.stackTraces = false) (G : GG) (a : Nat → Nat) (ha : Inj a) (t9 : Nat) (st : ST) (p9 op9 w9 u09 : Int32) (hO : OKS st) : vx_Met l yL_act wsL_act ({ frames := 8, cells := 4, slots := 24, locals := 147 } : Room) (PcW G a t9 [.ref (a 0), .int (nI 16), .int p9, .int op9, .int w9, .int u09] (fun H => CW G a st H)) (QI (fun (r : Int32) (_ : Unit) => AR (cOff st.1 p9 op9 w9) r (r = offV (st.1 (ix p9)) (ix op9) (ix w9))) (fun _ H => CW G a st H) (rng a 0 93)) (fun _ _ _ => False) 4 24 (rng a 0 93) := by
  refine vx_ofWH (cc := cL_act) (maxL := 7) (ret := some .int) (hh := [(0, 306, 307, 73), (0, 306, 312, 76), (0, 306, 317, 79)]) (by decide) rfl ?_
  intro p e s m args below meth c s₁ B hml hv
  obtain ⟨⟨⟨⟨rfl, hCW, hK, hNW⟩, hLow⟩, hX⟩, hNC⟩ := hv
  have hx := B.exec
  have hb := B.bytes
  have hr := B.returns
  have hts := atoms_spec (ws := wsL_act) B.pre
  have hown : s.vm.findClass RL = some m.cls := findClass_of_methodNamed B.named
  have hlocks := B.notSynchronized
  have htab : c.exceptionTable.toList = tableOf [(0, 306, 307, 73), (0, 306, 312, 76), (0, 306, 317, 79)] := vx_table (x := yL_act) B (hts _ List.mem_cons_self)
  have FX : CallFix p m c cL_act 7 s ([.ref (a 0), .int (nI 16), .int p9, .int op9, .int w9, .int u09] : List Value).toArray wsL_act RL := ⟨hx, hb, hml, hown, hts⟩
  have hl := lv_entry ([.ref (a 0), .int (nI 16), .int p9, .int op9, .int w9, .int u09]) (n := 7) (Nat.le_of_ble_eq_true rfl)
  rw [lg_entry_eq]
  generalize (lg_sl ([.ref (a 0), .int (nI 16), .int p9, .int op9, .int w9, .int u09]) ++ List.replicate (7 - (lg_sl ([.ref (a 0), .int (nI 16), .int p9, .int op9, .int w9, .int u09])).length) Slot.unset).toArray = ls at hl ⊢
  have hl : lv_has ls 7 [(0, .ref (a 0)), (1, .int (nI 16)), (2, .int p9), (3, .int op9), (4, .int w9), (5, .int u09)] := hl
  have hS : va_S (rng a 0 93) s.heap s.heap [] := va_S.rf
  refine lv_iload_n hx hb dL_act_0 rfl (lv_at hl 1 rfl) ?_
  refine lv_if_ne (tgt := 12) hx hb dL_act_1 (by decide) (fun _ => ?_) (fun c => absurd c (by decide))
  refine lv_iload_n hx hb dL_act_12 rfl (lv_at hl 1 rfl) ?_
  refine lv_iconst (v := nI 1) hx hb dL_act_13 (by decide) ?_
  refine lv_icmp_ne (tgt := 30) hx hb dL_act_14 (by decide) (fun _ => ?_) (fun c => absurd c (by decide))
  refine lv_iload_n hx hb dL_act_30 rfl (lv_at hl 1 rfl) ?_
  refine lv_iconst (v := nI 2) hx hb dL_act_31 (by decide) ?_
  refine lv_icmp_ne (tgt := 44) hx hb dL_act_32 (by decide) (fun _ => ?_) (fun c => absurd c (by decide))
  refine lv_iload_n hx hb dL_act_44 rfl (lv_at hl 1 rfl) ?_
  refine lv_iconst (v := nI 3) hx hb dL_act_45 (by decide) ?_
  refine lv_icmp_ne (tgt := 60) hx hb dL_act_46 (by decide) (fun _ => ?_) (fun c => absurd c (by decide))
  refine lv_iload_n hx hb dL_act_60 rfl (lv_at hl 1 rfl) ?_
  refine lv_iconst (v := nI 4) hx hb dL_act_61 (by decide) ?_
  refine lv_icmp_ne (tgt := 74) hx hb dL_act_62 (by decide) (fun _ => ?_) (fun c => absurd c (by decide))
  refine lv_iload_n hx hb dL_act_74 rfl (lv_at hl 1 rfl) ?_
  refine lv_iconst (v := nI 5) hx hb dL_act_75 (by decide) ?_
  refine lv_icmp_ne (tgt := 87) hx hb dL_act_76 (by decide) (fun _ => ?_) (fun c => absurd c (by decide))
  refine lv_iload_n hx hb dL_act_87 rfl (lv_at hl 1 rfl) ?_
  refine lv_bipush (v := nI 6) hx hb dL_act_88 (by decide) ?_
  refine lv_icmp_ne (tgt := 104) hx hb dL_act_90 (by decide) (fun _ => ?_) (fun c => absurd c (by decide))
  refine lv_iload_n hx hb dL_act_104 rfl (lv_at hl 1 rfl) ?_
  refine lv_bipush (v := nI 7) hx hb dL_act_105 (by decide) ?_
  refine lv_icmp_ne (tgt := 121) hx hb dL_act_107 (by decide) (fun _ => ?_) (fun c => absurd c (by decide))
  refine lv_iload_n hx hb dL_act_121 rfl (lv_at hl 1 rfl) ?_
  refine lv_bipush (v := nI 8) hx hb dL_act_122 (by decide) ?_
  refine lv_icmp_ne (tgt := 138) hx hb dL_act_124 (by decide) (fun _ => ?_) (fun c => absurd c (by decide))
  refine lv_iload_n hx hb dL_act_138 rfl (lv_at hl 1 rfl) ?_
  refine lv_bipush (v := nI 9) hx hb dL_act_139 (by decide) ?_
  refine lv_icmp_ne (tgt := 153) hx hb dL_act_141 (by decide) (fun _ => ?_) (fun c => absurd c (by decide))
  refine lv_iload_n hx hb dL_act_153 rfl (lv_at hl 1 rfl) ?_
  refine lv_bipush (v := nI 10) hx hb dL_act_154 (by decide) ?_
  refine lv_icmp_ne (tgt := 168) hx hb dL_act_156 (by decide) (fun _ => ?_) (fun c => absurd c (by decide))
  refine lv_iload_n hx hb dL_act_168 rfl (lv_at hl 1 rfl) ?_
  refine lv_bipush (v := nI 11) hx hb dL_act_169 (by decide) ?_
  refine lv_icmp_ne (tgt := 183) hx hb dL_act_171 (by decide) (fun _ => ?_) (fun c => absurd c (by decide))
  refine lv_iload_n hx hb dL_act_183 rfl (lv_at hl 1 rfl) ?_
  refine lv_bipush (v := nI 12) hx hb dL_act_184 (by decide) ?_
  refine lv_icmp_ne (tgt := 198) hx hb dL_act_186 (by decide) (fun _ => ?_) (fun c => absurd c (by decide))
  refine lv_iload_n hx hb dL_act_198 rfl (lv_at hl 1 rfl) ?_
  refine lv_bipush (v := nI 13) hx hb dL_act_199 (by decide) ?_
  refine lv_icmp_ne (tgt := 213) hx hb dL_act_201 (by decide) (fun _ => ?_) (fun c => absurd c (by decide))
  refine lv_iload_n hx hb dL_act_213 rfl (lv_at hl 1 rfl) ?_
  refine lv_bipush (v := nI 14) hx hb dL_act_214 (by decide) ?_
  refine lv_icmp_ne (tgt := 232) hx hb dL_act_216 (by decide) (fun _ => ?_) (fun c => absurd c (by decide))
  refine lv_iload_n hx hb dL_act_232 rfl (lv_at hl 1 rfl) ?_
  refine lv_bipush (v := nI 15) hx hb dL_act_233 (by decide) ?_
  refine lv_icmp_ne (tgt := 251) hx hb dL_act_235 (by decide) (fun _ => ?_) (fun c => absurd c (by decide))
  refine lv_iload_n hx hb dL_act_251 rfl (lv_at hl 1 rfl) ?_
  refine lv_bipush (v := nI 16) hx hb dL_act_252 (by decide) ?_
  refine lv_icmp_ne (tgt := 268) hx hb dL_act_254 (by decide) (fun c => absurd c (by decide)) (fun _ => ?_)
  refine lv_aload_n hx hb dL_act_257 rfl (lv_at hl 0 rfl) ?_
  refine lv_iload_n hx hb dL_act_258 rfl (lv_at hl 2 rfl) ?_
  refine lv_iload_n hx hb dL_act_259 rfl (lv_at hl 3 rfl) ?_
  refine lv_iload hx hb dL_act_260 (lv_at hl 4 rfl) ?_
  refine vx_calli (vx_runV (As := [.int p9, .int op9, .int w9]) (rest := []) FX (k_X11_off l hfl G a ha t9 st p9 op9 w9 hO) (cwV 3 hts gL_act_X11_off rfl rfl rfl (by decide +kernel) ⟨Nat.le_of_ble_eq_true rfl, Nat.le_of_ble_eq_true rfl⟩) (preVX hK hNW hCW (hLow.at hS (fun q9 _ q => rng_M q9 q)) (hX.at hS (fun q9 _ q => rng_M q9 q)) (cw_recv hK hCW)) rfl rfl hl.1 rfl (lv_room (Nat.le_of_ble_eq_true rfl)) dL_act_262 ⟨Nat.le_of_ble_eq_true rfl, Nat.le_of_ble_eq_true rfl⟩) hS (fun q _ h => h) (fun q h => h) (fun q _ h => h) (fun E ce q9 u t H locs ht hal _ hBX hsz hk hS hce hcv hcl => ?_) (fun r u t H locs ht hal hp hB hsz hk hS => ?_)
  · skip
    have hCW : CW G a st H := by rw [← ht]; exact hBX.2
    rcases hBX.1 with ⟨rfl, h⟩ | ⟨rfl, h⟩ | ⟨rfl, h⟩
    · skip
      refine vx_catch hown [] ⟨0, 306, 307, 73⟩ [⟨0, 306, 312, 76⟩, ⟨0, 306, 317, 79⟩] htab (fun z hz => absurd hz List.not_mem_nil) (by decide) (show 73 ≠ 0 by decide) (hts (.classLink RL 73 "java/lang/IndexOutOfBoundsException") (List.mem_of_getElem? (i := 1) (by decide +kernel))) (va_Nw.use rfl hX.2.1.2.1) hce hcv hcl ?_
      refine lv_astore (lv' := [(6, .ref q9), (0, .ref (a 0)), (1, .int (nI 16)), (2, .int p9), (3, .int op9), (4, .int w9), (5, .int u09)]) hx hb dL_act_307 hl (by decide) rfl (fun ls hl => ?_)
      refine lv_ldc (v := -7000001) hx hb hown (hts (.constant RL 75 (-7000001)) (List.mem_of_getElem? (i := 4) (by decide +kernel))) dL_act_309 ?_
      refine retw (Nat.le_of_ble_eq_true rfl) (Nat.le_of_ble_eq_true rfl) ?_
      exact en_wi () hx hb hr hlocks hS (AR.x1 h) hCW dL_act_311
    · skip
      refine vx_catch hown [⟨0, 306, 307, 73⟩] ⟨0, 306, 312, 76⟩ [⟨0, 306, 317, 79⟩] htab (List.forall_mem_cons.mpr ⟨Or.inr ⟨(show 73 ≠ 0 by decide), _, (hts (.classLink RL 73 "java/lang/IndexOutOfBoundsException") (List.mem_of_getElem? (i := 1) (by decide +kernel))), hNC.1⟩, (fun z hz => absurd hz List.not_mem_nil)⟩) (by decide) (show 76 ≠ 0 by decide) (hts (.classLink RL 76 "java/lang/IllegalArgumentException") (List.mem_of_getElem? (i := 2) (by decide +kernel))) (va_Nw.use rfl hX.2.1.2.2.1) hce hcv hcl ?_
      refine lv_astore (lv' := [(6, .ref q9), (0, .ref (a 0)), (1, .int (nI 16)), (2, .int p9), (3, .int op9), (4, .int w9), (5, .int u09)]) hx hb dL_act_312 hl (by decide) rfl (fun ls hl => ?_)
      refine lv_ldc (v := -7000002) hx hb hown (hts (.constant RL 78 (-7000002)) (List.mem_of_getElem? (i := 5) (by decide +kernel))) dL_act_314 ?_
      refine retw (Nat.le_of_ble_eq_true rfl) (Nat.le_of_ble_eq_true rfl) ?_
      exact en_wi () hx hb hr hlocks hS (AR.x2 h) hCW dL_act_316
    · skip
      refine vx_catch hown [⟨0, 306, 307, 73⟩, ⟨0, 306, 312, 76⟩] ⟨0, 306, 317, 79⟩ [] htab (List.forall_mem_cons.mpr ⟨Or.inr ⟨(show 73 ≠ 0 by decide), _, (hts (.classLink RL 73 "java/lang/IndexOutOfBoundsException") (List.mem_of_getElem? (i := 1) (by decide +kernel))), hNC.2.1⟩, (List.forall_mem_cons.mpr ⟨Or.inr ⟨(show 76 ≠ 0 by decide), _, (hts (.classLink RL 76 "java/lang/IllegalArgumentException") (List.mem_of_getElem? (i := 2) (by decide +kernel))), hNC.2.2⟩, (fun z hz => absurd hz List.not_mem_nil)⟩)⟩) (by decide) (show 79 ≠ 0 by decide) (hts (.classLink RL 79 "java/lang/IllegalStateException") (List.mem_of_getElem? (i := 3) (by decide +kernel))) (va_Nw.use rfl hX.2.1.2.2.2) hce hcv hcl ?_
      refine lv_astore (lv' := [(6, .ref q9), (0, .ref (a 0)), (1, .int (nI 16)), (2, .int p9), (3, .int op9), (4, .int w9), (5, .int u09)]) hx hb dL_act_317 hl (by decide) rfl (fun ls hl => ?_)
      refine lv_ldc (v := -7000003) hx hb hown (hts (.constant RL 81 (-7000003)) (List.mem_of_getElem? (i := 6) (by decide +kernel))) dL_act_319 ?_
      refine retw (Nat.le_of_ble_eq_true rfl) (Nat.le_of_ble_eq_true rfl) ?_
      exact en_wi () hx hb hr hlocks hS (AR.x3 h) hCW dL_act_321
  · skip
    have hCW : CW G a st H := by rw [← ht]; exact hB
    refine lv_goto (tgt := 306) hx hb dL_act_265 (by decide) ?_
    refine retw (Nat.le_of_ble_eq_true rfl) (Nat.le_of_ble_eq_true rfl) ?_
    exact en_wi () hx hb hr hlocks hS (AR.x0 hp.1 hp.2) hCW dL_act_306
set_option maxHeartbeats 4000000 in
set_option maxRecDepth 100000 in
theorem w_act_unseen (l : Launch) (hfl : l.stackTraces = false) (G : GG) (a : Nat → Nat) (ha : Inj a) (t9 : Nat) (st : ST) (p9 op9 w9 u09 : Int32) (hO : OKS st) : vx_Met l yL_act wsL_act ({ frames := 8, cells := 4, slots := 24, locals := 147 } : Room) (PcW G a t9 [.ref (a 0), .int (nI 17), .int p9, .int op9, .int w9, .int u09] (fun H => CW G a st H)) (QI (fun (r : Int32) (_ : Unit) => AR (cUns st.1 p9 op9 w9) r (r = AU (st.1 (ix p9)) (ix op9) (ix w9) (2 ^ nIn (st.1 (ix p9))))) (fun _ H => CW G a st H) (rng a 0 93)) (fun _ _ _ => False) 4 24 (rng a 0 93) := by
  refine vx_ofWH (cc := cL_act) (maxL := 7) (ret := some .int) (hh := [(0, 306, 307, 73), (0, 306, 312, 76), (0, 306, 317, 79)]) (by decide) rfl ?_
  intro p e s m args below meth c s₁ B hml hv
  obtain ⟨⟨⟨⟨rfl, hCW, hK, hNW⟩, hLow⟩, hX⟩, hNC⟩ := hv
  have hx := B.exec
  have hb := B.bytes
  have hr := B.returns
  have hts := atoms_spec (ws := wsL_act) B.pre
  have hown : s.vm.findClass RL = some m.cls := findClass_of_methodNamed B.named
  have hlocks := B.notSynchronized
  have htab : c.exceptionTable.toList = tableOf [(0, 306, 307, 73), (0, 306, 312, 76), (0, 306, 317, 79)] := vx_table (x := yL_act) B (hts _ List.mem_cons_self)
  have FX : CallFix p m c cL_act 7 s ([.ref (a 0), .int (nI 17), .int p9, .int op9, .int w9, .int u09] : List Value).toArray wsL_act RL := ⟨hx, hb, hml, hown, hts⟩
  have hl := lv_entry ([.ref (a 0), .int (nI 17), .int p9, .int op9, .int w9, .int u09]) (n := 7) (Nat.le_of_ble_eq_true rfl)
  rw [lg_entry_eq]
  generalize (lg_sl ([.ref (a 0), .int (nI 17), .int p9, .int op9, .int w9, .int u09]) ++ List.replicate (7 - (lg_sl ([.ref (a 0), .int (nI 17), .int p9, .int op9, .int w9, .int u09])).length) Slot.unset).toArray = ls at hl ⊢
  have hl : lv_has ls 7 [(0, .ref (a 0)), (1, .int (nI 17)), (2, .int p9), (3, .int op9), (4, .int w9), (5, .int u09)] := hl
  have hS : va_S (rng a 0 93) s.heap s.heap [] := va_S.rf
  refine lv_iload_n hx hb dL_act_0 rfl (lv_at hl 1 rfl) ?_
  refine lv_if_ne (tgt := 12) hx hb dL_act_1 (by decide) (fun _ => ?_) (fun c => absurd c (by decide))
  refine lv_iload_n hx hb dL_act_12 rfl (lv_at hl 1 rfl) ?_
  refine lv_iconst (v := nI 1) hx hb dL_act_13 (by decide) ?_
  refine lv_icmp_ne (tgt := 30) hx hb dL_act_14 (by decide) (fun _ => ?_) (fun c => absurd c (by decide))
  refine lv_iload_n hx hb dL_act_30 rfl (lv_at hl 1 rfl) ?_
  refine lv_iconst (v := nI 2) hx hb dL_act_31 (by decide) ?_
  refine lv_icmp_ne (tgt := 44) hx hb dL_act_32 (by decide) (fun _ => ?_) (fun c => absurd c (by decide))
  refine lv_iload_n hx hb dL_act_44 rfl (lv_at hl 1 rfl) ?_
  refine lv_iconst (v := nI 3) hx hb dL_act_45 (by decide) ?_
  refine lv_icmp_ne (tgt := 60) hx hb dL_act_46 (by decide) (fun _ => ?_) (fun c => absurd c (by decide))
  refine lv_iload_n hx hb dL_act_60 rfl (lv_at hl 1 rfl) ?_
  refine lv_iconst (v := nI 4) hx hb dL_act_61 (by decide) ?_
  refine lv_icmp_ne (tgt := 74) hx hb dL_act_62 (by decide) (fun _ => ?_) (fun c => absurd c (by decide))
  refine lv_iload_n hx hb dL_act_74 rfl (lv_at hl 1 rfl) ?_
  refine lv_iconst (v := nI 5) hx hb dL_act_75 (by decide) ?_
  refine lv_icmp_ne (tgt := 87) hx hb dL_act_76 (by decide) (fun _ => ?_) (fun c => absurd c (by decide))
  refine lv_iload_n hx hb dL_act_87 rfl (lv_at hl 1 rfl) ?_
  refine lv_bipush (v := nI 6) hx hb dL_act_88 (by decide) ?_
  refine lv_icmp_ne (tgt := 104) hx hb dL_act_90 (by decide) (fun _ => ?_) (fun c => absurd c (by decide))
  refine lv_iload_n hx hb dL_act_104 rfl (lv_at hl 1 rfl) ?_
  refine lv_bipush (v := nI 7) hx hb dL_act_105 (by decide) ?_
  refine lv_icmp_ne (tgt := 121) hx hb dL_act_107 (by decide) (fun _ => ?_) (fun c => absurd c (by decide))
  refine lv_iload_n hx hb dL_act_121 rfl (lv_at hl 1 rfl) ?_
  refine lv_bipush (v := nI 8) hx hb dL_act_122 (by decide) ?_
  refine lv_icmp_ne (tgt := 138) hx hb dL_act_124 (by decide) (fun _ => ?_) (fun c => absurd c (by decide))
  refine lv_iload_n hx hb dL_act_138 rfl (lv_at hl 1 rfl) ?_
  refine lv_bipush (v := nI 9) hx hb dL_act_139 (by decide) ?_
  refine lv_icmp_ne (tgt := 153) hx hb dL_act_141 (by decide) (fun _ => ?_) (fun c => absurd c (by decide))
  refine lv_iload_n hx hb dL_act_153 rfl (lv_at hl 1 rfl) ?_
  refine lv_bipush (v := nI 10) hx hb dL_act_154 (by decide) ?_
  refine lv_icmp_ne (tgt := 168) hx hb dL_act_156 (by decide) (fun _ => ?_) (fun c => absurd c (by decide))
  refine lv_iload_n hx hb dL_act_168 rfl (lv_at hl 1 rfl) ?_
  refine lv_bipush (v := nI 11) hx hb dL_act_169 (by decide) ?_
  refine lv_icmp_ne (tgt := 183) hx hb dL_act_171 (by decide) (fun _ => ?_) (fun c => absurd c (by decide))
  refine lv_iload_n hx hb dL_act_183 rfl (lv_at hl 1 rfl) ?_
  refine lv_bipush (v := nI 12) hx hb dL_act_184 (by decide) ?_
  refine lv_icmp_ne (tgt := 198) hx hb dL_act_186 (by decide) (fun _ => ?_) (fun c => absurd c (by decide))
  refine lv_iload_n hx hb dL_act_198 rfl (lv_at hl 1 rfl) ?_
  refine lv_bipush (v := nI 13) hx hb dL_act_199 (by decide) ?_
  refine lv_icmp_ne (tgt := 213) hx hb dL_act_201 (by decide) (fun _ => ?_) (fun c => absurd c (by decide))
  refine lv_iload_n hx hb dL_act_213 rfl (lv_at hl 1 rfl) ?_
  refine lv_bipush (v := nI 14) hx hb dL_act_214 (by decide) ?_
  refine lv_icmp_ne (tgt := 232) hx hb dL_act_216 (by decide) (fun _ => ?_) (fun c => absurd c (by decide))
  refine lv_iload_n hx hb dL_act_232 rfl (lv_at hl 1 rfl) ?_
  refine lv_bipush (v := nI 15) hx hb dL_act_233 (by decide) ?_
  refine lv_icmp_ne (tgt := 251) hx hb dL_act_235 (by decide) (fun _ => ?_) (fun c => absurd c (by decide))
  refine lv_iload_n hx hb dL_act_251 rfl (lv_at hl 1 rfl) ?_
  refine lv_bipush (v := nI 16) hx hb dL_act_252 (by decide) ?_
  refine lv_icmp_ne (tgt := 268) hx hb dL_act_254 (by decide) (fun _ => ?_) (fun c => absurd c (by decide))
  refine lv_iload_n hx hb dL_act_268 rfl (lv_at hl 1 rfl) ?_
  refine lv_bipush (v := nI 17) hx hb dL_act_269 (by decide) ?_
  refine lv_icmp_ne (tgt := 285) hx hb dL_act_271 (by decide) (fun c => absurd c (by decide)) (fun _ => ?_)
  refine lv_aload_n hx hb dL_act_274 rfl (lv_at hl 0 rfl) ?_
  refine lv_iload_n hx hb dL_act_275 rfl (lv_at hl 2 rfl) ?_
  refine lv_iload_n hx hb dL_act_276 rfl (lv_at hl 3 rfl) ?_
  refine lv_iload hx hb dL_act_277 (lv_at hl 4 rfl) ?_
  refine vx_calli (vx_runV (As := [.int p9, .int op9, .int w9]) (rest := []) FX (k_X11_unseen l hfl G a ha t9 st p9 op9 w9 hO) (cwV 3 hts gL_act_X11_unseen rfl rfl rfl (by decide +kernel) ⟨Nat.le_of_ble_eq_true rfl, Nat.le_of_ble_eq_true rfl⟩) (preVX hK hNW hCW (hLow.at hS (fun q9 _ q => rng_M q9 q)) (hX.at hS (fun q9 _ q => rng_M q9 q)) (cw_recv hK hCW)) rfl rfl hl.1 rfl (lv_room (Nat.le_of_ble_eq_true rfl)) dL_act_279 ⟨Nat.le_of_ble_eq_true rfl, Nat.le_of_ble_eq_true rfl⟩) hS (fun q _ h => h) (fun q h => h) (fun q _ h => h) (fun E ce q9 u t H locs ht hal _ hBX hsz hk hS hce hcv hcl => ?_) (fun r u t H locs ht hal hp hB hsz hk hS => ?_)
  · skip
    have hCW : CW G a st H := by rw [← ht]; exact hBX.2
    rcases hBX.1 with ⟨rfl, h⟩ | ⟨rfl, h⟩ | ⟨rfl, h⟩
    · skip
      refine vx_catch hown [] ⟨0, 306, 307, 73⟩ [⟨0, 306, 312, 76⟩, ⟨0, 306, 317, 79⟩] htab (fun z hz => absurd hz List.not_mem_nil) (by decide) (show 73 ≠ 0 by decide) (hts (.classLink RL 73 "java/lang/IndexOutOfBoundsException") (List.mem_of_getElem? (i := 1) (by decide +kernel))) (va_Nw.use rfl hX.2.1.2.1) hce hcv hcl ?_
      refine lv_astore (lv' := [(6, .ref q9), (0, .ref (a 0)), (1, .int (nI 17)), (2, .int p9), (3, .int op9), (4, .int w9), (5, .int u09)]) hx hb dL_act_307 hl (by decide) rfl (fun ls hl => ?_)
      refine lv_ldc (v := -7000001) hx hb hown (hts (.constant RL 75 (-7000001)) (List.mem_of_getElem? (i := 4) (by decide +kernel))) dL_act_309 ?_
      refine retw (Nat.le_of_ble_eq_true rfl) (Nat.le_of_ble_eq_true rfl) ?_
      exact en_wi () hx hb hr hlocks hS (AR.x1 h) hCW dL_act_311
    · skip
      refine vx_catch hown [⟨0, 306, 307, 73⟩] ⟨0, 306, 312, 76⟩ [⟨0, 306, 317, 79⟩] htab (List.forall_mem_cons.mpr ⟨Or.inr ⟨(show 73 ≠ 0 by decide), _, (hts (.classLink RL 73 "java/lang/IndexOutOfBoundsException") (List.mem_of_getElem? (i := 1) (by decide +kernel))), hNC.1⟩, (fun z hz => absurd hz List.not_mem_nil)⟩) (by decide) (show 76 ≠ 0 by decide) (hts (.classLink RL 76 "java/lang/IllegalArgumentException") (List.mem_of_getElem? (i := 2) (by decide +kernel))) (va_Nw.use rfl hX.2.1.2.2.1) hce hcv hcl ?_
      refine lv_astore (lv' := [(6, .ref q9), (0, .ref (a 0)), (1, .int (nI 17)), (2, .int p9), (3, .int op9), (4, .int w9), (5, .int u09)]) hx hb dL_act_312 hl (by decide) rfl (fun ls hl => ?_)
      refine lv_ldc (v := -7000002) hx hb hown (hts (.constant RL 78 (-7000002)) (List.mem_of_getElem? (i := 5) (by decide +kernel))) dL_act_314 ?_
      refine retw (Nat.le_of_ble_eq_true rfl) (Nat.le_of_ble_eq_true rfl) ?_
      exact en_wi () hx hb hr hlocks hS (AR.x2 h) hCW dL_act_316
    · skip
      refine vx_catch hown [⟨0, 306, 307, 73⟩, ⟨0, 306, 312, 76⟩] ⟨0, 306, 317, 79⟩ [] htab (List.forall_mem_cons.mpr ⟨Or.inr ⟨(show 73 ≠ 0 by decide), _, (hts (.classLink RL 73 "java/lang/IndexOutOfBoundsException") (List.mem_of_getElem? (i := 1) (by decide +kernel))), hNC.2.1⟩, (List.forall_mem_cons.mpr ⟨Or.inr ⟨(show 76 ≠ 0 by decide), _, (hts (.classLink RL 76 "java/lang/IllegalArgumentException") (List.mem_of_getElem? (i := 2) (by decide +kernel))), hNC.2.2⟩, (fun z hz => absurd hz List.not_mem_nil)⟩)⟩) (by decide) (show 79 ≠ 0 by decide) (hts (.classLink RL 79 "java/lang/IllegalStateException") (List.mem_of_getElem? (i := 3) (by decide +kernel))) (va_Nw.use rfl hX.2.1.2.2.2) hce hcv hcl ?_
      refine lv_astore (lv' := [(6, .ref q9), (0, .ref (a 0)), (1, .int (nI 17)), (2, .int p9), (3, .int op9), (4, .int w9), (5, .int u09)]) hx hb dL_act_317 hl (by decide) rfl (fun ls hl => ?_)
      refine lv_ldc (v := -7000003) hx hb hown (hts (.constant RL 81 (-7000003)) (List.mem_of_getElem? (i := 6) (by decide +kernel))) dL_act_319 ?_
      refine retw (Nat.le_of_ble_eq_true rfl) (Nat.le_of_ble_eq_true rfl) ?_
      exact en_wi () hx hb hr hlocks hS (AR.x3 h) hCW dL_act_321
  · skip
    have hCW : CW G a st H := by rw [← ht]; exact hB
    refine lv_goto (tgt := 306) hx hb dL_act_282 (by decide) ?_
    refine retw (Nat.le_of_ble_eq_true rfl) (Nat.le_of_ble_eq_true rfl) ?_
    exact en_wi () hx hb hr hlocks hS (AR.x0 hp.1 hp.2) hCW dL_act_306
set_option maxHeartbeats 4000000 in
set_option maxRecDepth 100000 in
theorem w_act_unlike (l : Launch) (hfl : l.stackTraces = false) (G : GG) (a : Nat → Nat) (ha : Inj a) (t9 : Nat) (st : ST) (p9 v9 u09 u19 : Int32) (hO : OKS st) : vx_Met l yL_act wsL_act ({ frames := 8, cells := 3, slots := 18, locals := 130 } : Room) (PcW G a t9 [.ref (a 0), .int (nI 18), .int p9, .int v9, .int u09, .int u19] (fun H => CW G a st H)) (QI (fun (r : Int32) (_ : Unit) => AR (cUn st.1 p9 v9) r (unS (st.1 (ix p9)) (st.1 (ix v9)) (2 ^ nIn (st.1 (ix p9))) r)) (fun _ H => CW G a st H) (rng a 0 93)) (fun _ _ _ => False) 3 18 (rng a 0 93) := by
  refine vx_ofWH (cc := cL_act) (maxL := 7) (ret := some .int) (hh := [(0, 306, 307, 73), (0, 306, 312, 76), (0, 306, 317, 79)]) (by decide) rfl ?_
  intro p e s m args below meth c s₁ B hml hv
  obtain ⟨⟨⟨⟨rfl, hCW, hK, hNW⟩, hLow⟩, hX⟩, hNC⟩ := hv
  have hx := B.exec
  have hb := B.bytes
  have hr := B.returns
  have hts := atoms_spec (ws := wsL_act) B.pre
  have hown : s.vm.findClass RL = some m.cls := findClass_of_methodNamed B.named
  have hlocks := B.notSynchronized
  have htab : c.exceptionTable.toList = tableOf [(0, 306, 307, 73), (0, 306, 312, 76), (0, 306, 317, 79)] := vx_table (x := yL_act) B (hts _ List.mem_cons_self)
  have FX : CallFix p m c cL_act 7 s ([.ref (a 0), .int (nI 18), .int p9, .int v9, .int u09, .int u19] : List Value).toArray wsL_act RL := ⟨hx, hb, hml, hown, hts⟩
  have hl := lv_entry ([.ref (a 0), .int (nI 18), .int p9, .int v9, .int u09, .int u19]) (n := 7) (Nat.le_of_ble_eq_true rfl)
  rw [lg_entry_eq]
  generalize (lg_sl ([.ref (a 0), .int (nI 18), .int p9, .int v9, .int u09, .int u19]) ++ List.replicate (7 - (lg_sl ([.ref (a 0), .int (nI 18), .int p9, .int v9, .int u09, .int u19])).length) Slot.unset).toArray = ls at hl ⊢
  have hl : lv_has ls 7 [(0, .ref (a 0)), (1, .int (nI 18)), (2, .int p9), (3, .int v9), (4, .int u09), (5, .int u19)] := hl
  have hS : va_S (rng a 0 93) s.heap s.heap [] := va_S.rf
  refine lv_iload_n hx hb dL_act_0 rfl (lv_at hl 1 rfl) ?_
  refine lv_if_ne (tgt := 12) hx hb dL_act_1 (by decide) (fun _ => ?_) (fun c => absurd c (by decide))
  refine lv_iload_n hx hb dL_act_12 rfl (lv_at hl 1 rfl) ?_
  refine lv_iconst (v := nI 1) hx hb dL_act_13 (by decide) ?_
  refine lv_icmp_ne (tgt := 30) hx hb dL_act_14 (by decide) (fun _ => ?_) (fun c => absurd c (by decide))
  refine lv_iload_n hx hb dL_act_30 rfl (lv_at hl 1 rfl) ?_
  refine lv_iconst (v := nI 2) hx hb dL_act_31 (by decide) ?_
  refine lv_icmp_ne (tgt := 44) hx hb dL_act_32 (by decide) (fun _ => ?_) (fun c => absurd c (by decide))
  refine lv_iload_n hx hb dL_act_44 rfl (lv_at hl 1 rfl) ?_
  refine lv_iconst (v := nI 3) hx hb dL_act_45 (by decide) ?_
  refine lv_icmp_ne (tgt := 60) hx hb dL_act_46 (by decide) (fun _ => ?_) (fun c => absurd c (by decide))
  refine lv_iload_n hx hb dL_act_60 rfl (lv_at hl 1 rfl) ?_
  refine lv_iconst (v := nI 4) hx hb dL_act_61 (by decide) ?_
  refine lv_icmp_ne (tgt := 74) hx hb dL_act_62 (by decide) (fun _ => ?_) (fun c => absurd c (by decide))
  refine lv_iload_n hx hb dL_act_74 rfl (lv_at hl 1 rfl) ?_
  refine lv_iconst (v := nI 5) hx hb dL_act_75 (by decide) ?_
  refine lv_icmp_ne (tgt := 87) hx hb dL_act_76 (by decide) (fun _ => ?_) (fun c => absurd c (by decide))
  refine lv_iload_n hx hb dL_act_87 rfl (lv_at hl 1 rfl) ?_
  refine lv_bipush (v := nI 6) hx hb dL_act_88 (by decide) ?_
  refine lv_icmp_ne (tgt := 104) hx hb dL_act_90 (by decide) (fun _ => ?_) (fun c => absurd c (by decide))
  refine lv_iload_n hx hb dL_act_104 rfl (lv_at hl 1 rfl) ?_
  refine lv_bipush (v := nI 7) hx hb dL_act_105 (by decide) ?_
  refine lv_icmp_ne (tgt := 121) hx hb dL_act_107 (by decide) (fun _ => ?_) (fun c => absurd c (by decide))
  refine lv_iload_n hx hb dL_act_121 rfl (lv_at hl 1 rfl) ?_
  refine lv_bipush (v := nI 8) hx hb dL_act_122 (by decide) ?_
  refine lv_icmp_ne (tgt := 138) hx hb dL_act_124 (by decide) (fun _ => ?_) (fun c => absurd c (by decide))
  refine lv_iload_n hx hb dL_act_138 rfl (lv_at hl 1 rfl) ?_
  refine lv_bipush (v := nI 9) hx hb dL_act_139 (by decide) ?_
  refine lv_icmp_ne (tgt := 153) hx hb dL_act_141 (by decide) (fun _ => ?_) (fun c => absurd c (by decide))
  refine lv_iload_n hx hb dL_act_153 rfl (lv_at hl 1 rfl) ?_
  refine lv_bipush (v := nI 10) hx hb dL_act_154 (by decide) ?_
  refine lv_icmp_ne (tgt := 168) hx hb dL_act_156 (by decide) (fun _ => ?_) (fun c => absurd c (by decide))
  refine lv_iload_n hx hb dL_act_168 rfl (lv_at hl 1 rfl) ?_
  refine lv_bipush (v := nI 11) hx hb dL_act_169 (by decide) ?_
  refine lv_icmp_ne (tgt := 183) hx hb dL_act_171 (by decide) (fun _ => ?_) (fun c => absurd c (by decide))
  refine lv_iload_n hx hb dL_act_183 rfl (lv_at hl 1 rfl) ?_
  refine lv_bipush (v := nI 12) hx hb dL_act_184 (by decide) ?_
  refine lv_icmp_ne (tgt := 198) hx hb dL_act_186 (by decide) (fun _ => ?_) (fun c => absurd c (by decide))
  refine lv_iload_n hx hb dL_act_198 rfl (lv_at hl 1 rfl) ?_
  refine lv_bipush (v := nI 13) hx hb dL_act_199 (by decide) ?_
  refine lv_icmp_ne (tgt := 213) hx hb dL_act_201 (by decide) (fun _ => ?_) (fun c => absurd c (by decide))
  refine lv_iload_n hx hb dL_act_213 rfl (lv_at hl 1 rfl) ?_
  refine lv_bipush (v := nI 14) hx hb dL_act_214 (by decide) ?_
  refine lv_icmp_ne (tgt := 232) hx hb dL_act_216 (by decide) (fun _ => ?_) (fun c => absurd c (by decide))
  refine lv_iload_n hx hb dL_act_232 rfl (lv_at hl 1 rfl) ?_
  refine lv_bipush (v := nI 15) hx hb dL_act_233 (by decide) ?_
  refine lv_icmp_ne (tgt := 251) hx hb dL_act_235 (by decide) (fun _ => ?_) (fun c => absurd c (by decide))
  refine lv_iload_n hx hb dL_act_251 rfl (lv_at hl 1 rfl) ?_
  refine lv_bipush (v := nI 16) hx hb dL_act_252 (by decide) ?_
  refine lv_icmp_ne (tgt := 268) hx hb dL_act_254 (by decide) (fun _ => ?_) (fun c => absurd c (by decide))
  refine lv_iload_n hx hb dL_act_268 rfl (lv_at hl 1 rfl) ?_
  refine lv_bipush (v := nI 17) hx hb dL_act_269 (by decide) ?_
  refine lv_icmp_ne (tgt := 285) hx hb dL_act_271 (by decide) (fun _ => ?_) (fun c => absurd c (by decide))
  refine lv_iload_n hx hb dL_act_285 rfl (lv_at hl 1 rfl) ?_
  refine lv_bipush (v := nI 18) hx hb dL_act_286 (by decide) ?_
  refine lv_icmp_ne (tgt := 300) hx hb dL_act_288 (by decide) (fun c => absurd c (by decide)) (fun _ => ?_)
  refine lv_aload_n hx hb dL_act_291 rfl (lv_at hl 0 rfl) ?_
  refine lv_iload_n hx hb dL_act_292 rfl (lv_at hl 2 rfl) ?_
  refine lv_iload_n hx hb dL_act_293 rfl (lv_at hl 3 rfl) ?_
  refine vx_calli (vx_runV (As := [.int p9, .int v9]) (rest := []) FX (k_X11_unlike l hfl G a ha t9 st p9 v9 hO) (cwV 2 hts gL_act_X11_unlike rfl rfl rfl (by decide +kernel) ⟨Nat.le_of_ble_eq_true rfl, Nat.le_of_ble_eq_true rfl⟩) (preVX hK hNW hCW (hLow.at hS (fun q9 _ q => rng_M q9 q)) (hX.at hS (fun q9 _ q => rng_M q9 q)) (cw_recv hK hCW)) rfl rfl hl.1 rfl (lv_room (Nat.le_of_ble_eq_true rfl)) dL_act_294 ⟨Nat.le_of_ble_eq_true rfl, Nat.le_of_ble_eq_true rfl⟩) hS (fun q _ h => h) (fun q h => h) (fun q _ h => h) (fun E ce q9 u t H locs ht hal _ hBX hsz hk hS hce hcv hcl => ?_) (fun r u t H locs ht hal hp hB hsz hk hS => ?_)
  · skip
    have hCW : CW G a st H := by rw [← ht]; exact hBX.2
    rcases hBX.1 with ⟨rfl, h⟩ | ⟨rfl, h⟩ | ⟨rfl, h⟩
    · skip
      refine vx_catch hown [] ⟨0, 306, 307, 73⟩ [⟨0, 306, 312, 76⟩, ⟨0, 306, 317, 79⟩] htab (fun z hz => absurd hz List.not_mem_nil) (by decide) (show 73 ≠ 0 by decide) (hts (.classLink RL 73 "java/lang/IndexOutOfBoundsException") (List.mem_of_getElem? (i := 1) (by decide +kernel))) (va_Nw.use rfl hX.2.1.2.1) hce hcv hcl ?_
      refine lv_astore (lv' := [(6, .ref q9), (0, .ref (a 0)), (1, .int (nI 18)), (2, .int p9), (3, .int v9), (4, .int u09), (5, .int u19)]) hx hb dL_act_307 hl (by decide) rfl (fun ls hl => ?_)
      refine lv_ldc (v := -7000001) hx hb hown (hts (.constant RL 75 (-7000001)) (List.mem_of_getElem? (i := 4) (by decide +kernel))) dL_act_309 ?_
      refine retw (Nat.le_of_ble_eq_true rfl) (Nat.le_of_ble_eq_true rfl) ?_
      exact en_wi () hx hb hr hlocks hS (AR.x1 h) hCW dL_act_311
    · skip
      refine vx_catch hown [⟨0, 306, 307, 73⟩] ⟨0, 306, 312, 76⟩ [⟨0, 306, 317, 79⟩] htab (List.forall_mem_cons.mpr ⟨Or.inr ⟨(show 73 ≠ 0 by decide), _, (hts (.classLink RL 73 "java/lang/IndexOutOfBoundsException") (List.mem_of_getElem? (i := 1) (by decide +kernel))), hNC.1⟩, (fun z hz => absurd hz List.not_mem_nil)⟩) (by decide) (show 76 ≠ 0 by decide) (hts (.classLink RL 76 "java/lang/IllegalArgumentException") (List.mem_of_getElem? (i := 2) (by decide +kernel))) (va_Nw.use rfl hX.2.1.2.2.1) hce hcv hcl ?_
      refine lv_astore (lv' := [(6, .ref q9), (0, .ref (a 0)), (1, .int (nI 18)), (2, .int p9), (3, .int v9), (4, .int u09), (5, .int u19)]) hx hb dL_act_312 hl (by decide) rfl (fun ls hl => ?_)
      refine lv_ldc (v := -7000002) hx hb hown (hts (.constant RL 78 (-7000002)) (List.mem_of_getElem? (i := 5) (by decide +kernel))) dL_act_314 ?_
      refine retw (Nat.le_of_ble_eq_true rfl) (Nat.le_of_ble_eq_true rfl) ?_
      exact en_wi () hx hb hr hlocks hS (AR.x2 h) hCW dL_act_316
    · skip
      refine vx_catch hown [⟨0, 306, 307, 73⟩, ⟨0, 306, 312, 76⟩] ⟨0, 306, 317, 79⟩ [] htab (List.forall_mem_cons.mpr ⟨Or.inr ⟨(show 73 ≠ 0 by decide), _, (hts (.classLink RL 73 "java/lang/IndexOutOfBoundsException") (List.mem_of_getElem? (i := 1) (by decide +kernel))), hNC.2.1⟩, (List.forall_mem_cons.mpr ⟨Or.inr ⟨(show 76 ≠ 0 by decide), _, (hts (.classLink RL 76 "java/lang/IllegalArgumentException") (List.mem_of_getElem? (i := 2) (by decide +kernel))), hNC.2.2⟩, (fun z hz => absurd hz List.not_mem_nil)⟩)⟩) (by decide) (show 79 ≠ 0 by decide) (hts (.classLink RL 79 "java/lang/IllegalStateException") (List.mem_of_getElem? (i := 3) (by decide +kernel))) (va_Nw.use rfl hX.2.1.2.2.2) hce hcv hcl ?_
      refine lv_astore (lv' := [(6, .ref q9), (0, .ref (a 0)), (1, .int (nI 18)), (2, .int p9), (3, .int v9), (4, .int u09), (5, .int u19)]) hx hb dL_act_317 hl (by decide) rfl (fun ls hl => ?_)
      refine lv_ldc (v := -7000003) hx hb hown (hts (.constant RL 81 (-7000003)) (List.mem_of_getElem? (i := 6) (by decide +kernel))) dL_act_319 ?_
      refine retw (Nat.le_of_ble_eq_true rfl) (Nat.le_of_ble_eq_true rfl) ?_
      exact en_wi () hx hb hr hlocks hS (AR.x3 h) hCW dL_act_321
  · skip
    have hCW : CW G a st H := by rw [← ht]; exact hB
    refine lv_goto (tgt := 306) hx hb dL_act_297 (by decide) ?_
    refine retw (Nat.le_of_ble_eq_true rfl) (Nat.le_of_ble_eq_true rfl) ?_
    exact en_wi () hx hb hr hlocks hS (AR.x0 hp.1 hp.2) hCW dL_act_306
set_option maxHeartbeats 4000000 in
set_option maxRecDepth 100000 in
theorem w_act_digit (l : Launch) (hfl : l.stackTraces = false) (G : GG) (a : Nat → Nat) (ha : Inj a) (t9 : Nat) (st : ST) (x9 k9 u09 u19 : Int32) (hO : OKS st) : vx_Met l yL_act wsL_act ({ frames := 8, cells := 1, slots := 6, locals := 128 } : Room) (PcW G a t9 [.ref (a 0), .int (nI 19), .int x9, .int k9, .int u09, .int u19] (fun H => CW G a st H)) (QI (fun (r : Int32) (_ : Unit) => AR (cDi x9 k9) r (r = diV x9 (ix k9))) (fun _ H => CW G a st H) (rng a 0 93)) (fun _ _ _ => False) 1 6 (rng a 0 93) := by
  refine vx_ofWH (cc := cL_act) (maxL := 7) (ret := some .int) (hh := [(0, 306, 307, 73), (0, 306, 312, 76), (0, 306, 317, 79)]) (by decide) rfl ?_
  intro p e s m args below meth c s₁ B hml hv
  obtain ⟨⟨⟨⟨rfl, hCW, hK, hNW⟩, hLow⟩, hX⟩, hNC⟩ := hv
  have hx := B.exec
  have hb := B.bytes
  have hr := B.returns
  have hts := atoms_spec (ws := wsL_act) B.pre
  have hown : s.vm.findClass RL = some m.cls := findClass_of_methodNamed B.named
  have hlocks := B.notSynchronized
  have htab : c.exceptionTable.toList = tableOf [(0, 306, 307, 73), (0, 306, 312, 76), (0, 306, 317, 79)] := vx_table (x := yL_act) B (hts _ List.mem_cons_self)
  have FX : CallFix p m c cL_act 7 s ([.ref (a 0), .int (nI 19), .int x9, .int k9, .int u09, .int u19] : List Value).toArray wsL_act RL := ⟨hx, hb, hml, hown, hts⟩
  have hl := lv_entry ([.ref (a 0), .int (nI 19), .int x9, .int k9, .int u09, .int u19]) (n := 7) (Nat.le_of_ble_eq_true rfl)
  rw [lg_entry_eq]
  generalize (lg_sl ([.ref (a 0), .int (nI 19), .int x9, .int k9, .int u09, .int u19]) ++ List.replicate (7 - (lg_sl ([.ref (a 0), .int (nI 19), .int x9, .int k9, .int u09, .int u19])).length) Slot.unset).toArray = ls at hl ⊢
  have hl : lv_has ls 7 [(0, .ref (a 0)), (1, .int (nI 19)), (2, .int x9), (3, .int k9), (4, .int u09), (5, .int u19)] := hl
  have hS : va_S (rng a 0 93) s.heap s.heap [] := va_S.rf
  refine lv_iload_n hx hb dL_act_0 rfl (lv_at hl 1 rfl) ?_
  refine lv_if_ne (tgt := 12) hx hb dL_act_1 (by decide) (fun _ => ?_) (fun c => absurd c (by decide))
  refine lv_iload_n hx hb dL_act_12 rfl (lv_at hl 1 rfl) ?_
  refine lv_iconst (v := nI 1) hx hb dL_act_13 (by decide) ?_
  refine lv_icmp_ne (tgt := 30) hx hb dL_act_14 (by decide) (fun _ => ?_) (fun c => absurd c (by decide))
  refine lv_iload_n hx hb dL_act_30 rfl (lv_at hl 1 rfl) ?_
  refine lv_iconst (v := nI 2) hx hb dL_act_31 (by decide) ?_
  refine lv_icmp_ne (tgt := 44) hx hb dL_act_32 (by decide) (fun _ => ?_) (fun c => absurd c (by decide))
  refine lv_iload_n hx hb dL_act_44 rfl (lv_at hl 1 rfl) ?_
  refine lv_iconst (v := nI 3) hx hb dL_act_45 (by decide) ?_
  refine lv_icmp_ne (tgt := 60) hx hb dL_act_46 (by decide) (fun _ => ?_) (fun c => absurd c (by decide))
  refine lv_iload_n hx hb dL_act_60 rfl (lv_at hl 1 rfl) ?_
  refine lv_iconst (v := nI 4) hx hb dL_act_61 (by decide) ?_
  refine lv_icmp_ne (tgt := 74) hx hb dL_act_62 (by decide) (fun _ => ?_) (fun c => absurd c (by decide))
  refine lv_iload_n hx hb dL_act_74 rfl (lv_at hl 1 rfl) ?_
  refine lv_iconst (v := nI 5) hx hb dL_act_75 (by decide) ?_
  refine lv_icmp_ne (tgt := 87) hx hb dL_act_76 (by decide) (fun _ => ?_) (fun c => absurd c (by decide))
  refine lv_iload_n hx hb dL_act_87 rfl (lv_at hl 1 rfl) ?_
  refine lv_bipush (v := nI 6) hx hb dL_act_88 (by decide) ?_
  refine lv_icmp_ne (tgt := 104) hx hb dL_act_90 (by decide) (fun _ => ?_) (fun c => absurd c (by decide))
  refine lv_iload_n hx hb dL_act_104 rfl (lv_at hl 1 rfl) ?_
  refine lv_bipush (v := nI 7) hx hb dL_act_105 (by decide) ?_
  refine lv_icmp_ne (tgt := 121) hx hb dL_act_107 (by decide) (fun _ => ?_) (fun c => absurd c (by decide))
  refine lv_iload_n hx hb dL_act_121 rfl (lv_at hl 1 rfl) ?_
  refine lv_bipush (v := nI 8) hx hb dL_act_122 (by decide) ?_
  refine lv_icmp_ne (tgt := 138) hx hb dL_act_124 (by decide) (fun _ => ?_) (fun c => absurd c (by decide))
  refine lv_iload_n hx hb dL_act_138 rfl (lv_at hl 1 rfl) ?_
  refine lv_bipush (v := nI 9) hx hb dL_act_139 (by decide) ?_
  refine lv_icmp_ne (tgt := 153) hx hb dL_act_141 (by decide) (fun _ => ?_) (fun c => absurd c (by decide))
  refine lv_iload_n hx hb dL_act_153 rfl (lv_at hl 1 rfl) ?_
  refine lv_bipush (v := nI 10) hx hb dL_act_154 (by decide) ?_
  refine lv_icmp_ne (tgt := 168) hx hb dL_act_156 (by decide) (fun _ => ?_) (fun c => absurd c (by decide))
  refine lv_iload_n hx hb dL_act_168 rfl (lv_at hl 1 rfl) ?_
  refine lv_bipush (v := nI 11) hx hb dL_act_169 (by decide) ?_
  refine lv_icmp_ne (tgt := 183) hx hb dL_act_171 (by decide) (fun _ => ?_) (fun c => absurd c (by decide))
  refine lv_iload_n hx hb dL_act_183 rfl (lv_at hl 1 rfl) ?_
  refine lv_bipush (v := nI 12) hx hb dL_act_184 (by decide) ?_
  refine lv_icmp_ne (tgt := 198) hx hb dL_act_186 (by decide) (fun _ => ?_) (fun c => absurd c (by decide))
  refine lv_iload_n hx hb dL_act_198 rfl (lv_at hl 1 rfl) ?_
  refine lv_bipush (v := nI 13) hx hb dL_act_199 (by decide) ?_
  refine lv_icmp_ne (tgt := 213) hx hb dL_act_201 (by decide) (fun _ => ?_) (fun c => absurd c (by decide))
  refine lv_iload_n hx hb dL_act_213 rfl (lv_at hl 1 rfl) ?_
  refine lv_bipush (v := nI 14) hx hb dL_act_214 (by decide) ?_
  refine lv_icmp_ne (tgt := 232) hx hb dL_act_216 (by decide) (fun _ => ?_) (fun c => absurd c (by decide))
  refine lv_iload_n hx hb dL_act_232 rfl (lv_at hl 1 rfl) ?_
  refine lv_bipush (v := nI 15) hx hb dL_act_233 (by decide) ?_
  refine lv_icmp_ne (tgt := 251) hx hb dL_act_235 (by decide) (fun _ => ?_) (fun c => absurd c (by decide))
  refine lv_iload_n hx hb dL_act_251 rfl (lv_at hl 1 rfl) ?_
  refine lv_bipush (v := nI 16) hx hb dL_act_252 (by decide) ?_
  refine lv_icmp_ne (tgt := 268) hx hb dL_act_254 (by decide) (fun _ => ?_) (fun c => absurd c (by decide))
  refine lv_iload_n hx hb dL_act_268 rfl (lv_at hl 1 rfl) ?_
  refine lv_bipush (v := nI 17) hx hb dL_act_269 (by decide) ?_
  refine lv_icmp_ne (tgt := 285) hx hb dL_act_271 (by decide) (fun _ => ?_) (fun c => absurd c (by decide))
  refine lv_iload_n hx hb dL_act_285 rfl (lv_at hl 1 rfl) ?_
  refine lv_bipush (v := nI 18) hx hb dL_act_286 (by decide) ?_
  refine lv_icmp_ne (tgt := 300) hx hb dL_act_288 (by decide) (fun _ => ?_) (fun c => absurd c (by decide))
  refine lv_aload_n hx hb dL_act_300 rfl (lv_at hl 0 rfl) ?_
  refine lv_iload_n hx hb dL_act_301 rfl (lv_at hl 2 rfl) ?_
  refine lv_iload_n hx hb dL_act_302 rfl (lv_at hl 3 rfl) ?_
  refine vx_calli (vx_runV (As := [.int x9, .int k9]) (rest := []) FX (k_X11_digit l hfl G a ha t9 st x9 k9 hO) (cwV 2 hts gL_act_X11_digit rfl rfl rfl (by decide +kernel) ⟨Nat.le_of_ble_eq_true rfl, Nat.le_of_ble_eq_true rfl⟩) (preVX hK hNW hCW (hLow.at hS (fun q9 _ q => rng_M q9 q)) (hX.at hS (fun q9 _ q => rng_M q9 q)) (cw_recv hK hCW)) rfl rfl hl.1 rfl (lv_room (Nat.le_of_ble_eq_true rfl)) dL_act_303 ⟨Nat.le_of_ble_eq_true rfl, Nat.le_of_ble_eq_true rfl⟩) hS (fun q _ h => h) (fun q h => h) (fun q _ h => h) (fun E ce q9 u t H locs ht hal _ hBX hsz hk hS hce hcv hcl => ?_) (fun r u t H locs ht hal hp hB hsz hk hS => ?_)
  · skip
    have hCW : CW G a st H := by rw [← ht]; exact hBX.2
    rcases hBX.1 with ⟨rfl, h⟩ | ⟨rfl, h⟩ | ⟨rfl, h⟩
    · skip
      refine vx_catch hown [] ⟨0, 306, 307, 73⟩ [⟨0, 306, 312, 76⟩, ⟨0, 306, 317, 79⟩] htab (fun z hz => absurd hz List.not_mem_nil) (by decide) (show 73 ≠ 0 by decide) (hts (.classLink RL 73 "java/lang/IndexOutOfBoundsException") (List.mem_of_getElem? (i := 1) (by decide +kernel))) (va_Nw.use rfl hX.2.1.2.1) hce hcv hcl ?_
      refine lv_astore (lv' := [(6, .ref q9), (0, .ref (a 0)), (1, .int (nI 19)), (2, .int x9), (3, .int k9), (4, .int u09), (5, .int u19)]) hx hb dL_act_307 hl (by decide) rfl (fun ls hl => ?_)
      refine lv_ldc (v := -7000001) hx hb hown (hts (.constant RL 75 (-7000001)) (List.mem_of_getElem? (i := 4) (by decide +kernel))) dL_act_309 ?_
      refine retw (Nat.le_of_ble_eq_true rfl) (Nat.le_of_ble_eq_true rfl) ?_
      exact en_wi () hx hb hr hlocks hS (AR.x1 h) hCW dL_act_311
    · skip
      refine vx_catch hown [⟨0, 306, 307, 73⟩] ⟨0, 306, 312, 76⟩ [⟨0, 306, 317, 79⟩] htab (List.forall_mem_cons.mpr ⟨Or.inr ⟨(show 73 ≠ 0 by decide), _, (hts (.classLink RL 73 "java/lang/IndexOutOfBoundsException") (List.mem_of_getElem? (i := 1) (by decide +kernel))), hNC.1⟩, (fun z hz => absurd hz List.not_mem_nil)⟩) (by decide) (show 76 ≠ 0 by decide) (hts (.classLink RL 76 "java/lang/IllegalArgumentException") (List.mem_of_getElem? (i := 2) (by decide +kernel))) (va_Nw.use rfl hX.2.1.2.2.1) hce hcv hcl ?_
      refine lv_astore (lv' := [(6, .ref q9), (0, .ref (a 0)), (1, .int (nI 19)), (2, .int x9), (3, .int k9), (4, .int u09), (5, .int u19)]) hx hb dL_act_312 hl (by decide) rfl (fun ls hl => ?_)
      refine lv_ldc (v := -7000002) hx hb hown (hts (.constant RL 78 (-7000002)) (List.mem_of_getElem? (i := 5) (by decide +kernel))) dL_act_314 ?_
      refine retw (Nat.le_of_ble_eq_true rfl) (Nat.le_of_ble_eq_true rfl) ?_
      exact en_wi () hx hb hr hlocks hS (AR.x2 h) hCW dL_act_316
    · skip
      refine vx_catch hown [⟨0, 306, 307, 73⟩, ⟨0, 306, 312, 76⟩] ⟨0, 306, 317, 79⟩ [] htab (List.forall_mem_cons.mpr ⟨Or.inr ⟨(show 73 ≠ 0 by decide), _, (hts (.classLink RL 73 "java/lang/IndexOutOfBoundsException") (List.mem_of_getElem? (i := 1) (by decide +kernel))), hNC.2.1⟩, (List.forall_mem_cons.mpr ⟨Or.inr ⟨(show 76 ≠ 0 by decide), _, (hts (.classLink RL 76 "java/lang/IllegalArgumentException") (List.mem_of_getElem? (i := 2) (by decide +kernel))), hNC.2.2⟩, (fun z hz => absurd hz List.not_mem_nil)⟩)⟩) (by decide) (show 79 ≠ 0 by decide) (hts (.classLink RL 79 "java/lang/IllegalStateException") (List.mem_of_getElem? (i := 3) (by decide +kernel))) (va_Nw.use rfl hX.2.1.2.2.2) hce hcv hcl ?_
      refine lv_astore (lv' := [(6, .ref q9), (0, .ref (a 0)), (1, .int (nI 19)), (2, .int x9), (3, .int k9), (4, .int u09), (5, .int u19)]) hx hb dL_act_317 hl (by decide) rfl (fun ls hl => ?_)
      refine lv_ldc (v := -7000003) hx hb hown (hts (.constant RL 81 (-7000003)) (List.mem_of_getElem? (i := 6) (by decide +kernel))) dL_act_319 ?_
      refine retw (Nat.le_of_ble_eq_true rfl) (Nat.le_of_ble_eq_true rfl) ?_
      exact en_wi () hx hb hr hlocks hS (AR.x3 h) hCW dL_act_321
  · skip
    have hCW : CW G a st H := by rw [← ht]; exact hB
    refine retw (Nat.le_of_ble_eq_true rfl) (Nat.le_of_ble_eq_true rfl) ?_
    exact en_wi () hx hb hr hlocks hS (AR.x0 hp.1 hp.2) hCW dL_act_306
