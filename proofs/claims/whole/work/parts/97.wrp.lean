set_option maxHeartbeats 4000000 in
set_option maxRecDepth 100000 in
theorem w_input (l : Launch) (hfl : l.stackTraces = false) (G : GG) (a : Nat → Nat) (ha : Inj a) (t9 : Nat) (st : ST) (p9 : Int32) (f0 : Nat → Int64) (hO : OKS st) : vx_Met l yL_input wsL_input ({ frames := 8, cells := 2, slots := 12, locals := 125 } : Room) (PcW G a t9 [.ref (a 0), .int p9, .ref (a 115)] (fun H => CW G a st H ∧ outP G a f0 H)) (QI (fun (r : Int32) (f : Nat → Int64) => r = nI (c2 (cIn st.1 p9)) ∧ (cIn st.1 p9 = 0 → ∃ x : Int32, f 0 = x.toInt64 ∧ x = nI (nG (st.1 (ix p9))))) (fun f H => CW G a (stN (cIn st.1 p9) (upN st.1 (ix p9) (addI (st.1 (ix p9)))) st.1, st.2) H ∧ outP G a f H) (orA (rng a 0 93) (rng a 115 1))) (fun _ _ _ => False) 2 12 (orA (rng a 0 93) (rng a 115 1)) := by
  refine vx_ofWH (cc := cL_input) (maxL := 4) (ret := some .int) (hh := [(0, 9, 12, 13), (0, 9, 15, 15)]) (by decide) rfl ?_
  intro p e s m args below meth c s₁ B hml hv
  obtain ⟨⟨⟨⟨rfl, hB, hK, hNW⟩, hLow⟩, hX⟩, hNC⟩ := hv
  obtain ⟨hCW, hOut⟩ := hB
  have hx := B.exec
  have hb := B.bytes
  have hr := B.returns
  have hts := atoms_spec (ws := wsL_input) B.pre
  have hown : s.vm.findClass RL = some m.cls := findClass_of_methodNamed B.named
  have hlocks := B.notSynchronized
  have htab : c.exceptionTable.toList = tableOf [(0, 9, 12, 13), (0, 9, 15, 15)] := vx_table (x := yL_input) B (hts _ List.mem_cons_self)
  have FX : CallFix p m c cL_input 4 s ([.ref (a 0), .int p9, .ref (a 115)] : List Value).toArray wsL_input RL := ⟨hx, hb, hml, hown, hts⟩
  have hl := lv_entry ([.ref (a 0), .int p9, .ref (a 115)]) (n := 4) (Nat.le_of_ble_eq_true rfl)
  rw [lg_entry_eq]
  generalize (lg_sl ([.ref (a 0), .int p9, .ref (a 115)]) ++ List.replicate (4 - (lg_sl ([.ref (a 0), .int p9, .ref (a 115)])).length) Slot.unset).toArray = ls at hl ⊢
  have hl : lv_has ls 4 [(0, .ref (a 0)), (1, .int p9), (2, .ref (a 115))] := hl
  have hS : va_S (orA (rng a 0 93) (rng a 115 1)) s.heap s.heap [] := va_S.rf
  refine lv_aload_n hx hb dL_input_0 rfl (lv_at hl 2 rfl) ?_
  refine lv_iconst (v := nI 0) hx hb dL_input_1 (by decide) ?_
  refine lv_aload_n hx hb dL_input_2 rfl (lv_at hl 0 rfl) ?_
  refine lv_iload_n hx hb dL_input_3 rfl (lv_at hl 1 rfl) ?_
  refine vx_calli (vx_runV (As := [.int p9]) (rest := [.int (nI 0), .ref (a 115)]) FX (k_X11_input l hfl G a ha t9 st p9 hO) (cwV 1 hts gL_input_X11_input rfl rfl rfl (by decide +kernel) ⟨Nat.le_of_ble_eq_true rfl, Nat.le_of_ble_eq_true rfl⟩) (preVX hK hNW hCW (hLow.at hS (fun q9 _ q => q.elim (rng_M q9) (rng_M q9))) (hX.at hS (fun q9 _ q => q.elim (rng_M q9) (rng_M q9))) (cw_recv hK hCW)) rfl rfl hl.1 rfl (lv_room (Nat.le_of_ble_eq_true rfl)) dL_input_4 ⟨Nat.le_of_ble_eq_true rfl, Nat.le_of_ble_eq_true rfl⟩) hS (fun q _ h => Or.inl h) (fun q h => Or.inl h) (fun q _ h => Or.inl h) (fun E ce q9 u t H locs ht hal _ hBX hsz hk hS hce hcv hcl => ?_) (fun r u t H locs ht hal hp hB hsz hk hS => ?_)
  · skip
    have hOut : outP G a f0 H := kp hk hOut (dj_cons (rng_no ha (by omega)) dj_nil)
    have hCW : CW G a st H := by rw [← ht]; exact hBX.2
    rcases hBX.1 with ⟨rfl, h⟩ | ⟨rfl, h⟩ | ⟨rfl, h⟩
    · skip
      refine vx_catch hown [] ⟨0, 9, 12, 13⟩ [⟨0, 9, 15, 15⟩] htab (fun z hz => absurd hz List.not_mem_nil) (by decide) (show 13 ≠ 0 by decide) (hts (.classLink RL 13 "java/lang/IndexOutOfBoundsException") (List.mem_of_getElem? (i := 1) (by decide +kernel))) (va_Nw.use rfl hX.2.1.2.1) hce hcv hcl ?_
      refine lv_astore_n (lv' := [(3, .ref q9), (0, .ref (a 0)), (1, .int p9), (2, .ref (a 115))]) hx hb dL_input_12 rfl hl (by decide) rfl (fun ls hl => ?_)
      refine lv_iconst (v := nI 1) hx hb dL_input_13 (by decide) ?_
      refine retw (Nat.le_of_ble_eq_true rfl) (Nat.le_of_ble_eq_true rfl) ?_
      exact en_wi f0 hx hb hr hlocks hS ⟨by rw [h]; try rfl, fun q => absurd (h.symm.trans q) (by decide)⟩ ⟨(by rw [stN_n h (by decide)]; exact hCW), hOut⟩ dL_input_14
    · skip
      exact absurd h (fun h => cd_input h)
    · skip
      refine vx_catch hown [⟨0, 9, 12, 13⟩] ⟨0, 9, 15, 15⟩ [] htab (List.forall_mem_cons.mpr ⟨Or.inr ⟨(show 13 ≠ 0 by decide), _, (hts (.classLink RL 13 "java/lang/IndexOutOfBoundsException") (List.mem_of_getElem? (i := 1) (by decide +kernel))), hNC.2.1⟩, (fun z hz => absurd hz List.not_mem_nil)⟩) (by decide) (show 15 ≠ 0 by decide) (hts (.classLink RL 15 "java/lang/IllegalStateException") (List.mem_of_getElem? (i := 2) (by decide +kernel))) (va_Nw.use rfl hX.2.1.2.2.2) hce hcv hcl ?_
      refine lv_astore_n (lv' := [(3, .ref q9), (0, .ref (a 0)), (1, .int p9), (2, .ref (a 115))]) hx hb dL_input_15 rfl hl (by decide) rfl (fun ls hl => ?_)
      refine lv_iconst (v := nI 2) hx hb dL_input_16 (by decide) ?_
      refine retw (Nat.le_of_ble_eq_true rfl) (Nat.le_of_ble_eq_true rfl) ?_
      exact en_wi f0 hx hb hr hlocks hS ⟨by rw [h]; try rfl, fun q => absurd (h.symm.trans q) (by decide)⟩ ⟨(by rw [stN_n h (by decide)]; exact hCW), hOut⟩ dL_input_17
  · skip
    have hOut : outP G a f0 H := kp hk hOut (dj_cons (rng_no ha (by omega)) dj_nil)
    have hCW : CW G a (stN (cIn st.1 p9) (upN st.1 (ix p9) (addI (st.1 (ix p9)))) st.1, st.2) H := by rw [← ht]; exact hB
    refine lv_i2l (v := r.toInt64) hx hb dL_input_7 rfl ?_
    refine pp_last hx hb hK hOut hS (Or.inr (rng_in (by omega))) (vp_in_nI (by omega) (by omega)) dL_input_8 (fun H locs hOut hk2 _ hS => ?_)
    have hCW := CW_o ha hk2 hCW
    refine lv_goto (tgt := 18) hx hb dL_input_9 (by decide) ?_
    refine lv_iconst (v := nI 0) hx hb dL_input_18 (by decide) ?_
    refine retw (Nat.le_of_ble_eq_true rfl) (Nat.le_of_ble_eq_true rfl) ?_
    exact en_wi (vp_updL f0 (nI 0).toNatClampNeg r.toInt64) hx hb hr hlocks hS ⟨by rw [hp.1]; try rfl, fun _ => ⟨r, rfl, hp.2⟩⟩ ⟨hCW, hOut⟩ dL_input_19
set_option maxHeartbeats 4000000 in
set_option maxRecDepth 100000 in
theorem w_gate (l : Launch) (hfl : l.stackTraces = false) (G : GG) (a : Nat → Nat) (ha : Inj a) (t9 : Nat) (st : ST) (p9 kd9 f9 s9 : Int32) (f0 : Nat → Int64) (hO : OKS st) : vx_Met l yL_gate wsL_gate ({ frames := 8, cells := 5, slots := 30, locals := 128 } : Room) (PcW G a t9 [.ref (a 0), .int p9, .int kd9, .int f9, .int s9, .ref (a 115)] (fun H => CW G a st H ∧ outP G a f0 H)) (QI (fun (r : Int32) (f : Nat → Int64) => r = nI (c2 (cGa st.1 p9 kd9 f9 s9)) ∧ (cGa st.1 p9 kd9 f9 s9 = 0 → ∃ x : Int32, f 0 = x.toInt64 ∧ x = nI (nG (st.1 (ix p9))))) (fun f H => CW G a (stN (cGa st.1 p9 kd9 f9 s9) (upN st.1 (ix p9) (addG (st.1 (ix p9)) (ix kd9) (ix f9) (if ix kd9 = 3 then ix f9 else ix s9))) st.1, st.2) H ∧ outP G a f H) (orA (rng a 0 93) (rng a 115 1))) (fun _ _ _ => False) 5 30 (orA (rng a 0 93) (rng a 115 1)) := by
  refine vx_ofWH (cc := cL_gate) (maxL := 7) (ret := some .int) (hh := [(0, 14, 17, 13), (0, 14, 21, 15)]) (by decide) rfl ?_
  intro p e s m args below meth c s₁ B hml hv
  obtain ⟨⟨⟨⟨rfl, hB, hK, hNW⟩, hLow⟩, hX⟩, hNC⟩ := hv
  obtain ⟨hCW, hOut⟩ := hB
  have hx := B.exec
  have hb := B.bytes
  have hr := B.returns
  have hts := atoms_spec (ws := wsL_gate) B.pre
  have hown : s.vm.findClass RL = some m.cls := findClass_of_methodNamed B.named
  have hlocks := B.notSynchronized
  have htab : c.exceptionTable.toList = tableOf [(0, 14, 17, 13), (0, 14, 21, 15)] := vx_table (x := yL_gate) B (hts _ List.mem_cons_self)
  have FX : CallFix p m c cL_gate 7 s ([.ref (a 0), .int p9, .int kd9, .int f9, .int s9, .ref (a 115)] : List Value).toArray wsL_gate RL := ⟨hx, hb, hml, hown, hts⟩
  have hl := lv_entry ([.ref (a 0), .int p9, .int kd9, .int f9, .int s9, .ref (a 115)]) (n := 7) (Nat.le_of_ble_eq_true rfl)
  rw [lg_entry_eq]
  generalize (lg_sl ([.ref (a 0), .int p9, .int kd9, .int f9, .int s9, .ref (a 115)]) ++ List.replicate (7 - (lg_sl ([.ref (a 0), .int p9, .int kd9, .int f9, .int s9, .ref (a 115)])).length) Slot.unset).toArray = ls at hl ⊢
  have hl : lv_has ls 7 [(0, .ref (a 0)), (1, .int p9), (2, .int kd9), (3, .int f9), (4, .int s9), (5, .ref (a 115))] := hl
  have hS : va_S (orA (rng a 0 93) (rng a 115 1)) s.heap s.heap [] := va_S.rf
  refine lv_aload hx hb dL_gate_0 (lv_at hl 5 rfl) ?_
  refine lv_iconst (v := nI 0) hx hb dL_gate_2 (by decide) ?_
  refine lv_aload_n hx hb dL_gate_3 rfl (lv_at hl 0 rfl) ?_
  refine lv_iload_n hx hb dL_gate_4 rfl (lv_at hl 1 rfl) ?_
  refine lv_iload_n hx hb dL_gate_5 rfl (lv_at hl 2 rfl) ?_
  refine lv_iload_n hx hb dL_gate_6 rfl (lv_at hl 3 rfl) ?_
  refine lv_iload hx hb dL_gate_7 (lv_at hl 4 rfl) ?_
  refine vx_calli (vx_runV (As := [.int p9, .int kd9, .int f9, .int s9]) (rest := [.int (nI 0), .ref (a 115)]) FX (k_X11_gate l hfl G a ha t9 st p9 kd9 f9 s9 hO) (cwV 4 hts gL_gate_X11_gate rfl rfl rfl (by decide +kernel) ⟨Nat.le_of_ble_eq_true rfl, Nat.le_of_ble_eq_true rfl⟩) (preVX hK hNW hCW (hLow.at hS (fun q9 _ q => q.elim (rng_M q9) (rng_M q9))) (hX.at hS (fun q9 _ q => q.elim (rng_M q9) (rng_M q9))) (cw_recv hK hCW)) rfl rfl hl.1 rfl (lv_room (Nat.le_of_ble_eq_true rfl)) dL_gate_9 ⟨Nat.le_of_ble_eq_true rfl, Nat.le_of_ble_eq_true rfl⟩) hS (fun q _ h => Or.inl h) (fun q h => Or.inl h) (fun q _ h => Or.inl h) (fun E ce q9 u t H locs ht hal _ hBX hsz hk hS hce hcv hcl => ?_) (fun r u t H locs ht hal hp hB hsz hk hS => ?_)
  · skip
    have hOut : outP G a f0 H := kp hk hOut (dj_cons (rng_no ha (by omega)) dj_nil)
    have hCW : CW G a st H := by rw [← ht]; exact hBX.2
    rcases hBX.1 with ⟨rfl, h⟩ | ⟨rfl, h⟩ | ⟨rfl, h⟩
    · skip
      refine vx_catch hown [] ⟨0, 14, 17, 13⟩ [⟨0, 14, 21, 15⟩] htab (fun z hz => absurd hz List.not_mem_nil) (by decide) (show 13 ≠ 0 by decide) (hts (.classLink RL 13 "java/lang/IndexOutOfBoundsException") (List.mem_of_getElem? (i := 1) (by decide +kernel))) (va_Nw.use rfl hX.2.1.2.1) hce hcv hcl ?_
      refine lv_astore (lv' := [(6, .ref q9), (0, .ref (a 0)), (1, .int p9), (2, .int kd9), (3, .int f9), (4, .int s9), (5, .ref (a 115))]) hx hb dL_gate_17 hl (by decide) rfl (fun ls hl => ?_)
      refine lv_iconst (v := nI 1) hx hb dL_gate_19 (by decide) ?_
      refine retw (Nat.le_of_ble_eq_true rfl) (Nat.le_of_ble_eq_true rfl) ?_
      exact en_wi f0 hx hb hr hlocks hS ⟨by rw [h]; try rfl, fun q => absurd (h.symm.trans q) (by decide)⟩ ⟨(by rw [stN_n h (by decide)]; exact hCW), hOut⟩ dL_gate_20
    · skip
      exact absurd h (fun h => cd_gate h)
    · skip
      refine vx_catch hown [⟨0, 14, 17, 13⟩] ⟨0, 14, 21, 15⟩ [] htab (List.forall_mem_cons.mpr ⟨Or.inr ⟨(show 13 ≠ 0 by decide), _, (hts (.classLink RL 13 "java/lang/IndexOutOfBoundsException") (List.mem_of_getElem? (i := 1) (by decide +kernel))), hNC.2.1⟩, (fun z hz => absurd hz List.not_mem_nil)⟩) (by decide) (show 15 ≠ 0 by decide) (hts (.classLink RL 15 "java/lang/IllegalStateException") (List.mem_of_getElem? (i := 2) (by decide +kernel))) (va_Nw.use rfl hX.2.1.2.2.2) hce hcv hcl ?_
      refine lv_astore (lv' := [(6, .ref q9), (0, .ref (a 0)), (1, .int p9), (2, .int kd9), (3, .int f9), (4, .int s9), (5, .ref (a 115))]) hx hb dL_gate_21 hl (by decide) rfl (fun ls hl => ?_)
      refine lv_iconst (v := nI 2) hx hb dL_gate_23 (by decide) ?_
      refine retw (Nat.le_of_ble_eq_true rfl) (Nat.le_of_ble_eq_true rfl) ?_
      exact en_wi f0 hx hb hr hlocks hS ⟨by rw [h]; try rfl, fun q => absurd (h.symm.trans q) (by decide)⟩ ⟨(by rw [stN_n h (by decide)]; exact hCW), hOut⟩ dL_gate_24
  · skip
    have hOut : outP G a f0 H := kp hk hOut (dj_cons (rng_no ha (by omega)) dj_nil)
    have hCW : CW G a (stN (cGa st.1 p9 kd9 f9 s9) (upN st.1 (ix p9) (addG (st.1 (ix p9)) (ix kd9) (ix f9) (if ix kd9 = 3 then ix f9 else ix s9))) st.1, st.2) H := by rw [← ht]; exact hB
    refine lv_i2l (v := r.toInt64) hx hb dL_gate_12 rfl ?_
    refine pp_last hx hb hK hOut hS (Or.inr (rng_in (by omega))) (vp_in_nI (by omega) (by omega)) dL_gate_13 (fun H locs hOut hk2 _ hS => ?_)
    have hCW := CW_o ha hk2 hCW
    refine lv_goto (tgt := 25) hx hb dL_gate_14 (by decide) ?_
    refine lv_iconst (v := nI 0) hx hb dL_gate_25 (by decide) ?_
    refine retw (Nat.le_of_ble_eq_true rfl) (Nat.le_of_ble_eq_true rfl) ?_
    exact en_wi (vp_updL f0 (nI 0).toNatClampNeg r.toInt64) hx hb hr hlocks hS ⟨by rw [hp.1]; try rfl, fun _ => ⟨r, rfl, hp.2⟩⟩ ⟨hCW, hOut⟩ dL_gate_26
set_option maxHeartbeats 4000000 in
set_option maxRecDepth 100000 in
theorem w_out (l : Launch) (hfl : l.stackTraces = false) (G : GG) (a : Nat → Nat) (ha : Inj a) (t9 : Nat) (st : ST) (p9 g9 : Int32) (f0 : Nat → Int64) (hO : OKS st) : vx_Met l yL_out wsL_out ({ frames := 8, cells := 3, slots := 18, locals := 126 } : Room) (PcW G a t9 [.ref (a 0), .int p9, .int g9, .ref (a 115)] (fun H => CW G a st H ∧ outP G a f0 H)) (QI (fun (r : Int32) (f : Nat → Int64) => r = nI (c2 (cOu st.1 p9 g9)) ∧ (cOu st.1 p9 g9 = 0 → ∃ x : Int32, f 0 = x.toInt64 ∧ x = nI (nO (st.1 (ix p9))))) (fun f H => CW G a (stN (cOu st.1 p9 g9) (upN st.1 (ix p9) (addO (st.1 (ix p9)) (ix g9))) st.1, st.2) H ∧ outP G a f H) (orA (rng a 0 93) (rng a 115 1))) (fun _ _ _ => False) 3 18 (orA (rng a 0 93) (rng a 115 1)) := by
  refine vx_ofWH (cc := cL_out) (maxL := 5) (ret := some .int) (hh := [(0, 10, 13, 13), (0, 10, 17, 15)]) (by decide) rfl ?_
  intro p e s m args below meth c s₁ B hml hv
  obtain ⟨⟨⟨⟨rfl, hB, hK, hNW⟩, hLow⟩, hX⟩, hNC⟩ := hv
  obtain ⟨hCW, hOut⟩ := hB
  have hx := B.exec
  have hb := B.bytes
  have hr := B.returns
  have hts := atoms_spec (ws := wsL_out) B.pre
  have hown : s.vm.findClass RL = some m.cls := findClass_of_methodNamed B.named
  have hlocks := B.notSynchronized
  have htab : c.exceptionTable.toList = tableOf [(0, 10, 13, 13), (0, 10, 17, 15)] := vx_table (x := yL_out) B (hts _ List.mem_cons_self)
  have FX : CallFix p m c cL_out 5 s ([.ref (a 0), .int p9, .int g9, .ref (a 115)] : List Value).toArray wsL_out RL := ⟨hx, hb, hml, hown, hts⟩
  have hl := lv_entry ([.ref (a 0), .int p9, .int g9, .ref (a 115)]) (n := 5) (Nat.le_of_ble_eq_true rfl)
  rw [lg_entry_eq]
  generalize (lg_sl ([.ref (a 0), .int p9, .int g9, .ref (a 115)]) ++ List.replicate (5 - (lg_sl ([.ref (a 0), .int p9, .int g9, .ref (a 115)])).length) Slot.unset).toArray = ls at hl ⊢
  have hl : lv_has ls 5 [(0, .ref (a 0)), (1, .int p9), (2, .int g9), (3, .ref (a 115))] := hl
  have hS : va_S (orA (rng a 0 93) (rng a 115 1)) s.heap s.heap [] := va_S.rf
  refine lv_aload_n hx hb dL_out_0 rfl (lv_at hl 3 rfl) ?_
  refine lv_iconst (v := nI 0) hx hb dL_out_1 (by decide) ?_
  refine lv_aload_n hx hb dL_out_2 rfl (lv_at hl 0 rfl) ?_
  refine lv_iload_n hx hb dL_out_3 rfl (lv_at hl 1 rfl) ?_
  refine lv_iload_n hx hb dL_out_4 rfl (lv_at hl 2 rfl) ?_
  refine vx_calli (vx_runV (As := [.int p9, .int g9]) (rest := [.int (nI 0), .ref (a 115)]) FX (k_X11_out l hfl G a ha t9 st p9 g9 hO) (cwV 2 hts gL_out_X11_out rfl rfl rfl (by decide +kernel) ⟨Nat.le_of_ble_eq_true rfl, Nat.le_of_ble_eq_true rfl⟩) (preVX hK hNW hCW (hLow.at hS (fun q9 _ q => q.elim (rng_M q9) (rng_M q9))) (hX.at hS (fun q9 _ q => q.elim (rng_M q9) (rng_M q9))) (cw_recv hK hCW)) rfl rfl hl.1 rfl (lv_room (Nat.le_of_ble_eq_true rfl)) dL_out_5 ⟨Nat.le_of_ble_eq_true rfl, Nat.le_of_ble_eq_true rfl⟩) hS (fun q _ h => Or.inl h) (fun q h => Or.inl h) (fun q _ h => Or.inl h) (fun E ce q9 u t H locs ht hal _ hBX hsz hk hS hce hcv hcl => ?_) (fun r u t H locs ht hal hp hB hsz hk hS => ?_)
  · skip
    have hOut : outP G a f0 H := kp hk hOut (dj_cons (rng_no ha (by omega)) dj_nil)
    have hCW : CW G a st H := by rw [← ht]; exact hBX.2
    rcases hBX.1 with ⟨rfl, h⟩ | ⟨rfl, h⟩ | ⟨rfl, h⟩
    · skip
      refine vx_catch hown [] ⟨0, 10, 13, 13⟩ [⟨0, 10, 17, 15⟩] htab (fun z hz => absurd hz List.not_mem_nil) (by decide) (show 13 ≠ 0 by decide) (hts (.classLink RL 13 "java/lang/IndexOutOfBoundsException") (List.mem_of_getElem? (i := 1) (by decide +kernel))) (va_Nw.use rfl hX.2.1.2.1) hce hcv hcl ?_
      refine lv_astore (lv' := [(4, .ref q9), (0, .ref (a 0)), (1, .int p9), (2, .int g9), (3, .ref (a 115))]) hx hb dL_out_13 hl (by decide) rfl (fun ls hl => ?_)
      refine lv_iconst (v := nI 1) hx hb dL_out_15 (by decide) ?_
      refine retw (Nat.le_of_ble_eq_true rfl) (Nat.le_of_ble_eq_true rfl) ?_
      exact en_wi f0 hx hb hr hlocks hS ⟨by rw [h]; try rfl, fun q => absurd (h.symm.trans q) (by decide)⟩ ⟨(by rw [stN_n h (by decide)]; exact hCW), hOut⟩ dL_out_16
    · skip
      exact absurd h (fun h => cd_out h)
    · skip
      refine vx_catch hown [⟨0, 10, 13, 13⟩] ⟨0, 10, 17, 15⟩ [] htab (List.forall_mem_cons.mpr ⟨Or.inr ⟨(show 13 ≠ 0 by decide), _, (hts (.classLink RL 13 "java/lang/IndexOutOfBoundsException") (List.mem_of_getElem? (i := 1) (by decide +kernel))), hNC.2.1⟩, (fun z hz => absurd hz List.not_mem_nil)⟩) (by decide) (show 15 ≠ 0 by decide) (hts (.classLink RL 15 "java/lang/IllegalStateException") (List.mem_of_getElem? (i := 2) (by decide +kernel))) (va_Nw.use rfl hX.2.1.2.2.2) hce hcv hcl ?_
      refine lv_astore (lv' := [(4, .ref q9), (0, .ref (a 0)), (1, .int p9), (2, .int g9), (3, .ref (a 115))]) hx hb dL_out_17 hl (by decide) rfl (fun ls hl => ?_)
      refine lv_iconst (v := nI 2) hx hb dL_out_19 (by decide) ?_
      refine retw (Nat.le_of_ble_eq_true rfl) (Nat.le_of_ble_eq_true rfl) ?_
      exact en_wi f0 hx hb hr hlocks hS ⟨by rw [h]; try rfl, fun q => absurd (h.symm.trans q) (by decide)⟩ ⟨(by rw [stN_n h (by decide)]; exact hCW), hOut⟩ dL_out_20
  · skip
    have hOut : outP G a f0 H := kp hk hOut (dj_cons (rng_no ha (by omega)) dj_nil)
    have hCW : CW G a (stN (cOu st.1 p9 g9) (upN st.1 (ix p9) (addO (st.1 (ix p9)) (ix g9))) st.1, st.2) H := by rw [← ht]; exact hB
    refine lv_i2l (v := r.toInt64) hx hb dL_out_8 rfl ?_
    refine pp_last hx hb hK hOut hS (Or.inr (rng_in (by omega))) (vp_in_nI (by omega) (by omega)) dL_out_9 (fun H locs hOut hk2 _ hS => ?_)
    have hCW := CW_o ha hk2 hCW
    refine lv_goto (tgt := 21) hx hb dL_out_10 (by decide) ?_
    refine lv_iconst (v := nI 0) hx hb dL_out_21 (by decide) ?_
    refine retw (Nat.le_of_ble_eq_true rfl) (Nat.le_of_ble_eq_true rfl) ?_
    exact en_wi (vp_updL f0 (nI 0).toNatClampNeg r.toInt64) hx hb hr hlocks hS ⟨by rw [hp.1]; try rfl, fun _ => ⟨r, rfl, hp.2⟩⟩ ⟨hCW, hOut⟩ dL_out_22
set_option maxHeartbeats 4000000 in
set_option maxRecDepth 100000 in
theorem w_adder (l : Launch) (hfl : l.stackTraces = false) (G : GG) (a : Nat → Nat) (ha : Inj a) (t9 : Nat) (st : ST) (p9 m9 w9 : Int32) (f0 : Nat → Int64) (hO : OKS st) : vx_Met l yL_adder wsL_adder ({ frames := 8, cells := 4, slots := 24, locals := 145 } : Room) (PcW G a t9 [.ref (a 0), .int p9, .int m9, .int w9, .ref (a 115)] (fun H => CW G a st H ∧ outP G a f0 H)) (QI (fun (r : Int32) (f : Nat → Int64) => r = nI (cAd st.1 p9 m9 w9) ∧ (cAd st.1 p9 m9 w9 = 0 → ∃ x : Int32, f 0 = x.toInt64 ∧ x = nI (nG (if ix m9 = 0 then ripN (st.1 (ix p9)) (ix w9) else joiN (ix m9 = 1) (st.1 (ix p9)) (ix w9))))) (fun f H => CW G a (stN (cAd st.1 p9 m9 w9) (upN st.1 (ix p9) (if ix m9 = 0 then ripN (st.1 (ix p9)) (ix w9) else joiN (ix m9 = 1) (st.1 (ix p9)) (ix w9))) st.1, st.2) H ∧ outP G a f H) (orA (rng a 0 93) (rng a 115 1))) (fun _ _ _ => False) 4 24 (orA (rng a 0 93) (rng a 115 1)) := by
  refine vx_ofWH (cc := cL_adder) (maxL := 6) (ret := some .int) (hh := [(0, 12, 15, 13), (0, 12, 19, 29), (0, 12, 23, 15)]) (by decide) rfl ?_
  intro p e s m args below meth c s₁ B hml hv
  obtain ⟨⟨⟨⟨rfl, hB, hK, hNW⟩, hLow⟩, hX⟩, hNC⟩ := hv
  obtain ⟨hCW, hOut⟩ := hB
  have hx := B.exec
  have hb := B.bytes
  have hr := B.returns
  have hts := atoms_spec (ws := wsL_adder) B.pre
  have hown : s.vm.findClass RL = some m.cls := findClass_of_methodNamed B.named
  have hlocks := B.notSynchronized
  have htab : c.exceptionTable.toList = tableOf [(0, 12, 15, 13), (0, 12, 19, 29), (0, 12, 23, 15)] := vx_table (x := yL_adder) B (hts _ List.mem_cons_self)
  have FX : CallFix p m c cL_adder 6 s ([.ref (a 0), .int p9, .int m9, .int w9, .ref (a 115)] : List Value).toArray wsL_adder RL := ⟨hx, hb, hml, hown, hts⟩
  have hl := lv_entry ([.ref (a 0), .int p9, .int m9, .int w9, .ref (a 115)]) (n := 6) (Nat.le_of_ble_eq_true rfl)
  rw [lg_entry_eq]
  generalize (lg_sl ([.ref (a 0), .int p9, .int m9, .int w9, .ref (a 115)]) ++ List.replicate (6 - (lg_sl ([.ref (a 0), .int p9, .int m9, .int w9, .ref (a 115)])).length) Slot.unset).toArray = ls at hl ⊢
  have hl : lv_has ls 6 [(0, .ref (a 0)), (1, .int p9), (2, .int m9), (3, .int w9), (4, .ref (a 115))] := hl
  have hS : va_S (orA (rng a 0 93) (rng a 115 1)) s.heap s.heap [] := va_S.rf
  refine lv_aload hx hb dL_adder_0 (lv_at hl 4 rfl) ?_
  refine lv_iconst (v := nI 0) hx hb dL_adder_2 (by decide) ?_
  refine lv_aload_n hx hb dL_adder_3 rfl (lv_at hl 0 rfl) ?_
  refine lv_iload_n hx hb dL_adder_4 rfl (lv_at hl 1 rfl) ?_
  refine lv_iload_n hx hb dL_adder_5 rfl (lv_at hl 2 rfl) ?_
  refine lv_iload_n hx hb dL_adder_6 rfl (lv_at hl 3 rfl) ?_
  refine vx_calli (vx_runV (As := [.int p9, .int m9, .int w9]) (rest := [.int (nI 0), .ref (a 115)]) FX (k_X11_adder l hfl G a ha t9 st p9 m9 w9 hO) (cwV 3 hts gL_adder_X11_adder rfl rfl rfl (by decide +kernel) ⟨Nat.le_of_ble_eq_true rfl, Nat.le_of_ble_eq_true rfl⟩) (preVX hK hNW hCW (hLow.at hS (fun q9 _ q => q.elim (rng_M q9) (rng_M q9))) (hX.at hS (fun q9 _ q => q.elim (rng_M q9) (rng_M q9))) (cw_recv hK hCW)) rfl rfl hl.1 rfl (lv_room (Nat.le_of_ble_eq_true rfl)) dL_adder_7 ⟨Nat.le_of_ble_eq_true rfl, Nat.le_of_ble_eq_true rfl⟩) hS (fun q _ h => Or.inl h) (fun q h => Or.inl h) (fun q _ h => Or.inl h) (fun E ce q9 u t H locs ht hal _ hBX hsz hk hS hce hcv hcl => ?_) (fun r u t H locs ht hal hp hB hsz hk hS => ?_)
  · skip
    have hOut : outP G a f0 H := kp hk hOut (dj_cons (rng_no ha (by omega)) dj_nil)
    have hCW : CW G a st H := by rw [← ht]; exact hBX.2
    rcases hBX.1 with ⟨rfl, h⟩ | ⟨rfl, h⟩ | ⟨rfl, h⟩
    · skip
      refine vx_catch hown [] ⟨0, 12, 15, 13⟩ [⟨0, 12, 19, 29⟩, ⟨0, 12, 23, 15⟩] htab (fun z hz => absurd hz List.not_mem_nil) (by decide) (show 13 ≠ 0 by decide) (hts (.classLink RL 13 "java/lang/IndexOutOfBoundsException") (List.mem_of_getElem? (i := 1) (by decide +kernel))) (va_Nw.use rfl hX.2.1.2.1) hce hcv hcl ?_
      refine lv_astore (lv' := [(5, .ref q9), (0, .ref (a 0)), (1, .int p9), (2, .int m9), (3, .int w9), (4, .ref (a 115))]) hx hb dL_adder_15 hl (by decide) rfl (fun ls hl => ?_)
      refine lv_iconst (v := nI 1) hx hb dL_adder_17 (by decide) ?_
      refine retw (Nat.le_of_ble_eq_true rfl) (Nat.le_of_ble_eq_true rfl) ?_
      exact en_wi f0 hx hb hr hlocks hS ⟨by rw [h]; try rfl, fun q => absurd (h.symm.trans q) (by decide)⟩ ⟨(by rw [stN_n h (by decide)]; exact hCW), hOut⟩ dL_adder_18
    · skip
      refine vx_catch hown [⟨0, 12, 15, 13⟩] ⟨0, 12, 19, 29⟩ [⟨0, 12, 23, 15⟩] htab (List.forall_mem_cons.mpr ⟨Or.inr ⟨(show 13 ≠ 0 by decide), _, (hts (.classLink RL 13 "java/lang/IndexOutOfBoundsException") (List.mem_of_getElem? (i := 1) (by decide +kernel))), hNC.1⟩, (fun z hz => absurd hz List.not_mem_nil)⟩) (by decide) (show 29 ≠ 0 by decide) (hts (.classLink RL 29 "java/lang/IllegalArgumentException") (List.mem_of_getElem? (i := 2) (by decide +kernel))) (va_Nw.use rfl hX.2.1.2.2.1) hce hcv hcl ?_
      refine lv_astore (lv' := [(5, .ref q9), (0, .ref (a 0)), (1, .int p9), (2, .int m9), (3, .int w9), (4, .ref (a 115))]) hx hb dL_adder_19 hl (by decide) rfl (fun ls hl => ?_)
      refine lv_iconst (v := nI 2) hx hb dL_adder_21 (by decide) ?_
      refine retw (Nat.le_of_ble_eq_true rfl) (Nat.le_of_ble_eq_true rfl) ?_
      exact en_wi f0 hx hb hr hlocks hS ⟨by rw [h]; try rfl, fun q => absurd (h.symm.trans q) (by decide)⟩ ⟨(by rw [stN_n h (by decide)]; exact hCW), hOut⟩ dL_adder_22
    · skip
      refine vx_catch hown [⟨0, 12, 15, 13⟩, ⟨0, 12, 19, 29⟩] ⟨0, 12, 23, 15⟩ [] htab (List.forall_mem_cons.mpr ⟨Or.inr ⟨(show 13 ≠ 0 by decide), _, (hts (.classLink RL 13 "java/lang/IndexOutOfBoundsException") (List.mem_of_getElem? (i := 1) (by decide +kernel))), hNC.2.1⟩, (List.forall_mem_cons.mpr ⟨Or.inr ⟨(show 29 ≠ 0 by decide), _, (hts (.classLink RL 29 "java/lang/IllegalArgumentException") (List.mem_of_getElem? (i := 2) (by decide +kernel))), hNC.2.2⟩, (fun z hz => absurd hz List.not_mem_nil)⟩)⟩) (by decide) (show 15 ≠ 0 by decide) (hts (.classLink RL 15 "java/lang/IllegalStateException") (List.mem_of_getElem? (i := 3) (by decide +kernel))) (va_Nw.use rfl hX.2.1.2.2.2) hce hcv hcl ?_
      refine lv_astore (lv' := [(5, .ref q9), (0, .ref (a 0)), (1, .int p9), (2, .int m9), (3, .int w9), (4, .ref (a 115))]) hx hb dL_adder_23 hl (by decide) rfl (fun ls hl => ?_)
      refine lv_iconst (v := nI 3) hx hb dL_adder_25 (by decide) ?_
      refine retw (Nat.le_of_ble_eq_true rfl) (Nat.le_of_ble_eq_true rfl) ?_
      exact en_wi f0 hx hb hr hlocks hS ⟨by rw [h]; try rfl, fun q => absurd (h.symm.trans q) (by decide)⟩ ⟨(by rw [stN_n h (by decide)]; exact hCW), hOut⟩ dL_adder_26
  · skip
    have hOut : outP G a f0 H := kp hk hOut (dj_cons (rng_no ha (by omega)) dj_nil)
    have hCW : CW G a (stN (cAd st.1 p9 m9 w9) (upN st.1 (ix p9) (if ix m9 = 0 then ripN (st.1 (ix p9)) (ix w9) else joiN (ix m9 = 1) (st.1 (ix p9)) (ix w9))) st.1, st.2) H := by rw [← ht]; exact hB
    refine lv_i2l (v := r.toInt64) hx hb dL_adder_10 rfl ?_
    refine pp_last hx hb hK hOut hS (Or.inr (rng_in (by omega))) (vp_in_nI (by omega) (by omega)) dL_adder_11 (fun H locs hOut hk2 _ hS => ?_)
    have hCW := CW_o ha hk2 hCW
    refine lv_goto (tgt := 27) hx hb dL_adder_12 (by decide) ?_
    refine lv_iconst (v := nI 0) hx hb dL_adder_27 (by decide) ?_
    refine retw (Nat.le_of_ble_eq_true rfl) (Nat.le_of_ble_eq_true rfl) ?_
    exact en_wi (vp_updL f0 (nI 0).toNatClampNeg r.toInt64) hx hb hr hlocks hS ⟨by rw [hp.1]; try rfl, fun _ => ⟨r, rfl, hp.2⟩⟩ ⟨hCW, hOut⟩ dL_adder_28
set_option maxHeartbeats 4000000 in
set_option maxRecDepth 100000 in
theorem w_multiplier (l : Launch) (hfl : l.stackTraces = false) (G : GG) (a : Nat → Nat) (ha : Inj a) (t9 : Nat) (st : ST) (p9 w9 : Int32) (f0 : Nat → Int64) (hO : OKS st) : vx_Met l yL_multiplier wsL_multiplier ({ frames := 8, cells := 3, slots := 18, locals := 168 } : Room) (PcW G a t9 [.ref (a 0), .int p9, .int w9, .ref (a 115)] (fun H => CW G a st H ∧ outP G a f0 H)) (QI (fun (r : Int32) (f : Nat → Int64) => r = nI (cMu st.1 p9 w9) ∧ (cMu st.1 p9 w9 = 0 → ∃ x : Int32, f 0 = x.toInt64 ∧ x = nI (nG (mulN (st.1 (ix p9)) (ix w9))))) (fun f H => CW G a (stN (cMu st.1 p9 w9) (upN st.1 (ix p9) (mulN (st.1 (ix p9)) (ix w9))) st.1, st.2) H ∧ outP G a f H) (orA (rng a 0 93) (rng a 115 1))) (fun _ _ _ => False) 3 18 (orA (rng a 0 93) (rng a 115 1)) := by
  refine vx_ofWH (cc := cL_multiplier) (maxL := 5) (ret := some .int) (hh := [(0, 10, 13, 13), (0, 10, 17, 29), (0, 10, 21, 15)]) (by decide) rfl ?_
  intro p e s m args below meth c s₁ B hml hv
  obtain ⟨⟨⟨⟨rfl, hB, hK, hNW⟩, hLow⟩, hX⟩, hNC⟩ := hv
  obtain ⟨hCW, hOut⟩ := hB
  have hx := B.exec
  have hb := B.bytes
  have hr := B.returns
  have hts := atoms_spec (ws := wsL_multiplier) B.pre
  have hown : s.vm.findClass RL = some m.cls := findClass_of_methodNamed B.named
  have hlocks := B.notSynchronized
  have htab : c.exceptionTable.toList = tableOf [(0, 10, 13, 13), (0, 10, 17, 29), (0, 10, 21, 15)] := vx_table (x := yL_multiplier) B (hts _ List.mem_cons_self)
  have FX : CallFix p m c cL_multiplier 5 s ([.ref (a 0), .int p9, .int w9, .ref (a 115)] : List Value).toArray wsL_multiplier RL := ⟨hx, hb, hml, hown, hts⟩
  have hl := lv_entry ([.ref (a 0), .int p9, .int w9, .ref (a 115)]) (n := 5) (Nat.le_of_ble_eq_true rfl)
  rw [lg_entry_eq]
  generalize (lg_sl ([.ref (a 0), .int p9, .int w9, .ref (a 115)]) ++ List.replicate (5 - (lg_sl ([.ref (a 0), .int p9, .int w9, .ref (a 115)])).length) Slot.unset).toArray = ls at hl ⊢
  have hl : lv_has ls 5 [(0, .ref (a 0)), (1, .int p9), (2, .int w9), (3, .ref (a 115))] := hl
  have hS : va_S (orA (rng a 0 93) (rng a 115 1)) s.heap s.heap [] := va_S.rf
  refine lv_aload_n hx hb dL_multiplier_0 rfl (lv_at hl 3 rfl) ?_
  refine lv_iconst (v := nI 0) hx hb dL_multiplier_1 (by decide) ?_
  refine lv_aload_n hx hb dL_multiplier_2 rfl (lv_at hl 0 rfl) ?_
  refine lv_iload_n hx hb dL_multiplier_3 rfl (lv_at hl 1 rfl) ?_
  refine lv_iload_n hx hb dL_multiplier_4 rfl (lv_at hl 2 rfl) ?_
  refine vx_calli (vx_runV (As := [.int p9, .int w9]) (rest := [.int (nI 0), .ref (a 115)]) FX (k_X11_multiplier l hfl G a ha t9 st p9 w9 hO) (cwV 2 hts gL_multiplier_X11_multiplier rfl rfl rfl (by decide +kernel) ⟨Nat.le_of_ble_eq_true rfl, Nat.le_of_ble_eq_true rfl⟩) (preVX hK hNW hCW (hLow.at hS (fun q9 _ q => q.elim (rng_M q9) (rng_M q9))) (hX.at hS (fun q9 _ q => q.elim (rng_M q9) (rng_M q9))) (cw_recv hK hCW)) rfl rfl hl.1 rfl (lv_room (Nat.le_of_ble_eq_true rfl)) dL_multiplier_5 ⟨Nat.le_of_ble_eq_true rfl, Nat.le_of_ble_eq_true rfl⟩) hS (fun q _ h => Or.inl h) (fun q h => Or.inl h) (fun q _ h => Or.inl h) (fun E ce q9 u t H locs ht hal _ hBX hsz hk hS hce hcv hcl => ?_) (fun r u t H locs ht hal hp hB hsz hk hS => ?_)
  · skip
    have hOut : outP G a f0 H := kp hk hOut (dj_cons (rng_no ha (by omega)) dj_nil)
    have hCW : CW G a st H := by rw [← ht]; exact hBX.2
    rcases hBX.1 with ⟨rfl, h⟩ | ⟨rfl, h⟩ | ⟨rfl, h⟩
    · skip
      refine vx_catch hown [] ⟨0, 10, 13, 13⟩ [⟨0, 10, 17, 29⟩, ⟨0, 10, 21, 15⟩] htab (fun z hz => absurd hz List.not_mem_nil) (by decide) (show 13 ≠ 0 by decide) (hts (.classLink RL 13 "java/lang/IndexOutOfBoundsException") (List.mem_of_getElem? (i := 1) (by decide +kernel))) (va_Nw.use rfl hX.2.1.2.1) hce hcv hcl ?_
      refine lv_astore (lv' := [(4, .ref q9), (0, .ref (a 0)), (1, .int p9), (2, .int w9), (3, .ref (a 115))]) hx hb dL_multiplier_13 hl (by decide) rfl (fun ls hl => ?_)
      refine lv_iconst (v := nI 1) hx hb dL_multiplier_15 (by decide) ?_
      refine retw (Nat.le_of_ble_eq_true rfl) (Nat.le_of_ble_eq_true rfl) ?_
      exact en_wi f0 hx hb hr hlocks hS ⟨by rw [h]; try rfl, fun q => absurd (h.symm.trans q) (by decide)⟩ ⟨(by rw [stN_n h (by decide)]; exact hCW), hOut⟩ dL_multiplier_16
    · skip
      refine vx_catch hown [⟨0, 10, 13, 13⟩] ⟨0, 10, 17, 29⟩ [⟨0, 10, 21, 15⟩] htab (List.forall_mem_cons.mpr ⟨Or.inr ⟨(show 13 ≠ 0 by decide), _, (hts (.classLink RL 13 "java/lang/IndexOutOfBoundsException") (List.mem_of_getElem? (i := 1) (by decide +kernel))), hNC.1⟩, (fun z hz => absurd hz List.not_mem_nil)⟩) (by decide) (show 29 ≠ 0 by decide) (hts (.classLink RL 29 "java/lang/IllegalArgumentException") (List.mem_of_getElem? (i := 2) (by decide +kernel))) (va_Nw.use rfl hX.2.1.2.2.1) hce hcv hcl ?_
      refine lv_astore (lv' := [(4, .ref q9), (0, .ref (a 0)), (1, .int p9), (2, .int w9), (3, .ref (a 115))]) hx hb dL_multiplier_17 hl (by decide) rfl (fun ls hl => ?_)
      refine lv_iconst (v := nI 2) hx hb dL_multiplier_19 (by decide) ?_
      refine retw (Nat.le_of_ble_eq_true rfl) (Nat.le_of_ble_eq_true rfl) ?_
      exact en_wi f0 hx hb hr hlocks hS ⟨by rw [h]; try rfl, fun q => absurd (h.symm.trans q) (by decide)⟩ ⟨(by rw [stN_n h (by decide)]; exact hCW), hOut⟩ dL_multiplier_20
    · skip
      refine vx_catch hown [⟨0, 10, 13, 13⟩, ⟨0, 10, 17, 29⟩] ⟨0, 10, 21, 15⟩ [] htab (List.forall_mem_cons.mpr ⟨Or.inr ⟨(show 13 ≠ 0 by decide), _, (hts (.classLink RL 13 "java/lang/IndexOutOfBoundsException") (List.mem_of_getElem? (i := 1) (by decide +kernel))), hNC.2.1⟩, (List.forall_mem_cons.mpr ⟨Or.inr ⟨(show 29 ≠ 0 by decide), _, (hts (.classLink RL 29 "java/lang/IllegalArgumentException") (List.mem_of_getElem? (i := 2) (by decide +kernel))), hNC.2.2⟩, (fun z hz => absurd hz List.not_mem_nil)⟩)⟩) (by decide) (show 15 ≠ 0 by decide) (hts (.classLink RL 15 "java/lang/IllegalStateException") (List.mem_of_getElem? (i := 3) (by decide +kernel))) (va_Nw.use rfl hX.2.1.2.2.2) hce hcv hcl ?_
      refine lv_astore (lv' := [(4, .ref q9), (0, .ref (a 0)), (1, .int p9), (2, .int w9), (3, .ref (a 115))]) hx hb dL_multiplier_21 hl (by decide) rfl (fun ls hl => ?_)
      refine lv_iconst (v := nI 3) hx hb dL_multiplier_23 (by decide) ?_
      refine retw (Nat.le_of_ble_eq_true rfl) (Nat.le_of_ble_eq_true rfl) ?_
      exact en_wi f0 hx hb hr hlocks hS ⟨by rw [h]; try rfl, fun q => absurd (h.symm.trans q) (by decide)⟩ ⟨(by rw [stN_n h (by decide)]; exact hCW), hOut⟩ dL_multiplier_24
  · skip
    have hOut : outP G a f0 H := kp hk hOut (dj_cons (rng_no ha (by omega)) dj_nil)
    have hCW : CW G a (stN (cMu st.1 p9 w9) (upN st.1 (ix p9) (mulN (st.1 (ix p9)) (ix w9))) st.1, st.2) H := by rw [← ht]; exact hB
    refine lv_i2l (v := r.toInt64) hx hb dL_multiplier_8 rfl ?_
    refine pp_last hx hb hK hOut hS (Or.inr (rng_in (by omega))) (vp_in_nI (by omega) (by omega)) dL_multiplier_9 (fun H locs hOut hk2 _ hS => ?_)
    have hCW := CW_o ha hk2 hCW
    refine lv_goto (tgt := 25) hx hb dL_multiplier_10 (by decide) ?_
    refine lv_iconst (v := nI 0) hx hb dL_multiplier_25 (by decide) ?_
    refine retw (Nat.le_of_ble_eq_true rfl) (Nat.le_of_ble_eq_true rfl) ?_
    exact en_wi (vp_updL f0 (nI 0).toNatClampNeg r.toInt64) hx hb hr hlocks hS ⟨by rw [hp.1]; try rfl, fun _ => ⟨r, rfl, hp.2⟩⟩ ⟨hCW, hOut⟩ dL_multiplier_26
set_option maxHeartbeats 4000000 in
set_option maxRecDepth 100000 in
theorem w_clear (l : Launch) (hfl : l.stackTraces = false) (G : GG) (a : Nat → Nat) (ha : Inj a) (t9 : Nat) (st : ST) (p9 : Int32) (f0 : Nat → Int64) (hO : OKS st) : vx_Met l yL_clear wsL_clear ({ frames := 8, cells := 1, slots := 6, locals := 126 } : Room) (PcW G a t9 [.ref (a 0), .int p9, .ref (a 115)] (fun H => CW G a st H ∧ outP G a f0 H)) (QI (fun (r : Int32) (f : Nat → Int64) => r = nI (cCl p9) ∧ (cCl p9 = 0 → ∃ x : Int32, f 0 = x.toInt64 ∧ x = nI (nG (st.1 (ix p9))))) (fun f H => CW G a (stN (cCl p9) (upN st.1 (ix p9) (clrN (st.1 (ix p9)))) st.1, st.2) H ∧ outP G a f H) (orA (rng a 0 93) (rng a 115 1))) (fun _ _ _ => False) 1 6 (orA (rng a 0 93) (rng a 115 1)) := by
  refine vx_ofWH (cc := cL_clear) (maxL := 4) (ret := some .int) (hh := [(0, 9, 12, 13)]) (by decide) rfl ?_
  intro p e s m args below meth c s₁ B hml hv
  obtain ⟨⟨⟨⟨rfl, hB, hK, hNW⟩, hLow⟩, hX⟩, hNC⟩ := hv
  obtain ⟨hCW, hOut⟩ := hB
  have hx := B.exec
  have hb := B.bytes
  have hr := B.returns
  have hts := atoms_spec (ws := wsL_clear) B.pre
  have hown : s.vm.findClass RL = some m.cls := findClass_of_methodNamed B.named
  have hlocks := B.notSynchronized
  have htab : c.exceptionTable.toList = tableOf [(0, 9, 12, 13)] := vx_table (x := yL_clear) B (hts _ List.mem_cons_self)
  have FX : CallFix p m c cL_clear 4 s ([.ref (a 0), .int p9, .ref (a 115)] : List Value).toArray wsL_clear RL := ⟨hx, hb, hml, hown, hts⟩
  have hl := lv_entry ([.ref (a 0), .int p9, .ref (a 115)]) (n := 4) (Nat.le_of_ble_eq_true rfl)
  rw [lg_entry_eq]
  generalize (lg_sl ([.ref (a 0), .int p9, .ref (a 115)]) ++ List.replicate (4 - (lg_sl ([.ref (a 0), .int p9, .ref (a 115)])).length) Slot.unset).toArray = ls at hl ⊢
  have hl : lv_has ls 4 [(0, .ref (a 0)), (1, .int p9), (2, .ref (a 115))] := hl
  have hS : va_S (orA (rng a 0 93) (rng a 115 1)) s.heap s.heap [] := va_S.rf
  refine lv_aload_n hx hb dL_clear_0 rfl (lv_at hl 2 rfl) ?_
  refine lv_iconst (v := nI 0) hx hb dL_clear_1 (by decide) ?_
  refine lv_aload_n hx hb dL_clear_2 rfl (lv_at hl 0 rfl) ?_
  refine lv_iload_n hx hb dL_clear_3 rfl (lv_at hl 1 rfl) ?_
  refine vx_calli (vx_runV (As := [.int p9]) (rest := [.int (nI 0), .ref (a 115)]) FX (k_X11_clear l hfl G a ha t9 st p9 hO) (cwV 1 hts gL_clear_X11_clear rfl rfl rfl (by decide +kernel) ⟨Nat.le_of_ble_eq_true rfl, Nat.le_of_ble_eq_true rfl⟩) (preVX hK hNW hCW (hLow.at hS (fun q9 _ q => q.elim (rng_M q9) (rng_M q9))) (hX.at hS (fun q9 _ q => q.elim (rng_M q9) (rng_M q9))) (cw_recv hK hCW)) rfl rfl hl.1 rfl (lv_room (Nat.le_of_ble_eq_true rfl)) dL_clear_4 ⟨Nat.le_of_ble_eq_true rfl, Nat.le_of_ble_eq_true rfl⟩) hS (fun q _ h => Or.inl h) (fun q h => Or.inl h) (fun q _ h => Or.inl h) (fun E ce q9 u t H locs ht hal _ hBX hsz hk hS hce hcv hcl => ?_) (fun r u t H locs ht hal hp hB hsz hk hS => ?_)
  · skip
    have hOut : outP G a f0 H := kp hk hOut (dj_cons (rng_no ha (by omega)) dj_nil)
    have hCW : CW G a st H := by rw [← ht]; exact hBX.2
    rcases hBX.1 with ⟨rfl, h⟩ | ⟨rfl, h⟩ | ⟨rfl, h⟩
    · skip
      refine vx_catch hown [] ⟨0, 9, 12, 13⟩ [] htab (fun z hz => absurd hz List.not_mem_nil) (by decide) (show 13 ≠ 0 by decide) (hts (.classLink RL 13 "java/lang/IndexOutOfBoundsException") (List.mem_of_getElem? (i := 1) (by decide +kernel))) (va_Nw.use rfl hX.2.1.2.1) hce hcv hcl ?_
      refine lv_astore_n (lv' := [(3, .ref q9), (0, .ref (a 0)), (1, .int p9), (2, .ref (a 115))]) hx hb dL_clear_12 rfl hl (by decide) rfl (fun ls hl => ?_)
      refine lv_iconst (v := nI 1) hx hb dL_clear_13 (by decide) ?_
      refine retw (Nat.le_of_ble_eq_true rfl) (Nat.le_of_ble_eq_true rfl) ?_
      exact en_wi f0 hx hb hr hlocks hS ⟨by rw [h]; try rfl, fun q => absurd (h.symm.trans q) (by decide)⟩ ⟨(by rw [stN_n h (by decide)]; exact hCW), hOut⟩ dL_clear_14
    · skip
      exact absurd h (fun h => cd_clear.1 h)
    · skip
      exact absurd h (fun h => cd_clear.2 h)
  · skip
    have hOut : outP G a f0 H := kp hk hOut (dj_cons (rng_no ha (by omega)) dj_nil)
    have hCW : CW G a (stN (cCl p9) (upN st.1 (ix p9) (clrN (st.1 (ix p9)))) st.1, st.2) H := by rw [← ht]; exact hB
    refine lv_i2l (v := r.toInt64) hx hb dL_clear_7 rfl ?_
    refine pp_last hx hb hK hOut hS (Or.inr (rng_in (by omega))) (vp_in_nI (by omega) (by omega)) dL_clear_8 (fun H locs hOut hk2 _ hS => ?_)
    have hCW := CW_o ha hk2 hCW
    refine lv_goto (tgt := 15) hx hb dL_clear_9 (by decide) ?_
    refine lv_iconst (v := nI 0) hx hb dL_clear_15 (by decide) ?_
    refine retw (Nat.le_of_ble_eq_true rfl) (Nat.le_of_ble_eq_true rfl) ?_
    exact en_wi (vp_updL f0 (nI 0).toNatClampNeg r.toInt64) hx hb hr hlocks hS ⟨by rw [hp.1]; try rfl, fun _ => ⟨r, rfl, hp.2⟩⟩ ⟨hCW, hOut⟩ dL_clear_16
set_option maxHeartbeats 4000000 in
set_option maxRecDepth 100000 in
theorem w_cost (l : Launch) (hfl : l.stackTraces = false) (G : GG) (a : Nat → Nat) (ha : Inj a) (t9 : Nat) (st : ST) (kd9 d9 x9 : Int32) (f0 : Nat → Int64) (hO : OKS st) : vx_Met l yL_cost wsL_cost ({ frames := 8, cells := 3, slots := 18, locals := 128 } : Room) (PcW G a t9 [.ref (a 0), .int kd9, .int d9, .int x9, .ref (a 115)] (fun H => CW G a st H ∧ outP G a f0 H)) (QI (fun (r : Int32) (f : Nat → Int64) => r = nI (cCo kd9 d9 x9) ∧ (cCo kd9 d9 x9 = 0 → ∃ x : Int32, f 0 = x.toInt64 ∧ x = nI (st.2.1 (ix kd9)))) (fun f H => CW G a (st.1, stN (cCo kd9 d9 x9) (un st.2.1 (ix kd9) (ix d9)) st.2.1, stN (cCo kd9 d9 x9) (un st.2.2 (ix kd9) (ix x9)) st.2.2) H ∧ outP G a f H) (orA (rng a 0 93) (rng a 115 1))) (fun _ _ _ => False) 3 18 (orA (rng a 0 93) (rng a 115 1)) := by
  refine vx_ofWH (cc := cL_cost) (maxL := 6) (ret := some .int) (hh := [(0, 12, 15, 13), (0, 12, 19, 29)]) (by decide) rfl ?_
  intro p e s m args below meth c s₁ B hml hv
  obtain ⟨⟨⟨⟨rfl, hB, hK, hNW⟩, hLow⟩, hX⟩, hNC⟩ := hv
  obtain ⟨hCW, hOut⟩ := hB
  have hx := B.exec
  have hb := B.bytes
  have hr := B.returns
  have hts := atoms_spec (ws := wsL_cost) B.pre
  have hown : s.vm.findClass RL = some m.cls := findClass_of_methodNamed B.named
  have hlocks := B.notSynchronized
  have htab : c.exceptionTable.toList = tableOf [(0, 12, 15, 13), (0, 12, 19, 29)] := vx_table (x := yL_cost) B (hts _ List.mem_cons_self)
  have FX : CallFix p m c cL_cost 6 s ([.ref (a 0), .int kd9, .int d9, .int x9, .ref (a 115)] : List Value).toArray wsL_cost RL := ⟨hx, hb, hml, hown, hts⟩
  have hl := lv_entry ([.ref (a 0), .int kd9, .int d9, .int x9, .ref (a 115)]) (n := 6) (Nat.le_of_ble_eq_true rfl)
  rw [lg_entry_eq]
  generalize (lg_sl ([.ref (a 0), .int kd9, .int d9, .int x9, .ref (a 115)]) ++ List.replicate (6 - (lg_sl ([.ref (a 0), .int kd9, .int d9, .int x9, .ref (a 115)])).length) Slot.unset).toArray = ls at hl ⊢
  have hl : lv_has ls 6 [(0, .ref (a 0)), (1, .int kd9), (2, .int d9), (3, .int x9), (4, .ref (a 115))] := hl
  have hS : va_S (orA (rng a 0 93) (rng a 115 1)) s.heap s.heap [] := va_S.rf
  refine lv_aload hx hb dL_cost_0 (lv_at hl 4 rfl) ?_
  refine lv_iconst (v := nI 0) hx hb dL_cost_2 (by decide) ?_
  refine lv_aload_n hx hb dL_cost_3 rfl (lv_at hl 0 rfl) ?_
  refine lv_iload_n hx hb dL_cost_4 rfl (lv_at hl 1 rfl) ?_
  refine lv_iload_n hx hb dL_cost_5 rfl (lv_at hl 2 rfl) ?_
  refine lv_iload_n hx hb dL_cost_6 rfl (lv_at hl 3 rfl) ?_
  refine vx_calli (vx_runV (As := [.int kd9, .int d9, .int x9]) (rest := [.int (nI 0), .ref (a 115)]) FX (k_X11_cost l hfl G a ha t9 st kd9 d9 x9 hO) (cwV 3 hts gL_cost_X11_cost rfl rfl rfl (by decide +kernel) ⟨Nat.le_of_ble_eq_true rfl, Nat.le_of_ble_eq_true rfl⟩) (preVX hK hNW hCW (hLow.at hS (fun q9 _ q => q.elim (rng_M q9) (rng_M q9))) (hX.at hS (fun q9 _ q => q.elim (rng_M q9) (rng_M q9))) (cw_recv hK hCW)) rfl rfl hl.1 rfl (lv_room (Nat.le_of_ble_eq_true rfl)) dL_cost_7 ⟨Nat.le_of_ble_eq_true rfl, Nat.le_of_ble_eq_true rfl⟩) hS (fun q _ h => Or.inl h) (fun q h => Or.inl h) (fun q _ h => Or.inl h) (fun E ce q9 u t H locs ht hal _ hBX hsz hk hS hce hcv hcl => ?_) (fun r u t H locs ht hal hp hB hsz hk hS => ?_)
  · skip
    have hOut : outP G a f0 H := kp hk hOut (dj_cons (rng_no ha (by omega)) dj_nil)
    have hCW : CW G a st H := by rw [← ht]; exact hBX.2
    rcases hBX.1 with ⟨rfl, h⟩ | ⟨rfl, h⟩ | ⟨rfl, h⟩
    · skip
      refine vx_catch hown [] ⟨0, 12, 15, 13⟩ [⟨0, 12, 19, 29⟩] htab (fun z hz => absurd hz List.not_mem_nil) (by decide) (show 13 ≠ 0 by decide) (hts (.classLink RL 13 "java/lang/IndexOutOfBoundsException") (List.mem_of_getElem? (i := 1) (by decide +kernel))) (va_Nw.use rfl hX.2.1.2.1) hce hcv hcl ?_
      refine lv_astore (lv' := [(5, .ref q9), (0, .ref (a 0)), (1, .int kd9), (2, .int d9), (3, .int x9), (4, .ref (a 115))]) hx hb dL_cost_15 hl (by decide) rfl (fun ls hl => ?_)
      refine lv_iconst (v := nI 1) hx hb dL_cost_17 (by decide) ?_
      refine retw (Nat.le_of_ble_eq_true rfl) (Nat.le_of_ble_eq_true rfl) ?_
      exact en_wi f0 hx hb hr hlocks hS ⟨by rw [h]; try rfl, fun q => absurd (h.symm.trans q) (by decide)⟩ ⟨(by rw [stN_n h (by decide), stN_n h (by decide)]; exact hCW), hOut⟩ dL_cost_18
    · skip
      refine vx_catch hown [⟨0, 12, 15, 13⟩] ⟨0, 12, 19, 29⟩ [] htab (List.forall_mem_cons.mpr ⟨Or.inr ⟨(show 13 ≠ 0 by decide), _, (hts (.classLink RL 13 "java/lang/IndexOutOfBoundsException") (List.mem_of_getElem? (i := 1) (by decide +kernel))), hNC.1⟩, (fun z hz => absurd hz List.not_mem_nil)⟩) (by decide) (show 29 ≠ 0 by decide) (hts (.classLink RL 29 "java/lang/IllegalArgumentException") (List.mem_of_getElem? (i := 2) (by decide +kernel))) (va_Nw.use rfl hX.2.1.2.2.1) hce hcv hcl ?_
      refine lv_astore (lv' := [(5, .ref q9), (0, .ref (a 0)), (1, .int kd9), (2, .int d9), (3, .int x9), (4, .ref (a 115))]) hx hb dL_cost_19 hl (by decide) rfl (fun ls hl => ?_)
      refine lv_iconst (v := nI 2) hx hb dL_cost_21 (by decide) ?_
      refine retw (Nat.le_of_ble_eq_true rfl) (Nat.le_of_ble_eq_true rfl) ?_
      exact en_wi f0 hx hb hr hlocks hS ⟨by rw [h]; try rfl, fun q => absurd (h.symm.trans q) (by decide)⟩ ⟨(by rw [stN_n h (by decide), stN_n h (by decide)]; exact hCW), hOut⟩ dL_cost_22
    · skip
      exact absurd h (fun h => cd_cost h)
  · skip
    have hOut : outP G a f0 H := kp hk hOut (dj_cons (rng_no ha (by omega)) dj_nil)
    have hCW : CW G a (st.1, stN (cCo kd9 d9 x9) (un st.2.1 (ix kd9) (ix d9)) st.2.1, stN (cCo kd9 d9 x9) (un st.2.2 (ix kd9) (ix x9)) st.2.2) H := by rw [← ht]; exact hB
    refine lv_i2l (v := r.toInt64) hx hb dL_cost_10 rfl ?_
    refine pp_last hx hb hK hOut hS (Or.inr (rng_in (by omega))) (vp_in_nI (by omega) (by omega)) dL_cost_11 (fun H locs hOut hk2 _ hS => ?_)
    have hCW := CW_o ha hk2 hCW
    refine lv_goto (tgt := 23) hx hb dL_cost_12 (by decide) ?_
    refine lv_iconst (v := nI 0) hx hb dL_cost_23 (by decide) ?_
    refine retw (Nat.le_of_ble_eq_true rfl) (Nat.le_of_ble_eq_true rfl) ?_
    exact en_wi (vp_updL f0 (nI 0).toNatClampNeg r.toInt64) hx hb hr hlocks hS ⟨by rw [hp.1]; try rfl, fun _ => ⟨r, rfl, hp.2⟩⟩ ⟨hCW, hOut⟩ dL_cost_24
set_option maxHeartbeats 4000000 in
set_option maxRecDepth 100000 in
theorem w_stick (l : Launch) (hfl : l.stackTraces = false) (G : GG) (a : Nat → Nat) (ha : Inj a) (t9 : Nat) (st : ST) (p9 g9 b9 : Int32) (f0 : Nat → Int64) (hO : OKS st) : vx_Met l yL_stick wsL_stick ({ frames := 8, cells := 3, slots := 18, locals := 129 } : Room) (PcW G a t9 [.ref (a 0), .int p9, .int g9, .int b9, .ref (a 115)] (fun H => CW G a st H ∧ outP G a f0 H)) (QI (fun (r : Int32) (f : Nat → Int64) => r = nI (cSt st.1 p9 g9 b9) ∧ (cSt st.1 p9 g9 b9 = 0 → ∃ x : Int32, f 0 = x.toInt64 ∧ x = nT (st.1 (ix p9)) (ix g9))) (fun f H => CW G a (stN (cSt st.1 p9 g9 b9) (upN st.1 (ix p9) (stkN (st.1 (ix p9)) (ix g9) b9)) st.1, st.2) H ∧ outP G a f H) (orA (rng a 0 93) (rng a 115 1))) (fun _ _ _ => False) 3 18 (orA (rng a 0 93) (rng a 115 1)) := by
  refine vx_ofWH (cc := cL_stick) (maxL := 6) (ret := some .int) (hh := [(0, 12, 15, 13), (0, 12, 19, 29)]) (by decide) rfl ?_
  intro p e s m args below meth c s₁ B hml hv
  obtain ⟨⟨⟨⟨rfl, hB, hK, hNW⟩, hLow⟩, hX⟩, hNC⟩ := hv
  obtain ⟨hCW, hOut⟩ := hB
  have hx := B.exec
  have hb := B.bytes
  have hr := B.returns
  have hts := atoms_spec (ws := wsL_stick) B.pre
  have hown : s.vm.findClass RL = some m.cls := findClass_of_methodNamed B.named
  have hlocks := B.notSynchronized
  have htab : c.exceptionTable.toList = tableOf [(0, 12, 15, 13), (0, 12, 19, 29)] := vx_table (x := yL_stick) B (hts _ List.mem_cons_self)
  have FX : CallFix p m c cL_stick 6 s ([.ref (a 0), .int p9, .int g9, .int b9, .ref (a 115)] : List Value).toArray wsL_stick RL := ⟨hx, hb, hml, hown, hts⟩
  have hl := lv_entry ([.ref (a 0), .int p9, .int g9, .int b9, .ref (a 115)]) (n := 6) (Nat.le_of_ble_eq_true rfl)
  rw [lg_entry_eq]
  generalize (lg_sl ([.ref (a 0), .int p9, .int g9, .int b9, .ref (a 115)]) ++ List.replicate (6 - (lg_sl ([.ref (a 0), .int p9, .int g9, .int b9, .ref (a 115)])).length) Slot.unset).toArray = ls at hl ⊢
  have hl : lv_has ls 6 [(0, .ref (a 0)), (1, .int p9), (2, .int g9), (3, .int b9), (4, .ref (a 115))] := hl
  have hS : va_S (orA (rng a 0 93) (rng a 115 1)) s.heap s.heap [] := va_S.rf
  refine lv_aload hx hb dL_stick_0 (lv_at hl 4 rfl) ?_
  refine lv_iconst (v := nI 0) hx hb dL_stick_2 (by decide) ?_
  refine lv_aload_n hx hb dL_stick_3 rfl (lv_at hl 0 rfl) ?_
  refine lv_iload_n hx hb dL_stick_4 rfl (lv_at hl 1 rfl) ?_
  refine lv_iload_n hx hb dL_stick_5 rfl (lv_at hl 2 rfl) ?_
  refine lv_iload_n hx hb dL_stick_6 rfl (lv_at hl 3 rfl) ?_
  refine vx_calli (vx_runV (As := [.int p9, .int g9, .int b9]) (rest := [.int (nI 0), .ref (a 115)]) FX (k_X11_stick l hfl G a ha t9 st p9 g9 b9 hO) (cwV 3 hts gL_stick_X11_stick rfl rfl rfl (by decide +kernel) ⟨Nat.le_of_ble_eq_true rfl, Nat.le_of_ble_eq_true rfl⟩) (preVX hK hNW hCW (hLow.at hS (fun q9 _ q => q.elim (rng_M q9) (rng_M q9))) (hX.at hS (fun q9 _ q => q.elim (rng_M q9) (rng_M q9))) (cw_recv hK hCW)) rfl rfl hl.1 rfl (lv_room (Nat.le_of_ble_eq_true rfl)) dL_stick_7 ⟨Nat.le_of_ble_eq_true rfl, Nat.le_of_ble_eq_true rfl⟩) hS (fun q _ h => Or.inl h) (fun q h => Or.inl h) (fun q _ h => Or.inl h) (fun E ce q9 u t H locs ht hal _ hBX hsz hk hS hce hcv hcl => ?_) (fun r u t H locs ht hal hp hB hsz hk hS => ?_)
  · skip
    have hOut : outP G a f0 H := kp hk hOut (dj_cons (rng_no ha (by omega)) dj_nil)
    have hCW : CW G a st H := by rw [← ht]; exact hBX.2
    rcases hBX.1 with ⟨rfl, h⟩ | ⟨rfl, h⟩ | ⟨rfl, h⟩
    · skip
      refine vx_catch hown [] ⟨0, 12, 15, 13⟩ [⟨0, 12, 19, 29⟩] htab (fun z hz => absurd hz List.not_mem_nil) (by decide) (show 13 ≠ 0 by decide) (hts (.classLink RL 13 "java/lang/IndexOutOfBoundsException") (List.mem_of_getElem? (i := 1) (by decide +kernel))) (va_Nw.use rfl hX.2.1.2.1) hce hcv hcl ?_
      refine lv_astore (lv' := [(5, .ref q9), (0, .ref (a 0)), (1, .int p9), (2, .int g9), (3, .int b9), (4, .ref (a 115))]) hx hb dL_stick_15 hl (by decide) rfl (fun ls hl => ?_)
      refine lv_iconst (v := nI 1) hx hb dL_stick_17 (by decide) ?_
      refine retw (Nat.le_of_ble_eq_true rfl) (Nat.le_of_ble_eq_true rfl) ?_
      exact en_wi f0 hx hb hr hlocks hS ⟨by rw [h]; try rfl, fun q => absurd (h.symm.trans q) (by decide)⟩ ⟨(by rw [stN_n h (by decide)]; exact hCW), hOut⟩ dL_stick_18
    · skip
      refine vx_catch hown [⟨0, 12, 15, 13⟩] ⟨0, 12, 19, 29⟩ [] htab (List.forall_mem_cons.mpr ⟨Or.inr ⟨(show 13 ≠ 0 by decide), _, (hts (.classLink RL 13 "java/lang/IndexOutOfBoundsException") (List.mem_of_getElem? (i := 1) (by decide +kernel))), hNC.1⟩, (fun z hz => absurd hz List.not_mem_nil)⟩) (by decide) (show 29 ≠ 0 by decide) (hts (.classLink RL 29 "java/lang/IllegalArgumentException") (List.mem_of_getElem? (i := 2) (by decide +kernel))) (va_Nw.use rfl hX.2.1.2.2.1) hce hcv hcl ?_
      refine lv_astore (lv' := [(5, .ref q9), (0, .ref (a 0)), (1, .int p9), (2, .int g9), (3, .int b9), (4, .ref (a 115))]) hx hb dL_stick_19 hl (by decide) rfl (fun ls hl => ?_)
      refine lv_iconst (v := nI 2) hx hb dL_stick_21 (by decide) ?_
      refine retw (Nat.le_of_ble_eq_true rfl) (Nat.le_of_ble_eq_true rfl) ?_
      exact en_wi f0 hx hb hr hlocks hS ⟨by rw [h]; try rfl, fun q => absurd (h.symm.trans q) (by decide)⟩ ⟨(by rw [stN_n h (by decide)]; exact hCW), hOut⟩ dL_stick_22
    · skip
      exact absurd h (fun h => cd_stick h)
  · skip
    have hOut : outP G a f0 H := kp hk hOut (dj_cons (rng_no ha (by omega)) dj_nil)
    have hCW : CW G a (stN (cSt st.1 p9 g9 b9) (upN st.1 (ix p9) (stkN (st.1 (ix p9)) (ix g9) b9)) st.1, st.2) H := by rw [← ht]; exact hB
    refine lv_i2l (v := r.toInt64) hx hb dL_stick_10 rfl ?_
    refine pp_last hx hb hK hOut hS (Or.inr (rng_in (by omega))) (vp_in_nI (by omega) (by omega)) dL_stick_11 (fun H locs hOut hk2 _ hS => ?_)
    have hCW := CW_o ha hk2 hCW
    refine lv_goto (tgt := 23) hx hb dL_stick_12 (by decide) ?_
    refine lv_iconst (v := nI 0) hx hb dL_stick_23 (by decide) ?_
    refine retw (Nat.le_of_ble_eq_true rfl) (Nat.le_of_ble_eq_true rfl) ?_
    exact en_wi (vp_updL f0 (nI 0).toNatClampNeg r.toInt64) hx hb hr hlocks hS ⟨by rw [hp.1]; try rfl, fun _ => ⟨r, rfl, hp.2⟩⟩ ⟨hCW, hOut⟩ dL_stick_24
set_option maxHeartbeats 4000000 in
set_option maxRecDepth 100000 in
theorem w_bit (l : Launch) (hfl : l.stackTraces = false) (G : GG) (a : Nat → Nat) (ha : Inj a) (t9 : Nat) (st : ST) (p9 g9 x9 : Int32) (f0 : Nat → Int64) (hO : OKS st) : vx_Met l yL_bit wsL_bit ({ frames := 8, cells := 3, slots := 18, locals := 128 } : Room) (PcW G a t9 [.ref (a 0), .int p9, .int g9, .int x9, .ref (a 115)] (fun H => CW G a st H ∧ outP G a f0 H)) (QI (fun (r : Int32) (f : Nat → Int64) => r = nI (cBi st.1 p9 g9 x9) ∧ (cBi st.1 p9 g9 x9 = 0 → ∃ x : Int32, f 0 = x.toInt64 ∧ x = bi (bt (st.1 (ix p9)) (ix x9) (ix g9)))) (fun f H => CW G a st H ∧ outP G a f H) (orA (rng a 0 93) (rng a 115 1))) (fun _ _ _ => False) 3 18 (orA (rng a 0 93) (rng a 115 1)) := by
  refine vx_ofWH (cc := cL_bit) (maxL := 6) (ret := some .int) (hh := [(0, 12, 15, 13), (0, 12, 19, 29)]) (by decide) rfl ?_
  intro p e s m args below meth c s₁ B hml hv
  obtain ⟨⟨⟨⟨rfl, hB, hK, hNW⟩, hLow⟩, hX⟩, hNC⟩ := hv
  obtain ⟨hCW, hOut⟩ := hB
  have hx := B.exec
  have hb := B.bytes
  have hr := B.returns
  have hts := atoms_spec (ws := wsL_bit) B.pre
  have hown : s.vm.findClass RL = some m.cls := findClass_of_methodNamed B.named
  have hlocks := B.notSynchronized
  have htab : c.exceptionTable.toList = tableOf [(0, 12, 15, 13), (0, 12, 19, 29)] := vx_table (x := yL_bit) B (hts _ List.mem_cons_self)
  have FX : CallFix p m c cL_bit 6 s ([.ref (a 0), .int p9, .int g9, .int x9, .ref (a 115)] : List Value).toArray wsL_bit RL := ⟨hx, hb, hml, hown, hts⟩
  have hl := lv_entry ([.ref (a 0), .int p9, .int g9, .int x9, .ref (a 115)]) (n := 6) (Nat.le_of_ble_eq_true rfl)
  rw [lg_entry_eq]
  generalize (lg_sl ([.ref (a 0), .int p9, .int g9, .int x9, .ref (a 115)]) ++ List.replicate (6 - (lg_sl ([.ref (a 0), .int p9, .int g9, .int x9, .ref (a 115)])).length) Slot.unset).toArray = ls at hl ⊢
  have hl : lv_has ls 6 [(0, .ref (a 0)), (1, .int p9), (2, .int g9), (3, .int x9), (4, .ref (a 115))] := hl
  have hS : va_S (orA (rng a 0 93) (rng a 115 1)) s.heap s.heap [] := va_S.rf
  refine lv_aload hx hb dL_bit_0 (lv_at hl 4 rfl) ?_
  refine lv_iconst (v := nI 0) hx hb dL_bit_2 (by decide) ?_
  refine lv_aload_n hx hb dL_bit_3 rfl (lv_at hl 0 rfl) ?_
  refine lv_iload_n hx hb dL_bit_4 rfl (lv_at hl 1 rfl) ?_
  refine lv_iload_n hx hb dL_bit_5 rfl (lv_at hl 2 rfl) ?_
  refine lv_iload_n hx hb dL_bit_6 rfl (lv_at hl 3 rfl) ?_
  refine vx_calli (vx_runV (As := [.int p9, .int g9, .int x9]) (rest := [.int (nI 0), .ref (a 115)]) FX (k_X11_bit l hfl G a ha t9 st p9 g9 x9 hO) (cwV 3 hts gL_bit_X11_bit rfl rfl rfl (by decide +kernel) ⟨Nat.le_of_ble_eq_true rfl, Nat.le_of_ble_eq_true rfl⟩) (preVX hK hNW hCW (hLow.at hS (fun q9 _ q => q.elim (rng_M q9) (rng_M q9))) (hX.at hS (fun q9 _ q => q.elim (rng_M q9) (rng_M q9))) (cw_recv hK hCW)) rfl rfl hl.1 rfl (lv_room (Nat.le_of_ble_eq_true rfl)) dL_bit_7 ⟨Nat.le_of_ble_eq_true rfl, Nat.le_of_ble_eq_true rfl⟩) hS (fun q _ h => Or.inl h) (fun q h => Or.inl h) (fun q _ h => Or.inl h) (fun E ce q9 u t H locs ht hal _ hBX hsz hk hS hce hcv hcl => ?_) (fun r u t H locs ht hal hp hB hsz hk hS => ?_)
  · skip
    have hOut : outP G a f0 H := kp hk hOut (dj_cons (rng_no ha (by omega)) dj_nil)
    have hCW : CW G a st H := by rw [← ht]; exact hBX.2
    rcases hBX.1 with ⟨rfl, h⟩ | ⟨rfl, h⟩ | ⟨rfl, h⟩
    · skip
      refine vx_catch hown [] ⟨0, 12, 15, 13⟩ [⟨0, 12, 19, 29⟩] htab (fun z hz => absurd hz List.not_mem_nil) (by decide) (show 13 ≠ 0 by decide) (hts (.classLink RL 13 "java/lang/IndexOutOfBoundsException") (List.mem_of_getElem? (i := 1) (by decide +kernel))) (va_Nw.use rfl hX.2.1.2.1) hce hcv hcl ?_
      refine lv_astore (lv' := [(5, .ref q9), (0, .ref (a 0)), (1, .int p9), (2, .int g9), (3, .int x9), (4, .ref (a 115))]) hx hb dL_bit_15 hl (by decide) rfl (fun ls hl => ?_)
      refine lv_iconst (v := nI 1) hx hb dL_bit_17 (by decide) ?_
      refine retw (Nat.le_of_ble_eq_true rfl) (Nat.le_of_ble_eq_true rfl) ?_
      exact en_wi f0 hx hb hr hlocks hS ⟨by rw [h]; try rfl, fun q => absurd (h.symm.trans q) (by decide)⟩ ⟨hCW, hOut⟩ dL_bit_18
    · skip
      refine vx_catch hown [⟨0, 12, 15, 13⟩] ⟨0, 12, 19, 29⟩ [] htab (List.forall_mem_cons.mpr ⟨Or.inr ⟨(show 13 ≠ 0 by decide), _, (hts (.classLink RL 13 "java/lang/IndexOutOfBoundsException") (List.mem_of_getElem? (i := 1) (by decide +kernel))), hNC.1⟩, (fun z hz => absurd hz List.not_mem_nil)⟩) (by decide) (show 29 ≠ 0 by decide) (hts (.classLink RL 29 "java/lang/IllegalArgumentException") (List.mem_of_getElem? (i := 2) (by decide +kernel))) (va_Nw.use rfl hX.2.1.2.2.1) hce hcv hcl ?_
      refine lv_astore (lv' := [(5, .ref q9), (0, .ref (a 0)), (1, .int p9), (2, .int g9), (3, .int x9), (4, .ref (a 115))]) hx hb dL_bit_19 hl (by decide) rfl (fun ls hl => ?_)
      refine lv_iconst (v := nI 2) hx hb dL_bit_21 (by decide) ?_
      refine retw (Nat.le_of_ble_eq_true rfl) (Nat.le_of_ble_eq_true rfl) ?_
      exact en_wi f0 hx hb hr hlocks hS ⟨by rw [h]; try rfl, fun q => absurd (h.symm.trans q) (by decide)⟩ ⟨hCW, hOut⟩ dL_bit_22
    · skip
      exact absurd h (fun h => cd_bit h)
  · skip
    have hOut : outP G a f0 H := kp hk hOut (dj_cons (rng_no ha (by omega)) dj_nil)
    have hCW : CW G a st H := by rw [← ht]; exact hB
    refine lv_i2l (v := r.toInt64) hx hb dL_bit_10 rfl ?_
    refine pp_last hx hb hK hOut hS (Or.inr (rng_in (by omega))) (vp_in_nI (by omega) (by omega)) dL_bit_11 (fun H locs hOut hk2 _ hS => ?_)
    have hCW := CW_o ha hk2 hCW
    refine lv_goto (tgt := 23) hx hb dL_bit_12 (by decide) ?_
    refine lv_iconst (v := nI 0) hx hb dL_bit_23 (by decide) ?_
    refine retw (Nat.le_of_ble_eq_true rfl) (Nat.le_of_ble_eq_true rfl) ?_
    exact en_wi (vp_updL f0 (nI 0).toNatClampNeg r.toInt64) hx hb hr hlocks hS ⟨by rw [hp.1]; try rfl, fun _ => ⟨r, rfl, hp.2⟩⟩ ⟨hCW, hOut⟩ dL_bit_24
set_option maxHeartbeats 4000000 in
set_option maxRecDepth 100000 in
theorem w_value (l : Launch) (hfl : l.stackTraces = false) (G : GG) (a : Nat → Nat) (ha : Inj a) (t9 : Nat) (st : ST) (p9 x9 : Int32) (f0 : Nat → Int64) (hO : OKS st) : vx_Met l yL_value wsL_value ({ frames := 8, cells := 2, slots := 12, locals := 127 } : Room) (PcW G a t9 [.ref (a 0), .int p9, .int x9, .ref (a 115)] (fun H => CW G a st H ∧ outP G a f0 H)) (QI (fun (r : Int32) (f : Nat → Int64) => r = nI (cVa p9 x9) ∧ (cVa p9 x9 = 0 → ∃ x : Int32, f 0 = x.toInt64 ∧ x = vl (st.1 (ix p9)) (ix x9))) (fun f H => CW G a st H ∧ outP G a f H) (orA (rng a 0 93) (rng a 115 1))) (fun _ _ _ => False) 2 12 (orA (rng a 0 93) (rng a 115 1)) := by
  refine vx_ofWH (cc := cL_value) (maxL := 5) (ret := some .int) (hh := [(0, 10, 13, 13), (0, 10, 17, 29)]) (by decide) rfl ?_
  intro p e s m args below meth c s₁ B hml hv
  obtain ⟨⟨⟨⟨rfl, hB, hK, hNW⟩, hLow⟩, hX⟩, hNC⟩ := hv
  obtain ⟨hCW, hOut⟩ := hB
  have hx := B.exec
  have hb := B.bytes
  have hr := B.returns
  have hts := atoms_spec (ws := wsL_value) B.pre
  have hown : s.vm.findClass RL = some m.cls := findClass_of_methodNamed B.named
  have hlocks := B.notSynchronized
  have htab : c.exceptionTable.toList = tableOf [(0, 10, 13, 13), (0, 10, 17, 29)] := vx_table (x := yL_value) B (hts _ List.mem_cons_self)
  have FX : CallFix p m c cL_value 5 s ([.ref (a 0), .int p9, .int x9, .ref (a 115)] : List Value).toArray wsL_value RL := ⟨hx, hb, hml, hown, hts⟩
  have hl := lv_entry ([.ref (a 0), .int p9, .int x9, .ref (a 115)]) (n := 5) (Nat.le_of_ble_eq_true rfl)
  rw [lg_entry_eq]
  generalize (lg_sl ([.ref (a 0), .int p9, .int x9, .ref (a 115)]) ++ List.replicate (5 - (lg_sl ([.ref (a 0), .int p9, .int x9, .ref (a 115)])).length) Slot.unset).toArray = ls at hl ⊢
  have hl : lv_has ls 5 [(0, .ref (a 0)), (1, .int p9), (2, .int x9), (3, .ref (a 115))] := hl
  have hS : va_S (orA (rng a 0 93) (rng a 115 1)) s.heap s.heap [] := va_S.rf
  refine lv_aload_n hx hb dL_value_0 rfl (lv_at hl 3 rfl) ?_
  refine lv_iconst (v := nI 0) hx hb dL_value_1 (by decide) ?_
  refine lv_aload_n hx hb dL_value_2 rfl (lv_at hl 0 rfl) ?_
  refine lv_iload_n hx hb dL_value_3 rfl (lv_at hl 1 rfl) ?_
  refine lv_iload_n hx hb dL_value_4 rfl (lv_at hl 2 rfl) ?_
  refine vx_calli (vx_runV (As := [.int p9, .int x9]) (rest := [.int (nI 0), .ref (a 115)]) FX (k_X11_value l hfl G a ha t9 st p9 x9 hO) (cwV 2 hts gL_value_X11_value rfl rfl rfl (by decide +kernel) ⟨Nat.le_of_ble_eq_true rfl, Nat.le_of_ble_eq_true rfl⟩) (preVX hK hNW hCW (hLow.at hS (fun q9 _ q => q.elim (rng_M q9) (rng_M q9))) (hX.at hS (fun q9 _ q => q.elim (rng_M q9) (rng_M q9))) (cw_recv hK hCW)) rfl rfl hl.1 rfl (lv_room (Nat.le_of_ble_eq_true rfl)) dL_value_5 ⟨Nat.le_of_ble_eq_true rfl, Nat.le_of_ble_eq_true rfl⟩) hS (fun q _ h => Or.inl h) (fun q h => Or.inl h) (fun q _ h => Or.inl h) (fun E ce q9 u t H locs ht hal _ hBX hsz hk hS hce hcv hcl => ?_) (fun r u t H locs ht hal hp hB hsz hk hS => ?_)
  · skip
    have hOut : outP G a f0 H := kp hk hOut (dj_cons (rng_no ha (by omega)) dj_nil)
    have hCW : CW G a st H := by rw [← ht]; exact hBX.2
    rcases hBX.1 with ⟨rfl, h⟩ | ⟨rfl, h⟩ | ⟨rfl, h⟩
    · skip
      refine vx_catch hown [] ⟨0, 10, 13, 13⟩ [⟨0, 10, 17, 29⟩] htab (fun z hz => absurd hz List.not_mem_nil) (by decide) (show 13 ≠ 0 by decide) (hts (.classLink RL 13 "java/lang/IndexOutOfBoundsException") (List.mem_of_getElem? (i := 1) (by decide +kernel))) (va_Nw.use rfl hX.2.1.2.1) hce hcv hcl ?_
      refine lv_astore (lv' := [(4, .ref q9), (0, .ref (a 0)), (1, .int p9), (2, .int x9), (3, .ref (a 115))]) hx hb dL_value_13 hl (by decide) rfl (fun ls hl => ?_)
      refine lv_iconst (v := nI 1) hx hb dL_value_15 (by decide) ?_
      refine retw (Nat.le_of_ble_eq_true rfl) (Nat.le_of_ble_eq_true rfl) ?_
      exact en_wi f0 hx hb hr hlocks hS ⟨by rw [h]; try rfl, fun q => absurd (h.symm.trans q) (by decide)⟩ ⟨hCW, hOut⟩ dL_value_16
    · skip
      refine vx_catch hown [⟨0, 10, 13, 13⟩] ⟨0, 10, 17, 29⟩ [] htab (List.forall_mem_cons.mpr ⟨Or.inr ⟨(show 13 ≠ 0 by decide), _, (hts (.classLink RL 13 "java/lang/IndexOutOfBoundsException") (List.mem_of_getElem? (i := 1) (by decide +kernel))), hNC.1⟩, (fun z hz => absurd hz List.not_mem_nil)⟩) (by decide) (show 29 ≠ 0 by decide) (hts (.classLink RL 29 "java/lang/IllegalArgumentException") (List.mem_of_getElem? (i := 2) (by decide +kernel))) (va_Nw.use rfl hX.2.1.2.2.1) hce hcv hcl ?_
      refine lv_astore (lv' := [(4, .ref q9), (0, .ref (a 0)), (1, .int p9), (2, .int x9), (3, .ref (a 115))]) hx hb dL_value_17 hl (by decide) rfl (fun ls hl => ?_)
      refine lv_iconst (v := nI 2) hx hb dL_value_19 (by decide) ?_
      refine retw (Nat.le_of_ble_eq_true rfl) (Nat.le_of_ble_eq_true rfl) ?_
      exact en_wi f0 hx hb hr hlocks hS ⟨by rw [h]; try rfl, fun q => absurd (h.symm.trans q) (by decide)⟩ ⟨hCW, hOut⟩ dL_value_20
    · skip
      exact absurd h (fun h => cd_value h)
  · skip
    have hOut : outP G a f0 H := kp hk hOut (dj_cons (rng_no ha (by omega)) dj_nil)
    have hCW : CW G a st H := by rw [← ht]; exact hB
    refine lv_i2l (v := r.toInt64) hx hb dL_value_8 rfl ?_
    refine pp_last hx hb hK hOut hS (Or.inr (rng_in (by omega))) (vp_in_nI (by omega) (by omega)) dL_value_9 (fun H locs hOut hk2 _ hS => ?_)
    have hCW := CW_o ha hk2 hCW
    refine lv_goto (tgt := 21) hx hb dL_value_10 (by decide) ?_
    refine lv_iconst (v := nI 0) hx hb dL_value_21 (by decide) ?_
    refine retw (Nat.le_of_ble_eq_true rfl) (Nat.le_of_ble_eq_true rfl) ?_
    exact en_wi (vp_updL f0 (nI 0).toNatClampNeg r.toInt64) hx hb hr hlocks hS ⟨by rw [hp.1]; try rfl, fun _ => ⟨r, rfl, hp.2⟩⟩ ⟨hCW, hOut⟩ dL_value_22
set_option maxHeartbeats 4000000 in
set_option maxRecDepth 100000 in
theorem w_valueAnew (l : Launch) (hfl : l.stackTraces = false) (G : GG) (a : Nat → Nat) (ha : Inj a) (t9 : Nat) (st : ST) (p9 x9 : Int32) (f0 : Nat → Int64) (hO : OKS st) : vx_Met l yL_valueAnew wsL_valueAnew ({ frames := 8, cells := 2, slots := 12, locals := 129 } : Room) (PcW G a t9 [.ref (a 0), .int p9, .int x9, .ref (a 115)] (fun H => CW G a st H ∧ outP G a f0 H)) (QI (fun (r : Int32) (f : Nat → Int64) => r = nI (cVa p9 x9) ∧ (cVa p9 x9 = 0 → ∃ x : Int32, f 0 = x.toInt64 ∧ x = vl (st.1 (ix p9)) (ix x9))) (fun f H => CW G a st H ∧ outP G a f H) (orA (rng a 0 93) (rng a 115 1))) (fun _ _ _ => False) 2 12 (orA (rng a 0 93) (rng a 115 1)) := by
  refine vx_ofWH (cc := cL_valueAnew) (maxL := 5) (ret := some .int) (hh := [(0, 10, 13, 13), (0, 10, 17, 29)]) (by decide) rfl ?_
  intro p e s m args below meth c s₁ B hml hv
  obtain ⟨⟨⟨⟨rfl, hB, hK, hNW⟩, hLow⟩, hX⟩, hNC⟩ := hv
  obtain ⟨hCW, hOut⟩ := hB
  have hx := B.exec
  have hb := B.bytes
  have hr := B.returns
  have hts := atoms_spec (ws := wsL_valueAnew) B.pre
  have hown : s.vm.findClass RL = some m.cls := findClass_of_methodNamed B.named
  have hlocks := B.notSynchronized
  have htab : c.exceptionTable.toList = tableOf [(0, 10, 13, 13), (0, 10, 17, 29)] := vx_table (x := yL_valueAnew) B (hts _ List.mem_cons_self)
  have FX : CallFix p m c cL_valueAnew 5 s ([.ref (a 0), .int p9, .int x9, .ref (a 115)] : List Value).toArray wsL_valueAnew RL := ⟨hx, hb, hml, hown, hts⟩
  have hl := lv_entry ([.ref (a 0), .int p9, .int x9, .ref (a 115)]) (n := 5) (Nat.le_of_ble_eq_true rfl)
  rw [lg_entry_eq]
  generalize (lg_sl ([.ref (a 0), .int p9, .int x9, .ref (a 115)]) ++ List.replicate (5 - (lg_sl ([.ref (a 0), .int p9, .int x9, .ref (a 115)])).length) Slot.unset).toArray = ls at hl ⊢
  have hl : lv_has ls 5 [(0, .ref (a 0)), (1, .int p9), (2, .int x9), (3, .ref (a 115))] := hl
  have hS : va_S (orA (rng a 0 93) (rng a 115 1)) s.heap s.heap [] := va_S.rf
  refine lv_aload_n hx hb dL_valueAnew_0 rfl (lv_at hl 3 rfl) ?_
  refine lv_iconst (v := nI 0) hx hb dL_valueAnew_1 (by decide) ?_
  refine lv_aload_n hx hb dL_valueAnew_2 rfl (lv_at hl 0 rfl) ?_
  refine lv_iload_n hx hb dL_valueAnew_3 rfl (lv_at hl 1 rfl) ?_
  refine lv_iload_n hx hb dL_valueAnew_4 rfl (lv_at hl 2 rfl) ?_
  refine vx_calli (vx_runV (As := [.int p9, .int x9]) (rest := [.int (nI 0), .ref (a 115)]) FX (k_X11_valueAnew l hfl G a ha t9 st p9 x9 hO) (cwV 2 hts gL_valueAnew_X11_valueAnew rfl rfl rfl (by decide +kernel) ⟨Nat.le_of_ble_eq_true rfl, Nat.le_of_ble_eq_true rfl⟩) (preVX hK hNW hCW (hLow.at hS (fun q9 _ q => q.elim (rng_M q9) (rng_M q9))) (hX.at hS (fun q9 _ q => q.elim (rng_M q9) (rng_M q9))) (cw_recv hK hCW)) rfl rfl hl.1 rfl (lv_room (Nat.le_of_ble_eq_true rfl)) dL_valueAnew_5 ⟨Nat.le_of_ble_eq_true rfl, Nat.le_of_ble_eq_true rfl⟩) hS (fun q _ h => Or.inl h) (fun q h => Or.inl h) (fun q _ h => Or.inl h) (fun E ce q9 u t H locs ht hal _ hBX hsz hk hS hce hcv hcl => ?_) (fun r u t H locs ht hal hp hB hsz hk hS => ?_)
  · skip
    have hOut : outP G a f0 H := kp hk hOut (dj_cons (rng_no ha (by omega)) dj_nil)
    have hCW : CW G a st H := by rw [← ht]; exact hBX.2
    rcases hBX.1 with ⟨rfl, h⟩ | ⟨rfl, h⟩ | ⟨rfl, h⟩
    · skip
      refine vx_catch hown [] ⟨0, 10, 13, 13⟩ [⟨0, 10, 17, 29⟩] htab (fun z hz => absurd hz List.not_mem_nil) (by decide) (show 13 ≠ 0 by decide) (hts (.classLink RL 13 "java/lang/IndexOutOfBoundsException") (List.mem_of_getElem? (i := 1) (by decide +kernel))) (va_Nw.use rfl hX.2.1.2.1) hce hcv hcl ?_
      refine lv_astore (lv' := [(4, .ref q9), (0, .ref (a 0)), (1, .int p9), (2, .int x9), (3, .ref (a 115))]) hx hb dL_valueAnew_13 hl (by decide) rfl (fun ls hl => ?_)
      refine lv_iconst (v := nI 1) hx hb dL_valueAnew_15 (by decide) ?_
      refine retw (Nat.le_of_ble_eq_true rfl) (Nat.le_of_ble_eq_true rfl) ?_
      exact en_wi f0 hx hb hr hlocks hS ⟨by rw [h]; try rfl, fun q => absurd (h.symm.trans q) (by decide)⟩ ⟨hCW, hOut⟩ dL_valueAnew_16
    · skip
      refine vx_catch hown [⟨0, 10, 13, 13⟩] ⟨0, 10, 17, 29⟩ [] htab (List.forall_mem_cons.mpr ⟨Or.inr ⟨(show 13 ≠ 0 by decide), _, (hts (.classLink RL 13 "java/lang/IndexOutOfBoundsException") (List.mem_of_getElem? (i := 1) (by decide +kernel))), hNC.1⟩, (fun z hz => absurd hz List.not_mem_nil)⟩) (by decide) (show 29 ≠ 0 by decide) (hts (.classLink RL 29 "java/lang/IllegalArgumentException") (List.mem_of_getElem? (i := 2) (by decide +kernel))) (va_Nw.use rfl hX.2.1.2.2.1) hce hcv hcl ?_
      refine lv_astore (lv' := [(4, .ref q9), (0, .ref (a 0)), (1, .int p9), (2, .int x9), (3, .ref (a 115))]) hx hb dL_valueAnew_17 hl (by decide) rfl (fun ls hl => ?_)
      refine lv_iconst (v := nI 2) hx hb dL_valueAnew_19 (by decide) ?_
      refine retw (Nat.le_of_ble_eq_true rfl) (Nat.le_of_ble_eq_true rfl) ?_
      exact en_wi f0 hx hb hr hlocks hS ⟨by rw [h]; try rfl, fun q => absurd (h.symm.trans q) (by decide)⟩ ⟨hCW, hOut⟩ dL_valueAnew_20
    · skip
      exact absurd h (fun h => cd_value h)
  · skip
    have hOut : outP G a f0 H := kp hk hOut (dj_cons (rng_no ha (by omega)) dj_nil)
    have hCW : CW G a st H := by rw [← ht]; exact hB
    refine lv_i2l (v := r.toInt64) hx hb dL_valueAnew_8 rfl ?_
    refine pp_last hx hb hK hOut hS (Or.inr (rng_in (by omega))) (vp_in_nI (by omega) (by omega)) dL_valueAnew_9 (fun H locs hOut hk2 _ hS => ?_)
    have hCW := CW_o ha hk2 hCW
    refine lv_goto (tgt := 21) hx hb dL_valueAnew_10 (by decide) ?_
    refine lv_iconst (v := nI 0) hx hb dL_valueAnew_21 (by decide) ?_
    refine retw (Nat.le_of_ble_eq_true rfl) (Nat.le_of_ble_eq_true rfl) ?_
    exact en_wi (vp_updL f0 (nI 0).toNatClampNeg r.toInt64) hx hb hr hlocks hS ⟨by rw [hp.1]; try rfl, fun _ => ⟨r, rfl, hp.2⟩⟩ ⟨hCW, hOut⟩ dL_valueAnew_22
set_option maxHeartbeats 4000000 in
set_option maxRecDepth 100000 in
theorem w_ofNet (l : Launch) (hfl : l.stackTraces = false) (G : GG) (a : Nat → Nat) (ha : Inj a) (t9 : Nat) (st : ST) (p9 w9 : Int32) (f0 : Nat → Int64) (hO : OKS st) : vx_Met l yL_ofNet wsL_ofNet ({ frames := 8, cells := 2, slots := 12, locals := 127 } : Room) (PcW G a t9 [.ref (a 0), .int p9, .int w9, .ref (a 115)] (fun H => CW G a st H ∧ outP G a f0 H)) (QI (fun (r : Int32) (f : Nat → Int64) => r = nI (cOf p9 w9) ∧ (cOf p9 w9 = 0 → ∃ x : Int32, f 0 = x.toInt64 ∧ x = ofV (st.1 (ix p9)) st.2.1 st.2.2 (ix w9))) (fun f H => CW G a st H ∧ outP G a f H) (orA (rng a 0 93) (rng a 115 1))) (fun _ _ _ => False) 2 12 (orA (rng a 0 93) (rng a 115 1)) := by
  refine vx_ofWH (cc := cL_ofNet) (maxL := 5) (ret := some .int) (hh := [(0, 10, 13, 13), (0, 10, 17, 29)]) (by decide) rfl ?_
  intro p e s m args below meth c s₁ B hml hv
  obtain ⟨⟨⟨⟨rfl, hB, hK, hNW⟩, hLow⟩, hX⟩, hNC⟩ := hv
  obtain ⟨hCW, hOut⟩ := hB
  have hx := B.exec
  have hb := B.bytes
  have hr := B.returns
  have hts := atoms_spec (ws := wsL_ofNet) B.pre
  have hown : s.vm.findClass RL = some m.cls := findClass_of_methodNamed B.named
  have hlocks := B.notSynchronized
  have htab : c.exceptionTable.toList = tableOf [(0, 10, 13, 13), (0, 10, 17, 29)] := vx_table (x := yL_ofNet) B (hts _ List.mem_cons_self)
  have FX : CallFix p m c cL_ofNet 5 s ([.ref (a 0), .int p9, .int w9, .ref (a 115)] : List Value).toArray wsL_ofNet RL := ⟨hx, hb, hml, hown, hts⟩
  have hl := lv_entry ([.ref (a 0), .int p9, .int w9, .ref (a 115)]) (n := 5) (Nat.le_of_ble_eq_true rfl)
  rw [lg_entry_eq]
  generalize (lg_sl ([.ref (a 0), .int p9, .int w9, .ref (a 115)]) ++ List.replicate (5 - (lg_sl ([.ref (a 0), .int p9, .int w9, .ref (a 115)])).length) Slot.unset).toArray = ls at hl ⊢
  have hl : lv_has ls 5 [(0, .ref (a 0)), (1, .int p9), (2, .int w9), (3, .ref (a 115))] := hl
  have hS : va_S (orA (rng a 0 93) (rng a 115 1)) s.heap s.heap [] := va_S.rf
  refine lv_aload_n hx hb dL_ofNet_0 rfl (lv_at hl 3 rfl) ?_
  refine lv_iconst (v := nI 0) hx hb dL_ofNet_1 (by decide) ?_
  refine lv_aload_n hx hb dL_ofNet_2 rfl (lv_at hl 0 rfl) ?_
  refine lv_iload_n hx hb dL_ofNet_3 rfl (lv_at hl 1 rfl) ?_
  refine lv_iload_n hx hb dL_ofNet_4 rfl (lv_at hl 2 rfl) ?_
  refine vx_calli (vx_runV (As := [.int p9, .int w9]) (rest := [.int (nI 0), .ref (a 115)]) FX (k_X11_ofNet l hfl G a ha t9 st p9 w9 hO) (cwV 2 hts gL_ofNet_X11_ofNet rfl rfl rfl (by decide +kernel) ⟨Nat.le_of_ble_eq_true rfl, Nat.le_of_ble_eq_true rfl⟩) (preVX hK hNW hCW (hLow.at hS (fun q9 _ q => q.elim (rng_M q9) (rng_M q9))) (hX.at hS (fun q9 _ q => q.elim (rng_M q9) (rng_M q9))) (cw_recv hK hCW)) rfl rfl hl.1 rfl (lv_room (Nat.le_of_ble_eq_true rfl)) dL_ofNet_5 ⟨Nat.le_of_ble_eq_true rfl, Nat.le_of_ble_eq_true rfl⟩) hS (fun q _ h => Or.inl h) (fun q h => Or.inl h) (fun q _ h => Or.inl h) (fun E ce q9 u t H locs ht hal _ hBX hsz hk hS hce hcv hcl => ?_) (fun r u t H locs ht hal hp hB hsz hk hS => ?_)
  · skip
    have hOut : outP G a f0 H := kp hk hOut (dj_cons (rng_no ha (by omega)) dj_nil)
    have hCW : CW G a st H := by rw [← ht]; exact hBX.2
    rcases hBX.1 with ⟨rfl, h⟩ | ⟨rfl, h⟩ | ⟨rfl, h⟩
    · skip
      refine vx_catch hown [] ⟨0, 10, 13, 13⟩ [⟨0, 10, 17, 29⟩] htab (fun z hz => absurd hz List.not_mem_nil) (by decide) (show 13 ≠ 0 by decide) (hts (.classLink RL 13 "java/lang/IndexOutOfBoundsException") (List.mem_of_getElem? (i := 1) (by decide +kernel))) (va_Nw.use rfl hX.2.1.2.1) hce hcv hcl ?_
      refine lv_astore (lv' := [(4, .ref q9), (0, .ref (a 0)), (1, .int p9), (2, .int w9), (3, .ref (a 115))]) hx hb dL_ofNet_13 hl (by decide) rfl (fun ls hl => ?_)
      refine lv_iconst (v := nI 1) hx hb dL_ofNet_15 (by decide) ?_
      refine retw (Nat.le_of_ble_eq_true rfl) (Nat.le_of_ble_eq_true rfl) ?_
      exact en_wi f0 hx hb hr hlocks hS ⟨by rw [h]; try rfl, fun q => absurd (h.symm.trans q) (by decide)⟩ ⟨hCW, hOut⟩ dL_ofNet_16
    · skip
      refine vx_catch hown [⟨0, 10, 13, 13⟩] ⟨0, 10, 17, 29⟩ [] htab (List.forall_mem_cons.mpr ⟨Or.inr ⟨(show 13 ≠ 0 by decide), _, (hts (.classLink RL 13 "java/lang/IndexOutOfBoundsException") (List.mem_of_getElem? (i := 1) (by decide +kernel))), hNC.1⟩, (fun z hz => absurd hz List.not_mem_nil)⟩) (by decide) (show 29 ≠ 0 by decide) (hts (.classLink RL 29 "java/lang/IllegalArgumentException") (List.mem_of_getElem? (i := 2) (by decide +kernel))) (va_Nw.use rfl hX.2.1.2.2.1) hce hcv hcl ?_
      refine lv_astore (lv' := [(4, .ref q9), (0, .ref (a 0)), (1, .int p9), (2, .int w9), (3, .ref (a 115))]) hx hb dL_ofNet_17 hl (by decide) rfl (fun ls hl => ?_)
      refine lv_iconst (v := nI 2) hx hb dL_ofNet_19 (by decide) ?_
      refine retw (Nat.le_of_ble_eq_true rfl) (Nat.le_of_ble_eq_true rfl) ?_
      exact en_wi f0 hx hb hr hlocks hS ⟨by rw [h]; try rfl, fun q => absurd (h.symm.trans q) (by decide)⟩ ⟨hCW, hOut⟩ dL_ofNet_20
    · skip
      exact absurd h (fun h => cd_ofNet h)
  · skip
    have hOut : outP G a f0 H := kp hk hOut (dj_cons (rng_no ha (by omega)) dj_nil)
    have hCW : CW G a st H := by rw [← ht]; exact hB
    refine lv_i2l (v := r.toInt64) hx hb dL_ofNet_8 rfl ?_
    refine pp_last hx hb hK hOut hS (Or.inr (rng_in (by omega))) (vp_in_nI (by omega) (by omega)) dL_ofNet_9 (fun H locs hOut hk2 _ hS => ?_)
    have hCW := CW_o ha hk2 hCW
    refine lv_goto (tgt := 21) hx hb dL_ofNet_10 (by decide) ?_
    refine lv_iconst (v := nI 0) hx hb dL_ofNet_21 (by decide) ?_
    refine retw (Nat.le_of_ble_eq_true rfl) (Nat.le_of_ble_eq_true rfl) ?_
    exact en_wi (vp_updL f0 (nI 0).toNatClampNeg r.toInt64) hx hb hr hlocks hS ⟨by rw [hp.1]; try rfl, fun _ => ⟨r, rfl, hp.2⟩⟩ ⟨hCW, hOut⟩ dL_ofNet_22
set_option maxHeartbeats 4000000 in
set_option maxRecDepth 100000 in
theorem w_time (l : Launch) (hfl : l.stackTraces = false) (G : GG) (a : Nat → Nat) (ha : Inj a) (t9 : Nat) (st : ST) (p9 g9 : Int32) (f0 : Nat → Int64) (hO : OKS st) : vx_Met l yL_time wsL_time ({ frames := 8, cells := 2, slots := 12, locals := 126 } : Room) (PcW G a t9 [.ref (a 0), .int p9, .int g9, .ref (a 115)] (fun H => CW G a st H ∧ outP G a f0 H)) (QI (fun (r : Int32) (f : Nat → Int64) => r = nI (cTi st.1 p9 g9) ∧ (cTi st.1 p9 g9 = 0 → ∃ x : Int32, f 0 = x.toInt64 ∧ x = nI (tm (st.1 (ix p9)) st.2.1 (ix g9)))) (fun f H => CW G a st H ∧ outP G a f H) (orA (rng a 0 93) (rng a 115 1))) (fun _ _ _ => False) 2 12 (orA (rng a 0 93) (rng a 115 1)) := by
  refine vx_ofWH (cc := cL_time) (maxL := 5) (ret := some .int) (hh := [(0, 10, 13, 13)]) (by decide) rfl ?_
  intro p e s m args below meth c s₁ B hml hv
  obtain ⟨⟨⟨⟨rfl, hB, hK, hNW⟩, hLow⟩, hX⟩, hNC⟩ := hv
  obtain ⟨hCW, hOut⟩ := hB
  have hx := B.exec
  have hb := B.bytes
  have hr := B.returns
  have hts := atoms_spec (ws := wsL_time) B.pre
  have hown : s.vm.findClass RL = some m.cls := findClass_of_methodNamed B.named
  have hlocks := B.notSynchronized
  have htab : c.exceptionTable.toList = tableOf [(0, 10, 13, 13)] := vx_table (x := yL_time) B (hts _ List.mem_cons_self)
  have FX : CallFix p m c cL_time 5 s ([.ref (a 0), .int p9, .int g9, .ref (a 115)] : List Value).toArray wsL_time RL := ⟨hx, hb, hml, hown, hts⟩
  have hl := lv_entry ([.ref (a 0), .int p9, .int g9, .ref (a 115)]) (n := 5) (Nat.le_of_ble_eq_true rfl)
  rw [lg_entry_eq]
  generalize (lg_sl ([.ref (a 0), .int p9, .int g9, .ref (a 115)]) ++ List.replicate (5 - (lg_sl ([.ref (a 0), .int p9, .int g9, .ref (a 115)])).length) Slot.unset).toArray = ls at hl ⊢
  have hl : lv_has ls 5 [(0, .ref (a 0)), (1, .int p9), (2, .int g9), (3, .ref (a 115))] := hl
  have hS : va_S (orA (rng a 0 93) (rng a 115 1)) s.heap s.heap [] := va_S.rf
  refine lv_aload_n hx hb dL_time_0 rfl (lv_at hl 3 rfl) ?_
  refine lv_iconst (v := nI 0) hx hb dL_time_1 (by decide) ?_
  refine lv_aload_n hx hb dL_time_2 rfl (lv_at hl 0 rfl) ?_
  refine lv_iload_n hx hb dL_time_3 rfl (lv_at hl 1 rfl) ?_
  refine lv_iload_n hx hb dL_time_4 rfl (lv_at hl 2 rfl) ?_
  refine vx_calli (vx_runV (As := [.int p9, .int g9]) (rest := [.int (nI 0), .ref (a 115)]) FX (k_X11_time l hfl G a ha t9 st p9 g9 hO) (cwV 2 hts gL_time_X11_time rfl rfl rfl (by decide +kernel) ⟨Nat.le_of_ble_eq_true rfl, Nat.le_of_ble_eq_true rfl⟩) (preVX hK hNW hCW (hLow.at hS (fun q9 _ q => q.elim (rng_M q9) (rng_M q9))) (hX.at hS (fun q9 _ q => q.elim (rng_M q9) (rng_M q9))) (cw_recv hK hCW)) rfl rfl hl.1 rfl (lv_room (Nat.le_of_ble_eq_true rfl)) dL_time_5 ⟨Nat.le_of_ble_eq_true rfl, Nat.le_of_ble_eq_true rfl⟩) hS (fun q _ h => Or.inl h) (fun q h => Or.inl h) (fun q _ h => Or.inl h) (fun E ce q9 u t H locs ht hal _ hBX hsz hk hS hce hcv hcl => ?_) (fun r u t H locs ht hal hp hB hsz hk hS => ?_)
  · skip
    have hOut : outP G a f0 H := kp hk hOut (dj_cons (rng_no ha (by omega)) dj_nil)
    have hCW : CW G a st H := by rw [← ht]; exact hBX.2
    rcases hBX.1 with ⟨rfl, h⟩ | ⟨rfl, h⟩ | ⟨rfl, h⟩
    · skip
      refine vx_catch hown [] ⟨0, 10, 13, 13⟩ [] htab (fun z hz => absurd hz List.not_mem_nil) (by decide) (show 13 ≠ 0 by decide) (hts (.classLink RL 13 "java/lang/IndexOutOfBoundsException") (List.mem_of_getElem? (i := 1) (by decide +kernel))) (va_Nw.use rfl hX.2.1.2.1) hce hcv hcl ?_
      refine lv_astore (lv' := [(4, .ref q9), (0, .ref (a 0)), (1, .int p9), (2, .int g9), (3, .ref (a 115))]) hx hb dL_time_13 hl (by decide) rfl (fun ls hl => ?_)
      refine lv_iconst (v := nI 1) hx hb dL_time_15 (by decide) ?_
      refine retw (Nat.le_of_ble_eq_true rfl) (Nat.le_of_ble_eq_true rfl) ?_
      exact en_wi f0 hx hb hr hlocks hS ⟨by rw [h]; try rfl, fun q => absurd (h.symm.trans q) (by decide)⟩ ⟨hCW, hOut⟩ dL_time_16
    · skip
      exact absurd h (fun h => cd_time.1 h)
    · skip
      exact absurd h (fun h => cd_time.2 h)
  · skip
    have hOut : outP G a f0 H := kp hk hOut (dj_cons (rng_no ha (by omega)) dj_nil)
    have hCW : CW G a st H := by rw [← ht]; exact hB
    refine lv_i2l (v := r.toInt64) hx hb dL_time_8 rfl ?_
    refine pp_last hx hb hK hOut hS (Or.inr (rng_in (by omega))) (vp_in_nI (by omega) (by omega)) dL_time_9 (fun H locs hOut hk2 _ hS => ?_)
    have hCW := CW_o ha hk2 hCW
    refine lv_goto (tgt := 17) hx hb dL_time_10 (by decide) ?_
    refine lv_iconst (v := nI 0) hx hb dL_time_17 (by decide) ?_
    refine retw (Nat.le_of_ble_eq_true rfl) (Nat.le_of_ble_eq_true rfl) ?_
    exact en_wi (vp_updL f0 (nI 0).toNatClampNeg r.toInt64) hx hb hr hlocks hS ⟨by rw [hp.1]; try rfl, fun _ => ⟨r, rfl, hp.2⟩⟩ ⟨hCW, hOut⟩ dL_time_18
set_option maxHeartbeats 4000000 in
set_option maxRecDepth 100000 in
theorem w_path (l : Launch) (hfl : l.stackTraces = false) (G : GG) (a : Nat → Nat) (ha : Inj a) (t9 : Nat) (st : ST) (p9 x9 : Int32) (f0 : Nat → Int64) (hO : OKS st) : vx_Met l yL_path wsL_path ({ frames := 8, cells := 2, slots := 12, locals := 128 } : Room) (PcW G a t9 [.ref (a 0), .int p9, .int x9, .ref (a 115)] (fun H => CW G a st H ∧ outP G a f0 H)) (QI (fun (r : Int32) (f : Nat → Int64) => r = nI (cPa p9 x9) ∧ (cPa p9 x9 = 0 → ∃ x : Int32, f 0 = x.toInt64 ∧ x = paV (st.1 (ix p9)) st.2.1 x9)) (fun f H => CW G a st H ∧ outP G a f H) (orA (rng a 0 93) (rng a 115 1))) (fun _ _ _ => False) 2 12 (orA (rng a 0 93) (rng a 115 1)) := by
  refine vx_ofWH (cc := cL_path) (maxL := 5) (ret := some .int) (hh := [(0, 10, 13, 13)]) (by decide) rfl ?_
  intro p e s m args below meth c s₁ B hml hv
  obtain ⟨⟨⟨⟨rfl, hB, hK, hNW⟩, hLow⟩, hX⟩, hNC⟩ := hv
  obtain ⟨hCW, hOut⟩ := hB
  have hx := B.exec
  have hb := B.bytes
  have hr := B.returns
  have hts := atoms_spec (ws := wsL_path) B.pre
  have hown : s.vm.findClass RL = some m.cls := findClass_of_methodNamed B.named
  have hlocks := B.notSynchronized
  have htab : c.exceptionTable.toList = tableOf [(0, 10, 13, 13)] := vx_table (x := yL_path) B (hts _ List.mem_cons_self)
  have FX : CallFix p m c cL_path 5 s ([.ref (a 0), .int p9, .int x9, .ref (a 115)] : List Value).toArray wsL_path RL := ⟨hx, hb, hml, hown, hts⟩
  have hl := lv_entry ([.ref (a 0), .int p9, .int x9, .ref (a 115)]) (n := 5) (Nat.le_of_ble_eq_true rfl)
  rw [lg_entry_eq]
  generalize (lg_sl ([.ref (a 0), .int p9, .int x9, .ref (a 115)]) ++ List.replicate (5 - (lg_sl ([.ref (a 0), .int p9, .int x9, .ref (a 115)])).length) Slot.unset).toArray = ls at hl ⊢
  have hl : lv_has ls 5 [(0, .ref (a 0)), (1, .int p9), (2, .int x9), (3, .ref (a 115))] := hl
  have hS : va_S (orA (rng a 0 93) (rng a 115 1)) s.heap s.heap [] := va_S.rf
  refine lv_aload_n hx hb dL_path_0 rfl (lv_at hl 3 rfl) ?_
  refine lv_iconst (v := nI 0) hx hb dL_path_1 (by decide) ?_
  refine lv_aload_n hx hb dL_path_2 rfl (lv_at hl 0 rfl) ?_
  refine lv_iload_n hx hb dL_path_3 rfl (lv_at hl 1 rfl) ?_
  refine lv_iload_n hx hb dL_path_4 rfl (lv_at hl 2 rfl) ?_
  refine vx_calli (vx_runV (As := [.int p9, .int x9]) (rest := [.int (nI 0), .ref (a 115)]) FX (k_X11_path l hfl G a ha t9 st p9 x9 hO) (cwV 2 hts gL_path_X11_path rfl rfl rfl (by decide +kernel) ⟨Nat.le_of_ble_eq_true rfl, Nat.le_of_ble_eq_true rfl⟩) (preVX hK hNW hCW (hLow.at hS (fun q9 _ q => q.elim (rng_M q9) (rng_M q9))) (hX.at hS (fun q9 _ q => q.elim (rng_M q9) (rng_M q9))) (cw_recv hK hCW)) rfl rfl hl.1 rfl (lv_room (Nat.le_of_ble_eq_true rfl)) dL_path_5 ⟨Nat.le_of_ble_eq_true rfl, Nat.le_of_ble_eq_true rfl⟩) hS (fun q _ h => Or.inl h) (fun q h => Or.inl h) (fun q _ h => Or.inl h) (fun E ce q9 u t H locs ht hal _ hBX hsz hk hS hce hcv hcl => ?_) (fun r u t H locs ht hal hp hB hsz hk hS => ?_)
  · skip
    have hOut : outP G a f0 H := kp hk hOut (dj_cons (rng_no ha (by omega)) dj_nil)
    have hCW : CW G a st H := by rw [← ht]; exact hBX.2
    rcases hBX.1 with ⟨rfl, h⟩ | ⟨rfl, h⟩ | ⟨rfl, h⟩
    · skip
      refine vx_catch hown [] ⟨0, 10, 13, 13⟩ [] htab (fun z hz => absurd hz List.not_mem_nil) (by decide) (show 13 ≠ 0 by decide) (hts (.classLink RL 13 "java/lang/IndexOutOfBoundsException") (List.mem_of_getElem? (i := 1) (by decide +kernel))) (va_Nw.use rfl hX.2.1.2.1) hce hcv hcl ?_
      refine lv_astore (lv' := [(4, .ref q9), (0, .ref (a 0)), (1, .int p9), (2, .int x9), (3, .ref (a 115))]) hx hb dL_path_13 hl (by decide) rfl (fun ls hl => ?_)
      refine lv_iconst (v := nI 1) hx hb dL_path_15 (by decide) ?_
      refine retw (Nat.le_of_ble_eq_true rfl) (Nat.le_of_ble_eq_true rfl) ?_
      exact en_wi f0 hx hb hr hlocks hS ⟨by rw [h]; try rfl, fun q => absurd (h.symm.trans q) (by decide)⟩ ⟨hCW, hOut⟩ dL_path_16
    · skip
      exact absurd h (fun h => cd_path.1 h)
    · skip
      exact absurd h (fun h => cd_path.2 h)
  · skip
    have hOut : outP G a f0 H := kp hk hOut (dj_cons (rng_no ha (by omega)) dj_nil)
    have hCW : CW G a st H := by rw [← ht]; exact hB
    refine lv_i2l (v := r.toInt64) hx hb dL_path_8 rfl ?_
    refine pp_last hx hb hK hOut hS (Or.inr (rng_in (by omega))) (vp_in_nI (by omega) (by omega)) dL_path_9 (fun H locs hOut hk2 _ hS => ?_)
    have hCW := CW_o ha hk2 hCW
    refine lv_goto (tgt := 17) hx hb dL_path_10 (by decide) ?_
    refine lv_iconst (v := nI 0) hx hb dL_path_17 (by decide) ?_
    refine retw (Nat.le_of_ble_eq_true rfl) (Nat.le_of_ble_eq_true rfl) ?_
    exact en_wi (vp_updL f0 (nI 0).toNatClampNeg r.toInt64) hx hb hr hlocks hS ⟨by rw [hp.1]; try rfl, fun _ => ⟨r, rfl, hp.2⟩⟩ ⟨hCW, hOut⟩ dL_path_18
set_option maxHeartbeats 4000000 in
set_option maxRecDepth 100000 in
theorem w_changes (l : Launch) (hfl : l.stackTraces = false) (G : GG) (a : Nat → Nat) (ha : Inj a) (t9 : Nat) (st : ST) (p9 f9 v9 w9 : Int32) (f0 : Nat → Int64) (hO : OKS st) : vx_Met l yL_changes wsL_changes ({ frames := 9, cells := 4, slots := 24, locals := 151 } : Room) (PcW G a t9 [.ref (a 0), .int p9, .int f9, .int v9, .int w9, .ref (a 115)] (fun H => CW G a st H ∧ outP G a f0 H)) (QI (fun (r : Int32) (f : Nat → Int64) => r = nI (cCh p9 f9 v9 w9) ∧ (cCh p9 f9 v9 w9 = 0 → ∃ x : Int32, f 0 = x.toInt64 ∧ x = nI (tkV (st.1 (ix p9)) st.2.1 (ix f9) (ix v9) (mxT (st.1 (ix p9)) st.2.1 (nG (st.1 (ix p9))) + 1) (ix w9)))) (fun f H => CW G a st H ∧ outP G a f H) (orA (rng a 0 93) (rng a 115 1))) (fun _ _ _ => False) 4 24 (orA (rng a 0 93) (rng a 115 1)) := by
  refine vx_ofWH (cc := cL_changes) (maxL := 7) (ret := some .int) (hh := [(0, 14, 17, 13), (0, 14, 21, 29)]) (by decide) rfl ?_
  intro p e s m args below meth c s₁ B hml hv
  obtain ⟨⟨⟨⟨rfl, hB, hK, hNW⟩, hLow⟩, hX⟩, hNC⟩ := hv
  obtain ⟨hCW, hOut⟩ := hB
  have hx := B.exec
  have hb := B.bytes
  have hr := B.returns
  have hts := atoms_spec (ws := wsL_changes) B.pre
  have hown : s.vm.findClass RL = some m.cls := findClass_of_methodNamed B.named
  have hlocks := B.notSynchronized
  have htab : c.exceptionTable.toList = tableOf [(0, 14, 17, 13), (0, 14, 21, 29)] := vx_table (x := yL_changes) B (hts _ List.mem_cons_self)
  have FX : CallFix p m c cL_changes 7 s ([.ref (a 0), .int p9, .int f9, .int v9, .int w9, .ref (a 115)] : List Value).toArray wsL_changes RL := ⟨hx, hb, hml, hown, hts⟩
  have hl := lv_entry ([.ref (a 0), .int p9, .int f9, .int v9, .int w9, .ref (a 115)]) (n := 7) (Nat.le_of_ble_eq_true rfl)
  rw [lg_entry_eq]
  generalize (lg_sl ([.ref (a 0), .int p9, .int f9, .int v9, .int w9, .ref (a 115)]) ++ List.replicate (7 - (lg_sl ([.ref (a 0), .int p9, .int f9, .int v9, .int w9, .ref (a 115)])).length) Slot.unset).toArray = ls at hl ⊢
  have hl : lv_has ls 7 [(0, .ref (a 0)), (1, .int p9), (2, .int f9), (3, .int v9), (4, .int w9), (5, .ref (a 115))] := hl
  have hS : va_S (orA (rng a 0 93) (rng a 115 1)) s.heap s.heap [] := va_S.rf
  refine lv_aload hx hb dL_changes_0 (lv_at hl 5 rfl) ?_
  refine lv_iconst (v := nI 0) hx hb dL_changes_2 (by decide) ?_
  refine lv_aload_n hx hb dL_changes_3 rfl (lv_at hl 0 rfl) ?_
  refine lv_iload_n hx hb dL_changes_4 rfl (lv_at hl 1 rfl) ?_
  refine lv_iload_n hx hb dL_changes_5 rfl (lv_at hl 2 rfl) ?_
  refine lv_iload_n hx hb dL_changes_6 rfl (lv_at hl 3 rfl) ?_
  refine lv_iload hx hb dL_changes_7 (lv_at hl 4 rfl) ?_
  refine vx_calli (vx_runV (As := [.int p9, .int f9, .int v9, .int w9]) (rest := [.int (nI 0), .ref (a 115)]) FX (k_X11_changes l hfl G a ha t9 st p9 f9 v9 w9 hO) (cwV 4 hts gL_changes_X11_changes rfl rfl rfl (by decide +kernel) ⟨Nat.le_of_ble_eq_true rfl, Nat.le_of_ble_eq_true rfl⟩) (preVX hK hNW hCW (hLow.at hS (fun q9 _ q => q.elim (rng_M q9) (rng_M q9))) (hX.at hS (fun q9 _ q => q.elim (rng_M q9) (rng_M q9))) (cw_recv hK hCW)) rfl rfl hl.1 rfl (lv_room (Nat.le_of_ble_eq_true rfl)) dL_changes_9 ⟨Nat.le_of_ble_eq_true rfl, Nat.le_of_ble_eq_true rfl⟩) hS (fun q _ h => Or.inl h) (fun q h => Or.inl h) (fun q _ h => Or.inl h) (fun E ce q9 u t H locs ht hal _ hBX hsz hk hS hce hcv hcl => ?_) (fun r u t H locs ht hal hp hB hsz hk hS => ?_)
  · skip
    have hOut : outP G a f0 H := kp hk hOut (dj_cons (rng_no ha (by omega)) dj_nil)
    have hCW : CW G a st H := by rw [← ht]; exact hBX.2
    rcases hBX.1 with ⟨rfl, h⟩ | ⟨rfl, h⟩ | ⟨rfl, h⟩
    · skip
      refine vx_catch hown [] ⟨0, 14, 17, 13⟩ [⟨0, 14, 21, 29⟩] htab (fun z hz => absurd hz List.not_mem_nil) (by decide) (show 13 ≠ 0 by decide) (hts (.classLink RL 13 "java/lang/IndexOutOfBoundsException") (List.mem_of_getElem? (i := 1) (by decide +kernel))) (va_Nw.use rfl hX.2.1.2.1) hce hcv hcl ?_
      refine lv_astore (lv' := [(6, .ref q9), (0, .ref (a 0)), (1, .int p9), (2, .int f9), (3, .int v9), (4, .int w9), (5, .ref (a 115))]) hx hb dL_changes_17 hl (by decide) rfl (fun ls hl => ?_)
      refine lv_iconst (v := nI 1) hx hb dL_changes_19 (by decide) ?_
      refine retw (Nat.le_of_ble_eq_true rfl) (Nat.le_of_ble_eq_true rfl) ?_
      exact en_wi f0 hx hb hr hlocks hS ⟨by rw [h]; try rfl, fun q => absurd (h.symm.trans q) (by decide)⟩ ⟨hCW, hOut⟩ dL_changes_20
    · skip
      refine vx_catch hown [⟨0, 14, 17, 13⟩] ⟨0, 14, 21, 29⟩ [] htab (List.forall_mem_cons.mpr ⟨Or.inr ⟨(show 13 ≠ 0 by decide), _, (hts (.classLink RL 13 "java/lang/IndexOutOfBoundsException") (List.mem_of_getElem? (i := 1) (by decide +kernel))), hNC.1⟩, (fun z hz => absurd hz List.not_mem_nil)⟩) (by decide) (show 29 ≠ 0 by decide) (hts (.classLink RL 29 "java/lang/IllegalArgumentException") (List.mem_of_getElem? (i := 2) (by decide +kernel))) (va_Nw.use rfl hX.2.1.2.2.1) hce hcv hcl ?_
      refine lv_astore (lv' := [(6, .ref q9), (0, .ref (a 0)), (1, .int p9), (2, .int f9), (3, .int v9), (4, .int w9), (5, .ref (a 115))]) hx hb dL_changes_21 hl (by decide) rfl (fun ls hl => ?_)
      refine lv_iconst (v := nI 2) hx hb dL_changes_23 (by decide) ?_
      refine retw (Nat.le_of_ble_eq_true rfl) (Nat.le_of_ble_eq_true rfl) ?_
      exact en_wi f0 hx hb hr hlocks hS ⟨by rw [h]; try rfl, fun q => absurd (h.symm.trans q) (by decide)⟩ ⟨hCW, hOut⟩ dL_changes_24
    · skip
      exact absurd h (fun h => cd_changes h)
  · skip
    have hOut : outP G a f0 H := kp hk hOut (dj_cons (rng_no ha (by omega)) dj_nil)
    have hCW : CW G a st H := by rw [← ht]; exact hB
    refine lv_i2l (v := r.toInt64) hx hb dL_changes_12 rfl ?_
    refine pp_last hx hb hK hOut hS (Or.inr (rng_in (by omega))) (vp_in_nI (by omega) (by omega)) dL_changes_13 (fun H locs hOut hk2 _ hS => ?_)
    have hCW := CW_o ha hk2 hCW
    refine lv_goto (tgt := 25) hx hb dL_changes_14 (by decide) ?_
    refine lv_iconst (v := nI 0) hx hb dL_changes_25 (by decide) ?_
    refine retw (Nat.le_of_ble_eq_true rfl) (Nat.le_of_ble_eq_true rfl) ?_
    exact en_wi (vp_updL f0 (nI 0).toNatClampNeg r.toInt64) hx hb hr hlocks hS ⟨by rw [hp.1]; try rfl, fun _ => ⟨r, rfl, hp.2⟩⟩ ⟨hCW, hOut⟩ dL_changes_26
set_option maxHeartbeats 4000000 in
set_option maxRecDepth 100000 in
theorem w_changesAnew (l : Launch) (hfl : l.stackTraces = false) (G : GG) (a : Nat → Nat) (ha : Inj a) (t9 : Nat) (st : ST) (p9 f9 v9 w9 : Int32) (f0 : Nat → Int64) (hO : OKS st) : vx_Met l yL_changesAnew wsL_changesAnew ({ frames := 9, cells := 4, slots := 24, locals := 152 } : Room) (PcW G a t9 [.ref (a 0), .int p9, .int f9, .int v9, .int w9, .ref (a 115)] (fun H => CW G a st H ∧ outP G a f0 H)) (QI (fun (r : Int32) (f : Nat → Int64) => r = nI (cCh p9 f9 v9 w9) ∧ (cCh p9 f9 v9 w9 = 0 → ∃ x : Int32, f 0 = x.toInt64 ∧ x = nI (tkV (st.1 (ix p9)) st.2.1 (ix f9) (ix v9) (mxT (st.1 (ix p9)) st.2.1 (nG (st.1 (ix p9))) + 1) (ix w9)))) (fun f H => CW G a st H ∧ outP G a f H) (orA (rng a 0 93) (rng a 115 1))) (fun _ _ _ => False) 4 24 (orA (rng a 0 93) (rng a 115 1)) := by
  refine vx_ofWH (cc := cL_changesAnew) (maxL := 7) (ret := some .int) (hh := [(0, 14, 17, 13), (0, 14, 21, 29)]) (by decide) rfl ?_
  intro p e s m args below meth c s₁ B hml hv
  obtain ⟨⟨⟨⟨rfl, hB, hK, hNW⟩, hLow⟩, hX⟩, hNC⟩ := hv
  obtain ⟨hCW, hOut⟩ := hB
  have hx := B.exec
  have hb := B.bytes
  have hr := B.returns
  have hts := atoms_spec (ws := wsL_changesAnew) B.pre
  have hown : s.vm.findClass RL = some m.cls := findClass_of_methodNamed B.named
  have hlocks := B.notSynchronized
  have htab : c.exceptionTable.toList = tableOf [(0, 14, 17, 13), (0, 14, 21, 29)] := vx_table (x := yL_changesAnew) B (hts _ List.mem_cons_self)
  have FX : CallFix p m c cL_changesAnew 7 s ([.ref (a 0), .int p9, .int f9, .int v9, .int w9, .ref (a 115)] : List Value).toArray wsL_changesAnew RL := ⟨hx, hb, hml, hown, hts⟩
  have hl := lv_entry ([.ref (a 0), .int p9, .int f9, .int v9, .int w9, .ref (a 115)]) (n := 7) (Nat.le_of_ble_eq_true rfl)
  rw [lg_entry_eq]
  generalize (lg_sl ([.ref (a 0), .int p9, .int f9, .int v9, .int w9, .ref (a 115)]) ++ List.replicate (7 - (lg_sl ([.ref (a 0), .int p9, .int f9, .int v9, .int w9, .ref (a 115)])).length) Slot.unset).toArray = ls at hl ⊢
  have hl : lv_has ls 7 [(0, .ref (a 0)), (1, .int p9), (2, .int f9), (3, .int v9), (4, .int w9), (5, .ref (a 115))] := hl
  have hS : va_S (orA (rng a 0 93) (rng a 115 1)) s.heap s.heap [] := va_S.rf
  refine lv_aload hx hb dL_changesAnew_0 (lv_at hl 5 rfl) ?_
  refine lv_iconst (v := nI 0) hx hb dL_changesAnew_2 (by decide) ?_
  refine lv_aload_n hx hb dL_changesAnew_3 rfl (lv_at hl 0 rfl) ?_
  refine lv_iload_n hx hb dL_changesAnew_4 rfl (lv_at hl 1 rfl) ?_
  refine lv_iload_n hx hb dL_changesAnew_5 rfl (lv_at hl 2 rfl) ?_
  refine lv_iload_n hx hb dL_changesAnew_6 rfl (lv_at hl 3 rfl) ?_
  refine lv_iload hx hb dL_changesAnew_7 (lv_at hl 4 rfl) ?_
  refine vx_calli (vx_runV (As := [.int p9, .int f9, .int v9, .int w9]) (rest := [.int (nI 0), .ref (a 115)]) FX (k_X11_changesAnew l hfl G a ha t9 st p9 f9 v9 w9 hO) (cwV 4 hts gL_changesAnew_X11_changesAnew rfl rfl rfl (by decide +kernel) ⟨Nat.le_of_ble_eq_true rfl, Nat.le_of_ble_eq_true rfl⟩) (preVX hK hNW hCW (hLow.at hS (fun q9 _ q => q.elim (rng_M q9) (rng_M q9))) (hX.at hS (fun q9 _ q => q.elim (rng_M q9) (rng_M q9))) (cw_recv hK hCW)) rfl rfl hl.1 rfl (lv_room (Nat.le_of_ble_eq_true rfl)) dL_changesAnew_9 ⟨Nat.le_of_ble_eq_true rfl, Nat.le_of_ble_eq_true rfl⟩) hS (fun q _ h => Or.inl h) (fun q h => Or.inl h) (fun q _ h => Or.inl h) (fun E ce q9 u t H locs ht hal _ hBX hsz hk hS hce hcv hcl => ?_) (fun r u t H locs ht hal hp hB hsz hk hS => ?_)
  · skip
    have hOut : outP G a f0 H := kp hk hOut (dj_cons (rng_no ha (by omega)) dj_nil)
    have hCW : CW G a st H := by rw [← ht]; exact hBX.2
    rcases hBX.1 with ⟨rfl, h⟩ | ⟨rfl, h⟩ | ⟨rfl, h⟩
    · skip
      refine vx_catch hown [] ⟨0, 14, 17, 13⟩ [⟨0, 14, 21, 29⟩] htab (fun z hz => absurd hz List.not_mem_nil) (by decide) (show 13 ≠ 0 by decide) (hts (.classLink RL 13 "java/lang/IndexOutOfBoundsException") (List.mem_of_getElem? (i := 1) (by decide +kernel))) (va_Nw.use rfl hX.2.1.2.1) hce hcv hcl ?_
      refine lv_astore (lv' := [(6, .ref q9), (0, .ref (a 0)), (1, .int p9), (2, .int f9), (3, .int v9), (4, .int w9), (5, .ref (a 115))]) hx hb dL_changesAnew_17 hl (by decide) rfl (fun ls hl => ?_)
      refine lv_iconst (v := nI 1) hx hb dL_changesAnew_19 (by decide) ?_
      refine retw (Nat.le_of_ble_eq_true rfl) (Nat.le_of_ble_eq_true rfl) ?_
      exact en_wi f0 hx hb hr hlocks hS ⟨by rw [h]; try rfl, fun q => absurd (h.symm.trans q) (by decide)⟩ ⟨hCW, hOut⟩ dL_changesAnew_20
    · skip
      refine vx_catch hown [⟨0, 14, 17, 13⟩] ⟨0, 14, 21, 29⟩ [] htab (List.forall_mem_cons.mpr ⟨Or.inr ⟨(show 13 ≠ 0 by decide), _, (hts (.classLink RL 13 "java/lang/IndexOutOfBoundsException") (List.mem_of_getElem? (i := 1) (by decide +kernel))), hNC.1⟩, (fun z hz => absurd hz List.not_mem_nil)⟩) (by decide) (show 29 ≠ 0 by decide) (hts (.classLink RL 29 "java/lang/IllegalArgumentException") (List.mem_of_getElem? (i := 2) (by decide +kernel))) (va_Nw.use rfl hX.2.1.2.2.1) hce hcv hcl ?_
      refine lv_astore (lv' := [(6, .ref q9), (0, .ref (a 0)), (1, .int p9), (2, .int f9), (3, .int v9), (4, .int w9), (5, .ref (a 115))]) hx hb dL_changesAnew_21 hl (by decide) rfl (fun ls hl => ?_)
      refine lv_iconst (v := nI 2) hx hb dL_changesAnew_23 (by decide) ?_
      refine retw (Nat.le_of_ble_eq_true rfl) (Nat.le_of_ble_eq_true rfl) ?_
      exact en_wi f0 hx hb hr hlocks hS ⟨by rw [h]; try rfl, fun q => absurd (h.symm.trans q) (by decide)⟩ ⟨hCW, hOut⟩ dL_changesAnew_24
    · skip
      exact absurd h (fun h => cd_changes h)
  · skip
    have hOut : outP G a f0 H := kp hk hOut (dj_cons (rng_no ha (by omega)) dj_nil)
    have hCW : CW G a st H := by rw [← ht]; exact hB
    refine lv_i2l (v := r.toInt64) hx hb dL_changesAnew_12 rfl ?_
    refine pp_last hx hb hK hOut hS (Or.inr (rng_in (by omega))) (vp_in_nI (by omega) (by omega)) dL_changesAnew_13 (fun H locs hOut hk2 _ hS => ?_)
    have hCW := CW_o ha hk2 hCW
    refine lv_goto (tgt := 25) hx hb dL_changesAnew_14 (by decide) ?_
    refine lv_iconst (v := nI 0) hx hb dL_changesAnew_25 (by decide) ?_
    refine retw (Nat.le_of_ble_eq_true rfl) (Nat.le_of_ble_eq_true rfl) ?_
    exact en_wi (vp_updL f0 (nI 0).toNatClampNeg r.toInt64) hx hb hr hlocks hS ⟨by rw [hp.1]; try rfl, fun _ => ⟨r, rfl, hp.2⟩⟩ ⟨hCW, hOut⟩ dL_changesAnew_26
set_option maxHeartbeats 4000000 in
set_option maxRecDepth 100000 in
theorem w_off (l : Launch) (hfl : l.stackTraces = false) (G : GG) (a : Nat → Nat) (ha : Inj a) (t9 : Nat) (st : ST) (p9 op9 w9 : Int32) (f0 : Nat → Int64) (hO : OKS st) : vx_Met l yL_off wsL_off ({ frames := 8, cells := 4, slots := 24, locals := 147 } : Room) (PcW G a t9 [.ref (a 0), .int p9, .int op9, .int w9, .ref (a 115)] (fun H => CW G a st H ∧ outP G a f0 H)) (QI (fun (r : Int32) (f : Nat → Int64) => r = nI (cOff st.1 p9 op9 w9) ∧ (cOff st.1 p9 op9 w9 = 0 → ∃ x : Int32, f 0 = x.toInt64 ∧ x = offV (st.1 (ix p9)) (ix op9) (ix w9))) (fun f H => CW G a st H ∧ outP G a f H) (orA (rng a 0 93) (rng a 115 1))) (fun _ _ _ => False) 4 24 (orA (rng a 0 93) (rng a 115 1)) := by
  refine vx_ofWH (cc := cL_off) (maxL := 6) (ret := some .int) (hh := [(0, 12, 15, 13), (0, 12, 19, 29), (0, 12, 23, 15)]) (by decide) rfl ?_
  intro p e s m args below meth c s₁ B hml hv
  obtain ⟨⟨⟨⟨rfl, hB, hK, hNW⟩, hLow⟩, hX⟩, hNC⟩ := hv
  obtain ⟨hCW, hOut⟩ := hB
  have hx := B.exec
  have hb := B.bytes
  have hr := B.returns
  have hts := atoms_spec (ws := wsL_off) B.pre
  have hown : s.vm.findClass RL = some m.cls := findClass_of_methodNamed B.named
  have hlocks := B.notSynchronized
  have htab : c.exceptionTable.toList = tableOf [(0, 12, 15, 13), (0, 12, 19, 29), (0, 12, 23, 15)] := vx_table (x := yL_off) B (hts _ List.mem_cons_self)
  have FX : CallFix p m c cL_off 6 s ([.ref (a 0), .int p9, .int op9, .int w9, .ref (a 115)] : List Value).toArray wsL_off RL := ⟨hx, hb, hml, hown, hts⟩
  have hl := lv_entry ([.ref (a 0), .int p9, .int op9, .int w9, .ref (a 115)]) (n := 6) (Nat.le_of_ble_eq_true rfl)
  rw [lg_entry_eq]
  generalize (lg_sl ([.ref (a 0), .int p9, .int op9, .int w9, .ref (a 115)]) ++ List.replicate (6 - (lg_sl ([.ref (a 0), .int p9, .int op9, .int w9, .ref (a 115)])).length) Slot.unset).toArray = ls at hl ⊢
  have hl : lv_has ls 6 [(0, .ref (a 0)), (1, .int p9), (2, .int op9), (3, .int w9), (4, .ref (a 115))] := hl
  have hS : va_S (orA (rng a 0 93) (rng a 115 1)) s.heap s.heap [] := va_S.rf
  refine lv_aload hx hb dL_off_0 (lv_at hl 4 rfl) ?_
  refine lv_iconst (v := nI 0) hx hb dL_off_2 (by decide) ?_
  refine lv_aload_n hx hb dL_off_3 rfl (lv_at hl 0 rfl) ?_
  refine lv_iload_n hx hb dL_off_4 rfl (lv_at hl 1 rfl) ?_
  refine lv_iload_n hx hb dL_off_5 rfl (lv_at hl 2 rfl) ?_
  refine lv_iload_n hx hb dL_off_6 rfl (lv_at hl 3 rfl) ?_
  refine vx_calli (vx_runV (As := [.int p9, .int op9, .int w9]) (rest := [.int (nI 0), .ref (a 115)]) FX (k_X11_off l hfl G a ha t9 st p9 op9 w9 hO) (cwV 3 hts gL_off_X11_off rfl rfl rfl (by decide +kernel) ⟨Nat.le_of_ble_eq_true rfl, Nat.le_of_ble_eq_true rfl⟩) (preVX hK hNW hCW (hLow.at hS (fun q9 _ q => q.elim (rng_M q9) (rng_M q9))) (hX.at hS (fun q9 _ q => q.elim (rng_M q9) (rng_M q9))) (cw_recv hK hCW)) rfl rfl hl.1 rfl (lv_room (Nat.le_of_ble_eq_true rfl)) dL_off_7 ⟨Nat.le_of_ble_eq_true rfl, Nat.le_of_ble_eq_true rfl⟩) hS (fun q _ h => Or.inl h) (fun q h => Or.inl h) (fun q _ h => Or.inl h) (fun E ce q9 u t H locs ht hal _ hBX hsz hk hS hce hcv hcl => ?_) (fun r u t H locs ht hal hp hB hsz hk hS => ?_)
  · skip
    have hOut : outP G a f0 H := kp hk hOut (dj_cons (rng_no ha (by omega)) dj_nil)
    have hCW : CW G a st H := by rw [← ht]; exact hBX.2
    rcases hBX.1 with ⟨rfl, h⟩ | ⟨rfl, h⟩ | ⟨rfl, h⟩
    · skip
      refine vx_catch hown [] ⟨0, 12, 15, 13⟩ [⟨0, 12, 19, 29⟩, ⟨0, 12, 23, 15⟩] htab (fun z hz => absurd hz List.not_mem_nil) (by decide) (show 13 ≠ 0 by decide) (hts (.classLink RL 13 "java/lang/IndexOutOfBoundsException") (List.mem_of_getElem? (i := 1) (by decide +kernel))) (va_Nw.use rfl hX.2.1.2.1) hce hcv hcl ?_
      refine lv_astore (lv' := [(5, .ref q9), (0, .ref (a 0)), (1, .int p9), (2, .int op9), (3, .int w9), (4, .ref (a 115))]) hx hb dL_off_15 hl (by decide) rfl (fun ls hl => ?_)
      refine lv_iconst (v := nI 1) hx hb dL_off_17 (by decide) ?_
      refine retw (Nat.le_of_ble_eq_true rfl) (Nat.le_of_ble_eq_true rfl) ?_
      exact en_wi f0 hx hb hr hlocks hS ⟨by rw [h]; try rfl, fun q => absurd (h.symm.trans q) (by decide)⟩ ⟨hCW, hOut⟩ dL_off_18
    · skip
      refine vx_catch hown [⟨0, 12, 15, 13⟩] ⟨0, 12, 19, 29⟩ [⟨0, 12, 23, 15⟩] htab (List.forall_mem_cons.mpr ⟨Or.inr ⟨(show 13 ≠ 0 by decide), _, (hts (.classLink RL 13 "java/lang/IndexOutOfBoundsException") (List.mem_of_getElem? (i := 1) (by decide +kernel))), hNC.1⟩, (fun z hz => absurd hz List.not_mem_nil)⟩) (by decide) (show 29 ≠ 0 by decide) (hts (.classLink RL 29 "java/lang/IllegalArgumentException") (List.mem_of_getElem? (i := 2) (by decide +kernel))) (va_Nw.use rfl hX.2.1.2.2.1) hce hcv hcl ?_
      refine lv_astore (lv' := [(5, .ref q9), (0, .ref (a 0)), (1, .int p9), (2, .int op9), (3, .int w9), (4, .ref (a 115))]) hx hb dL_off_19 hl (by decide) rfl (fun ls hl => ?_)
      refine lv_iconst (v := nI 2) hx hb dL_off_21 (by decide) ?_
      refine retw (Nat.le_of_ble_eq_true rfl) (Nat.le_of_ble_eq_true rfl) ?_
      exact en_wi f0 hx hb hr hlocks hS ⟨by rw [h]; try rfl, fun q => absurd (h.symm.trans q) (by decide)⟩ ⟨hCW, hOut⟩ dL_off_22
    · skip
      refine vx_catch hown [⟨0, 12, 15, 13⟩, ⟨0, 12, 19, 29⟩] ⟨0, 12, 23, 15⟩ [] htab (List.forall_mem_cons.mpr ⟨Or.inr ⟨(show 13 ≠ 0 by decide), _, (hts (.classLink RL 13 "java/lang/IndexOutOfBoundsException") (List.mem_of_getElem? (i := 1) (by decide +kernel))), hNC.2.1⟩, (List.forall_mem_cons.mpr ⟨Or.inr ⟨(show 29 ≠ 0 by decide), _, (hts (.classLink RL 29 "java/lang/IllegalArgumentException") (List.mem_of_getElem? (i := 2) (by decide +kernel))), hNC.2.2⟩, (fun z hz => absurd hz List.not_mem_nil)⟩)⟩) (by decide) (show 15 ≠ 0 by decide) (hts (.classLink RL 15 "java/lang/IllegalStateException") (List.mem_of_getElem? (i := 3) (by decide +kernel))) (va_Nw.use rfl hX.2.1.2.2.2) hce hcv hcl ?_
      refine lv_astore (lv' := [(5, .ref q9), (0, .ref (a 0)), (1, .int p9), (2, .int op9), (3, .int w9), (4, .ref (a 115))]) hx hb dL_off_23 hl (by decide) rfl (fun ls hl => ?_)
      refine lv_iconst (v := nI 3) hx hb dL_off_25 (by decide) ?_
      refine retw (Nat.le_of_ble_eq_true rfl) (Nat.le_of_ble_eq_true rfl) ?_
      exact en_wi f0 hx hb hr hlocks hS ⟨by rw [h]; try rfl, fun q => absurd (h.symm.trans q) (by decide)⟩ ⟨hCW, hOut⟩ dL_off_26
  · skip
    have hOut : outP G a f0 H := kp hk hOut (dj_cons (rng_no ha (by omega)) dj_nil)
    have hCW : CW G a st H := by rw [← ht]; exact hB
    refine lv_i2l (v := r.toInt64) hx hb dL_off_10 rfl ?_
    refine pp_last hx hb hK hOut hS (Or.inr (rng_in (by omega))) (vp_in_nI (by omega) (by omega)) dL_off_11 (fun H locs hOut hk2 _ hS => ?_)
    have hCW := CW_o ha hk2 hCW
    refine lv_goto (tgt := 27) hx hb dL_off_12 (by decide) ?_
    refine lv_iconst (v := nI 0) hx hb dL_off_27 (by decide) ?_
    refine retw (Nat.le_of_ble_eq_true rfl) (Nat.le_of_ble_eq_true rfl) ?_
    exact en_wi (vp_updL f0 (nI 0).toNatClampNeg r.toInt64) hx hb hr hlocks hS ⟨by rw [hp.1]; try rfl, fun _ => ⟨r, rfl, hp.2⟩⟩ ⟨hCW, hOut⟩ dL_off_28
set_option maxHeartbeats 4000000 in
set_option maxRecDepth 100000 in
theorem w_unseen (l : Launch) (hfl : l.stackTraces = false) (G : GG) (a : Nat → Nat) (ha : Inj a) (t9 : Nat) (st : ST) (p9 op9 w9 : Int32) (f0 : Nat → Int64) (hO : OKS st) : vx_Met l yL_unseen wsL_unseen ({ frames := 8, cells := 4, slots := 24, locals := 147 } : Room) (PcW G a t9 [.ref (a 0), .int p9, .int op9, .int w9, .ref (a 115)] (fun H => CW G a st H ∧ outP G a f0 H)) (QI (fun (r : Int32) (f : Nat → Int64) => r = nI (cUns st.1 p9 op9 w9) ∧ (cUns st.1 p9 op9 w9 = 0 → ∃ x : Int32, f 0 = x.toInt64 ∧ x = AU (st.1 (ix p9)) (ix op9) (ix w9) (2 ^ nIn (st.1 (ix p9))))) (fun f H => CW G a st H ∧ outP G a f H) (orA (rng a 0 93) (rng a 115 1))) (fun _ _ _ => False) 4 24 (orA (rng a 0 93) (rng a 115 1)) := by
  refine vx_ofWH (cc := cL_unseen) (maxL := 6) (ret := some .int) (hh := [(0, 12, 15, 13), (0, 12, 19, 29), (0, 12, 23, 15)]) (by decide) rfl ?_
  intro p e s m args below meth c s₁ B hml hv
  obtain ⟨⟨⟨⟨rfl, hB, hK, hNW⟩, hLow⟩, hX⟩, hNC⟩ := hv
  obtain ⟨hCW, hOut⟩ := hB
  have hx := B.exec
  have hb := B.bytes
  have hr := B.returns
  have hts := atoms_spec (ws := wsL_unseen) B.pre
  have hown : s.vm.findClass RL = some m.cls := findClass_of_methodNamed B.named
  have hlocks := B.notSynchronized
  have htab : c.exceptionTable.toList = tableOf [(0, 12, 15, 13), (0, 12, 19, 29), (0, 12, 23, 15)] := vx_table (x := yL_unseen) B (hts _ List.mem_cons_self)
  have FX : CallFix p m c cL_unseen 6 s ([.ref (a 0), .int p9, .int op9, .int w9, .ref (a 115)] : List Value).toArray wsL_unseen RL := ⟨hx, hb, hml, hown, hts⟩
  have hl := lv_entry ([.ref (a 0), .int p9, .int op9, .int w9, .ref (a 115)]) (n := 6) (Nat.le_of_ble_eq_true rfl)
  rw [lg_entry_eq]
  generalize (lg_sl ([.ref (a 0), .int p9, .int op9, .int w9, .ref (a 115)]) ++ List.replicate (6 - (lg_sl ([.ref (a 0), .int p9, .int op9, .int w9, .ref (a 115)])).length) Slot.unset).toArray = ls at hl ⊢
  have hl : lv_has ls 6 [(0, .ref (a 0)), (1, .int p9), (2, .int op9), (3, .int w9), (4, .ref (a 115))] := hl
  have hS : va_S (orA (rng a 0 93) (rng a 115 1)) s.heap s.heap [] := va_S.rf
  refine lv_aload hx hb dL_unseen_0 (lv_at hl 4 rfl) ?_
  refine lv_iconst (v := nI 0) hx hb dL_unseen_2 (by decide) ?_
  refine lv_aload_n hx hb dL_unseen_3 rfl (lv_at hl 0 rfl) ?_
  refine lv_iload_n hx hb dL_unseen_4 rfl (lv_at hl 1 rfl) ?_
  refine lv_iload_n hx hb dL_unseen_5 rfl (lv_at hl 2 rfl) ?_
  refine lv_iload_n hx hb dL_unseen_6 rfl (lv_at hl 3 rfl) ?_
  refine vx_calli (vx_runV (As := [.int p9, .int op9, .int w9]) (rest := [.int (nI 0), .ref (a 115)]) FX (k_X11_unseen l hfl G a ha t9 st p9 op9 w9 hO) (cwV 3 hts gL_unseen_X11_unseen rfl rfl rfl (by decide +kernel) ⟨Nat.le_of_ble_eq_true rfl, Nat.le_of_ble_eq_true rfl⟩) (preVX hK hNW hCW (hLow.at hS (fun q9 _ q => q.elim (rng_M q9) (rng_M q9))) (hX.at hS (fun q9 _ q => q.elim (rng_M q9) (rng_M q9))) (cw_recv hK hCW)) rfl rfl hl.1 rfl (lv_room (Nat.le_of_ble_eq_true rfl)) dL_unseen_7 ⟨Nat.le_of_ble_eq_true rfl, Nat.le_of_ble_eq_true rfl⟩) hS (fun q _ h => Or.inl h) (fun q h => Or.inl h) (fun q _ h => Or.inl h) (fun E ce q9 u t H locs ht hal _ hBX hsz hk hS hce hcv hcl => ?_) (fun r u t H locs ht hal hp hB hsz hk hS => ?_)
  · skip
    have hOut : outP G a f0 H := kp hk hOut (dj_cons (rng_no ha (by omega)) dj_nil)
    have hCW : CW G a st H := by rw [← ht]; exact hBX.2
    rcases hBX.1 with ⟨rfl, h⟩ | ⟨rfl, h⟩ | ⟨rfl, h⟩
    · skip
      refine vx_catch hown [] ⟨0, 12, 15, 13⟩ [⟨0, 12, 19, 29⟩, ⟨0, 12, 23, 15⟩] htab (fun z hz => absurd hz List.not_mem_nil) (by decide) (show 13 ≠ 0 by decide) (hts (.classLink RL 13 "java/lang/IndexOutOfBoundsException") (List.mem_of_getElem? (i := 1) (by decide +kernel))) (va_Nw.use rfl hX.2.1.2.1) hce hcv hcl ?_
      refine lv_astore (lv' := [(5, .ref q9), (0, .ref (a 0)), (1, .int p9), (2, .int op9), (3, .int w9), (4, .ref (a 115))]) hx hb dL_unseen_15 hl (by decide) rfl (fun ls hl => ?_)
      refine lv_iconst (v := nI 1) hx hb dL_unseen_17 (by decide) ?_
      refine retw (Nat.le_of_ble_eq_true rfl) (Nat.le_of_ble_eq_true rfl) ?_
      exact en_wi f0 hx hb hr hlocks hS ⟨by rw [h]; try rfl, fun q => absurd (h.symm.trans q) (by decide)⟩ ⟨hCW, hOut⟩ dL_unseen_18
    · skip
      refine vx_catch hown [⟨0, 12, 15, 13⟩] ⟨0, 12, 19, 29⟩ [⟨0, 12, 23, 15⟩] htab (List.forall_mem_cons.mpr ⟨Or.inr ⟨(show 13 ≠ 0 by decide), _, (hts (.classLink RL 13 "java/lang/IndexOutOfBoundsException") (List.mem_of_getElem? (i := 1) (by decide +kernel))), hNC.1⟩, (fun z hz => absurd hz List.not_mem_nil)⟩) (by decide) (show 29 ≠ 0 by decide) (hts (.classLink RL 29 "java/lang/IllegalArgumentException") (List.mem_of_getElem? (i := 2) (by decide +kernel))) (va_Nw.use rfl hX.2.1.2.2.1) hce hcv hcl ?_
      refine lv_astore (lv' := [(5, .ref q9), (0, .ref (a 0)), (1, .int p9), (2, .int op9), (3, .int w9), (4, .ref (a 115))]) hx hb dL_unseen_19 hl (by decide) rfl (fun ls hl => ?_)
      refine lv_iconst (v := nI 2) hx hb dL_unseen_21 (by decide) ?_
      refine retw (Nat.le_of_ble_eq_true rfl) (Nat.le_of_ble_eq_true rfl) ?_
      exact en_wi f0 hx hb hr hlocks hS ⟨by rw [h]; try rfl, fun q => absurd (h.symm.trans q) (by decide)⟩ ⟨hCW, hOut⟩ dL_unseen_22
    · skip
      refine vx_catch hown [⟨0, 12, 15, 13⟩, ⟨0, 12, 19, 29⟩] ⟨0, 12, 23, 15⟩ [] htab (List.forall_mem_cons.mpr ⟨Or.inr ⟨(show 13 ≠ 0 by decide), _, (hts (.classLink RL 13 "java/lang/IndexOutOfBoundsException") (List.mem_of_getElem? (i := 1) (by decide +kernel))), hNC.2.1⟩, (List.forall_mem_cons.mpr ⟨Or.inr ⟨(show 29 ≠ 0 by decide), _, (hts (.classLink RL 29 "java/lang/IllegalArgumentException") (List.mem_of_getElem? (i := 2) (by decide +kernel))), hNC.2.2⟩, (fun z hz => absurd hz List.not_mem_nil)⟩)⟩) (by decide) (show 15 ≠ 0 by decide) (hts (.classLink RL 15 "java/lang/IllegalStateException") (List.mem_of_getElem? (i := 3) (by decide +kernel))) (va_Nw.use rfl hX.2.1.2.2.2) hce hcv hcl ?_
      refine lv_astore (lv' := [(5, .ref q9), (0, .ref (a 0)), (1, .int p9), (2, .int op9), (3, .int w9), (4, .ref (a 115))]) hx hb dL_unseen_23 hl (by decide) rfl (fun ls hl => ?_)
      refine lv_iconst (v := nI 3) hx hb dL_unseen_25 (by decide) ?_
      refine retw (Nat.le_of_ble_eq_true rfl) (Nat.le_of_ble_eq_true rfl) ?_
      exact en_wi f0 hx hb hr hlocks hS ⟨by rw [h]; try rfl, fun q => absurd (h.symm.trans q) (by decide)⟩ ⟨hCW, hOut⟩ dL_unseen_26
  · skip
    have hOut : outP G a f0 H := kp hk hOut (dj_cons (rng_no ha (by omega)) dj_nil)
    have hCW : CW G a st H := by rw [← ht]; exact hB
    refine lv_i2l (v := r.toInt64) hx hb dL_unseen_10 rfl ?_
    refine pp_last hx hb hK hOut hS (Or.inr (rng_in (by omega))) (vp_in_nI (by omega) (by omega)) dL_unseen_11 (fun H locs hOut hk2 _ hS => ?_)
    have hCW := CW_o ha hk2 hCW
    refine lv_goto (tgt := 27) hx hb dL_unseen_12 (by decide) ?_
    refine lv_iconst (v := nI 0) hx hb dL_unseen_27 (by decide) ?_
    refine retw (Nat.le_of_ble_eq_true rfl) (Nat.le_of_ble_eq_true rfl) ?_
    exact en_wi (vp_updL f0 (nI 0).toNatClampNeg r.toInt64) hx hb hr hlocks hS ⟨by rw [hp.1]; try rfl, fun _ => ⟨r, rfl, hp.2⟩⟩ ⟨hCW, hOut⟩ dL_unseen_28
set_option maxHeartbeats 4000000 in
set_option maxRecDepth 100000 in
theorem w_unlike (l : Launch) (hfl : l.stackTraces = false) (G : GG) (a : Nat → Nat) (ha : Inj a) (t9 : Nat) (st : ST) (p9 v9 : Int32) (f0 : Nat → Int64) (hO : OKS st) : vx_Met l yL_unlike wsL_unlike ({ frames := 8, cells := 3, slots := 18, locals := 130 } : Room) (PcW G a t9 [.ref (a 0), .int p9, .int v9, .ref (a 115)] (fun H => CW G a st H ∧ outP G a f0 H)) (QI (fun (r : Int32) (f : Nat → Int64) => r = nI (c2 (cUn st.1 p9 v9)) ∧ (cUn st.1 p9 v9 = 0 → ∃ x : Int32, f 0 = x.toInt64 ∧ unS (st.1 (ix p9)) (st.1 (ix v9)) (2 ^ nIn (st.1 (ix p9))) x)) (fun f H => CW G a st H ∧ outP G a f H) (orA (rng a 0 93) (rng a 115 1))) (fun _ _ _ => False) 3 18 (orA (rng a 0 93) (rng a 115 1)) := by
  refine vx_ofWH (cc := cL_unlike) (maxL := 5) (ret := some .int) (hh := [(0, 10, 13, 13), (0, 10, 17, 15)]) (by decide) rfl ?_
  intro p e s m args below meth c s₁ B hml hv
  obtain ⟨⟨⟨⟨rfl, hB, hK, hNW⟩, hLow⟩, hX⟩, hNC⟩ := hv
  obtain ⟨hCW, hOut⟩ := hB
  have hx := B.exec
  have hb := B.bytes
  have hr := B.returns
  have hts := atoms_spec (ws := wsL_unlike) B.pre
  have hown : s.vm.findClass RL = some m.cls := findClass_of_methodNamed B.named
  have hlocks := B.notSynchronized
  have htab : c.exceptionTable.toList = tableOf [(0, 10, 13, 13), (0, 10, 17, 15)] := vx_table (x := yL_unlike) B (hts _ List.mem_cons_self)
  have FX : CallFix p m c cL_unlike 5 s ([.ref (a 0), .int p9, .int v9, .ref (a 115)] : List Value).toArray wsL_unlike RL := ⟨hx, hb, hml, hown, hts⟩
  have hl := lv_entry ([.ref (a 0), .int p9, .int v9, .ref (a 115)]) (n := 5) (Nat.le_of_ble_eq_true rfl)
  rw [lg_entry_eq]
  generalize (lg_sl ([.ref (a 0), .int p9, .int v9, .ref (a 115)]) ++ List.replicate (5 - (lg_sl ([.ref (a 0), .int p9, .int v9, .ref (a 115)])).length) Slot.unset).toArray = ls at hl ⊢
  have hl : lv_has ls 5 [(0, .ref (a 0)), (1, .int p9), (2, .int v9), (3, .ref (a 115))] := hl
  have hS : va_S (orA (rng a 0 93) (rng a 115 1)) s.heap s.heap [] := va_S.rf
  refine lv_aload_n hx hb dL_unlike_0 rfl (lv_at hl 3 rfl) ?_
  refine lv_iconst (v := nI 0) hx hb dL_unlike_1 (by decide) ?_
  refine lv_aload_n hx hb dL_unlike_2 rfl (lv_at hl 0 rfl) ?_
  refine lv_iload_n hx hb dL_unlike_3 rfl (lv_at hl 1 rfl) ?_
  refine lv_iload_n hx hb dL_unlike_4 rfl (lv_at hl 2 rfl) ?_
  refine vx_calli (vx_runV (As := [.int p9, .int v9]) (rest := [.int (nI 0), .ref (a 115)]) FX (k_X11_unlike l hfl G a ha t9 st p9 v9 hO) (cwV 2 hts gL_unlike_X11_unlike rfl rfl rfl (by decide +kernel) ⟨Nat.le_of_ble_eq_true rfl, Nat.le_of_ble_eq_true rfl⟩) (preVX hK hNW hCW (hLow.at hS (fun q9 _ q => q.elim (rng_M q9) (rng_M q9))) (hX.at hS (fun q9 _ q => q.elim (rng_M q9) (rng_M q9))) (cw_recv hK hCW)) rfl rfl hl.1 rfl (lv_room (Nat.le_of_ble_eq_true rfl)) dL_unlike_5 ⟨Nat.le_of_ble_eq_true rfl, Nat.le_of_ble_eq_true rfl⟩) hS (fun q _ h => Or.inl h) (fun q h => Or.inl h) (fun q _ h => Or.inl h) (fun E ce q9 u t H locs ht hal _ hBX hsz hk hS hce hcv hcl => ?_) (fun r u t H locs ht hal hp hB hsz hk hS => ?_)
  · skip
    have hOut : outP G a f0 H := kp hk hOut (dj_cons (rng_no ha (by omega)) dj_nil)
    have hCW : CW G a st H := by rw [← ht]; exact hBX.2
    rcases hBX.1 with ⟨rfl, h⟩ | ⟨rfl, h⟩ | ⟨rfl, h⟩
    · skip
      refine vx_catch hown [] ⟨0, 10, 13, 13⟩ [⟨0, 10, 17, 15⟩] htab (fun z hz => absurd hz List.not_mem_nil) (by decide) (show 13 ≠ 0 by decide) (hts (.classLink RL 13 "java/lang/IndexOutOfBoundsException") (List.mem_of_getElem? (i := 1) (by decide +kernel))) (va_Nw.use rfl hX.2.1.2.1) hce hcv hcl ?_
      refine lv_astore (lv' := [(4, .ref q9), (0, .ref (a 0)), (1, .int p9), (2, .int v9), (3, .ref (a 115))]) hx hb dL_unlike_13 hl (by decide) rfl (fun ls hl => ?_)
      refine lv_iconst (v := nI 1) hx hb dL_unlike_15 (by decide) ?_
      refine retw (Nat.le_of_ble_eq_true rfl) (Nat.le_of_ble_eq_true rfl) ?_
      exact en_wi f0 hx hb hr hlocks hS ⟨by rw [h]; try rfl, fun q => absurd (h.symm.trans q) (by decide)⟩ ⟨hCW, hOut⟩ dL_unlike_16
    · skip
      exact absurd h (fun h => cd_unlike h)
    · skip
      refine vx_catch hown [⟨0, 10, 13, 13⟩] ⟨0, 10, 17, 15⟩ [] htab (List.forall_mem_cons.mpr ⟨Or.inr ⟨(show 13 ≠ 0 by decide), _, (hts (.classLink RL 13 "java/lang/IndexOutOfBoundsException") (List.mem_of_getElem? (i := 1) (by decide +kernel))), hNC.2.1⟩, (fun z hz => absurd hz List.not_mem_nil)⟩) (by decide) (show 15 ≠ 0 by decide) (hts (.classLink RL 15 "java/lang/IllegalStateException") (List.mem_of_getElem? (i := 2) (by decide +kernel))) (va_Nw.use rfl hX.2.1.2.2.2) hce hcv hcl ?_
      refine lv_astore (lv' := [(4, .ref q9), (0, .ref (a 0)), (1, .int p9), (2, .int v9), (3, .ref (a 115))]) hx hb dL_unlike_17 hl (by decide) rfl (fun ls hl => ?_)
      refine lv_iconst (v := nI 2) hx hb dL_unlike_19 (by decide) ?_
      refine retw (Nat.le_of_ble_eq_true rfl) (Nat.le_of_ble_eq_true rfl) ?_
      exact en_wi f0 hx hb hr hlocks hS ⟨by rw [h]; try rfl, fun q => absurd (h.symm.trans q) (by decide)⟩ ⟨hCW, hOut⟩ dL_unlike_20
  · skip
    have hOut : outP G a f0 H := kp hk hOut (dj_cons (rng_no ha (by omega)) dj_nil)
    have hCW : CW G a st H := by rw [← ht]; exact hB
    refine lv_i2l (v := r.toInt64) hx hb dL_unlike_8 rfl ?_
    refine pp_last hx hb hK hOut hS (Or.inr (rng_in (by omega))) (vp_in_nI (by omega) (by omega)) dL_unlike_9 (fun H locs hOut hk2 _ hS => ?_)
    have hCW := CW_o ha hk2 hCW
    refine lv_goto (tgt := 21) hx hb dL_unlike_10 (by decide) ?_
    refine lv_iconst (v := nI 0) hx hb dL_unlike_21 (by decide) ?_
    refine retw (Nat.le_of_ble_eq_true rfl) (Nat.le_of_ble_eq_true rfl) ?_
    exact en_wi (vp_updL f0 (nI 0).toNatClampNeg r.toInt64) hx hb hr hlocks hS ⟨by rw [hp.1]; try rfl, fun _ => ⟨r, rfl, hp.2⟩⟩ ⟨hCW, hOut⟩ dL_unlike_22
set_option maxHeartbeats 4000000 in
set_option maxRecDepth 100000 in
theorem w_digit (l : Launch) (hfl : l.stackTraces = false) (G : GG) (a : Nat → Nat) (ha : Inj a) (t9 : Nat) (st : ST) (x9 k9 : Int32) (f0 : Nat → Int64) (hO : OKS st) : vx_Met l yL_digit wsL_digit ({ frames := 8, cells := 1, slots := 6, locals := 128 } : Room) (PcW G a t9 [.ref (a 0), .int x9, .int k9, .ref (a 115)] (fun H => CW G a st H ∧ outP G a f0 H)) (QI (fun (r : Int32) (f : Nat → Int64) => r = nI (cDi x9 k9) ∧ (cDi x9 k9 = 0 → ∃ x : Int32, f 0 = x.toInt64 ∧ x = diV x9 (ix k9))) (fun f H => CW G a st H ∧ outP G a f H) (orA (rng a 0 93) (rng a 115 1))) (fun _ _ _ => False) 1 6 (orA (rng a 0 93) (rng a 115 1)) := by
  refine vx_ofWH (cc := cL_digit) (maxL := 5) (ret := some .int) (hh := [(0, 10, 13, 13), (0, 10, 17, 29)]) (by decide) rfl ?_
  intro p e s m args below meth c s₁ B hml hv
  obtain ⟨⟨⟨⟨rfl, hB, hK, hNW⟩, hLow⟩, hX⟩, hNC⟩ := hv
  obtain ⟨hCW, hOut⟩ := hB
  have hx := B.exec
  have hb := B.bytes
  have hr := B.returns
  have hts := atoms_spec (ws := wsL_digit) B.pre
  have hown : s.vm.findClass RL = some m.cls := findClass_of_methodNamed B.named
  have hlocks := B.notSynchronized
  have htab : c.exceptionTable.toList = tableOf [(0, 10, 13, 13), (0, 10, 17, 29)] := vx_table (x := yL_digit) B (hts _ List.mem_cons_self)
  have FX : CallFix p m c cL_digit 5 s ([.ref (a 0), .int x9, .int k9, .ref (a 115)] : List Value).toArray wsL_digit RL := ⟨hx, hb, hml, hown, hts⟩
  have hl := lv_entry ([.ref (a 0), .int x9, .int k9, .ref (a 115)]) (n := 5) (Nat.le_of_ble_eq_true rfl)
  rw [lg_entry_eq]
  generalize (lg_sl ([.ref (a 0), .int x9, .int k9, .ref (a 115)]) ++ List.replicate (5 - (lg_sl ([.ref (a 0), .int x9, .int k9, .ref (a 115)])).length) Slot.unset).toArray = ls at hl ⊢
  have hl : lv_has ls 5 [(0, .ref (a 0)), (1, .int x9), (2, .int k9), (3, .ref (a 115))] := hl
  have hS : va_S (orA (rng a 0 93) (rng a 115 1)) s.heap s.heap [] := va_S.rf
  refine lv_aload_n hx hb dL_digit_0 rfl (lv_at hl 3 rfl) ?_
  refine lv_iconst (v := nI 0) hx hb dL_digit_1 (by decide) ?_
  refine lv_aload_n hx hb dL_digit_2 rfl (lv_at hl 0 rfl) ?_
  refine lv_iload_n hx hb dL_digit_3 rfl (lv_at hl 1 rfl) ?_
  refine lv_iload_n hx hb dL_digit_4 rfl (lv_at hl 2 rfl) ?_
  refine vx_calli (vx_runV (As := [.int x9, .int k9]) (rest := [.int (nI 0), .ref (a 115)]) FX (k_X11_digit l hfl G a ha t9 st x9 k9 hO) (cwV 2 hts gL_digit_X11_digit rfl rfl rfl (by decide +kernel) ⟨Nat.le_of_ble_eq_true rfl, Nat.le_of_ble_eq_true rfl⟩) (preVX hK hNW hCW (hLow.at hS (fun q9 _ q => q.elim (rng_M q9) (rng_M q9))) (hX.at hS (fun q9 _ q => q.elim (rng_M q9) (rng_M q9))) (cw_recv hK hCW)) rfl rfl hl.1 rfl (lv_room (Nat.le_of_ble_eq_true rfl)) dL_digit_5 ⟨Nat.le_of_ble_eq_true rfl, Nat.le_of_ble_eq_true rfl⟩) hS (fun q _ h => Or.inl h) (fun q h => Or.inl h) (fun q _ h => Or.inl h) (fun E ce q9 u t H locs ht hal _ hBX hsz hk hS hce hcv hcl => ?_) (fun r u t H locs ht hal hp hB hsz hk hS => ?_)
  · skip
    have hOut : outP G a f0 H := kp hk hOut (dj_cons (rng_no ha (by omega)) dj_nil)
    have hCW : CW G a st H := by rw [← ht]; exact hBX.2
    rcases hBX.1 with ⟨rfl, h⟩ | ⟨rfl, h⟩ | ⟨rfl, h⟩
    · skip
      refine vx_catch hown [] ⟨0, 10, 13, 13⟩ [⟨0, 10, 17, 29⟩] htab (fun z hz => absurd hz List.not_mem_nil) (by decide) (show 13 ≠ 0 by decide) (hts (.classLink RL 13 "java/lang/IndexOutOfBoundsException") (List.mem_of_getElem? (i := 1) (by decide +kernel))) (va_Nw.use rfl hX.2.1.2.1) hce hcv hcl ?_
      refine lv_astore (lv' := [(4, .ref q9), (0, .ref (a 0)), (1, .int x9), (2, .int k9), (3, .ref (a 115))]) hx hb dL_digit_13 hl (by decide) rfl (fun ls hl => ?_)
      refine lv_iconst (v := nI 1) hx hb dL_digit_15 (by decide) ?_
      refine retw (Nat.le_of_ble_eq_true rfl) (Nat.le_of_ble_eq_true rfl) ?_
      exact en_wi f0 hx hb hr hlocks hS ⟨by rw [h]; try rfl, fun q => absurd (h.symm.trans q) (by decide)⟩ ⟨hCW, hOut⟩ dL_digit_16
    · skip
      refine vx_catch hown [⟨0, 10, 13, 13⟩] ⟨0, 10, 17, 29⟩ [] htab (List.forall_mem_cons.mpr ⟨Or.inr ⟨(show 13 ≠ 0 by decide), _, (hts (.classLink RL 13 "java/lang/IndexOutOfBoundsException") (List.mem_of_getElem? (i := 1) (by decide +kernel))), hNC.1⟩, (fun z hz => absurd hz List.not_mem_nil)⟩) (by decide) (show 29 ≠ 0 by decide) (hts (.classLink RL 29 "java/lang/IllegalArgumentException") (List.mem_of_getElem? (i := 2) (by decide +kernel))) (va_Nw.use rfl hX.2.1.2.2.1) hce hcv hcl ?_
      refine lv_astore (lv' := [(4, .ref q9), (0, .ref (a 0)), (1, .int x9), (2, .int k9), (3, .ref (a 115))]) hx hb dL_digit_17 hl (by decide) rfl (fun ls hl => ?_)
      refine lv_iconst (v := nI 2) hx hb dL_digit_19 (by decide) ?_
      refine retw (Nat.le_of_ble_eq_true rfl) (Nat.le_of_ble_eq_true rfl) ?_
      exact en_wi f0 hx hb hr hlocks hS ⟨by rw [h]; try rfl, fun q => absurd (h.symm.trans q) (by decide)⟩ ⟨hCW, hOut⟩ dL_digit_20
    · skip
      exact absurd h (fun h => cd_digit h)
  · skip
    have hOut : outP G a f0 H := kp hk hOut (dj_cons (rng_no ha (by omega)) dj_nil)
    have hCW : CW G a st H := by rw [← ht]; exact hB
    refine lv_i2l (v := r.toInt64) hx hb dL_digit_8 rfl ?_
    refine pp_last hx hb hK hOut hS (Or.inr (rng_in (by omega))) (vp_in_nI (by omega) (by omega)) dL_digit_9 (fun H locs hOut hk2 _ hS => ?_)
    have hCW := CW_o ha hk2 hCW
    refine lv_goto (tgt := 21) hx hb dL_digit_10 (by decide) ?_
    refine lv_iconst (v := nI 0) hx hb dL_digit_21 (by decide) ?_
    refine retw (Nat.le_of_ble_eq_true rfl) (Nat.le_of_ble_eq_true rfl) ?_
    exact en_wi (vp_updL f0 (nI 0).toNatClampNeg r.toInt64) hx hb hr hlocks hS ⟨by rw [hp.1]; try rfl, fun _ => ⟨r, rfl, hp.2⟩⟩ ⟨hCW, hOut⟩ dL_digit_22
