/-! the drawn rounds, further -/
set_option maxHeartbeats 4000000 in
set_option maxRecDepth 100000 in
theorem lc_stick {p : Program} {l : Launch} {e : Env} {s : State} {m : MethodId} {below : List Frame} {meth : Method} {c : Code} {b : Nat} {Q : State → Prop} {G : GG} {a : Nat → Nat} {t9 : Nat} (J : LJ p l s m meth c #[Value.ref b] cL_law ret 12 wsL_law G a t9) (hA : ∀ k, s.heap.size ≤ a k) {st : ST} (hO : OKS st) {k w y z t : Nat} (hk : k < 70) (hw : w < 14) (hy : y ≤ 1200000) (hz : z ≤ 12000) (ht : t < 4) {x3 : Int32} (hg0 : 0 < nG (st.1 t)) {c0 s0 : Nat} (hc : c0 + 200 ≤ 600104) (hs : s0 + 1200 ≤ 7301314) {H : Heap} {locs : List Loc} {ls : Array Slot} (hS : va_S (fun q : Nat => s.heap.size ≤ q) s.heap H locs) (hCW : CW G a st H) (hl : lv_has ls 12 [(9, .int (nI (nIn (st.1 t)))), (8, .int (nI (nG (st.1 t)))), (7, .int (nI t)), (6, .int (nI z)), (5, .int (nI y)), (4, .int (nI w)), (3, .int x3), (2, .int (nI k)), (1, .ref (a 0)), (0, .ref b)]) (K : ∀ (st1 : ST) (H : Heap) (locs : List Loc) (ls : Array Slot), OKS st1 → va_S (fun q : Nat => s.heap.size ≤ q) s.heap H locs → CW G a st1 H → lv_has ls 12 [(2, .int (nI k)), (1, .ref (a 0)), (0, .ref b)] → W p l e room_1 s m #[Value.ref b] below meth c H locs (c0 + 100) (s0 + 600) Q (F0 m 588 ls [])) : W p l e room_1 s m #[Value.ref b] below meth c H locs (c0) (s0) Q (F0 m 325 ls []) := by
  have J0 := J
  obtain ⟨hfl, hx, hb, hr, hml, hown, hts, hlocks, ha, hK, hNW, hLow, hX, hNC⟩ := J
  have FX : CallFix p m c cL_law 12 s #[Value.ref b] wsL_law RL := ⟨hx, hb, hml, hown, hts⟩
  have hN := hO.1 t ht
  have hG := hN.g
  have hNi := hN.i
  have hNo := hN.o
  have et : ix (nI t) = t := ix_nI (by omega)
  have h1 : z % nG (st.1 t) < nG (st.1 t) := Nat.mod_lt _ hg0
  have hb9 := sb3 (y / 4 % 3) (Nat.mod_lt _ (by decide))
  obtain ⟨b9, hb0⟩ : ∃ b9 : Int32, b9 = nI (y / 4 % 3) - nI 1 := ⟨_, rfl⟩
  rw [← hb0] at hb9
  have hT := hN.t h1
  have hOK := okn_stick hO ht h1 hb9
  have hN2 : (skS st t (z % nG (st.1 t)) b9).1 t = stkN (st.1 t) (z % nG (st.1 t)) b9 := by
    show upN st.1 t (stkN (st.1 t) (z % nG (st.1 t)) b9) t = _
    exact upN_s
  have h1b : z % nG (st.1 t) < nG ((skS st t (z % nG (st.1 t)) b9).1 t) := by rw [hN2]; exact h1
  obtain ⟨had, hhad⟩ : ∃ had : Int32, had = nT (st.1 t) (z % nG (st.1 t)) := ⟨_, rfl⟩
  rw [← hhad] at hT
  refine lv_aload_n hx hb dL_law_325 rfl (lv_at hl 8 rfl) ?_
  refine lv_iload hx hb dL_law_326 (lv_at hl 2 rfl) ?_
  refine lv_iload hx hb dL_law_328 (lv_at hl 3 rfl) ?_
  refine lv_iload hx hb dL_law_330 (lv_at hl 1 rfl) ?_
  refine lv_irem hx hb dL_law_332 (nI_ne0 (by omega) (by omega)) ?_
  refine lv_as (y := nI (z % (nG (st.1 t)))) (pk_rem (by omega) (by omega) (by omega)) ?_
  refine lv_iload hx hb dL_law_333 (lv_at hl 4 rfl) ?_
  refine lv_iconst (v := nI 4) hx hb dL_law_335 (by decide) ?_
  refine lv_idiv hx hb dL_law_336 (nI_ne0 (by omega) (by omega)) ?_
  refine lv_as (y := nI (y / 4)) (pk_div (by omega) (by omega) (by omega)) ?_
  refine lv_iconst (v := nI 3) hx hb dL_law_337 (by decide) ?_
  refine lv_irem hx hb dL_law_338 (nI_ne0 (by omega) (by omega)) ?_
  refine lv_as (y := nI ((y / 4) % 3)) (pk_rem (by omega) (by omega) (by omega)) ?_
  refine lv_iconst (v := nI 1) hx hb dL_law_339 (by decide) ?_
  refine lv_isub hx hb dL_law_340 ?_
  refine lv_as (y := b9) hb0.symm ?_
  refine wr_i (va_runV (As := [.int (nI t), .int (nI (z % (nG (st.1 t)))), .int b9]) (rest := []) FX (n_stick l hfl G a ha t9 st t (z % nG (st.1 t)) b9 hO ht h1 hb9) (cwV 3 hts gL_law_X11_stick rfl rfl rfl (by decide +kernel) ⟨Nat.le_of_ble_eq_true rfl, Nat.le_of_ble_eq_true rfl⟩) (preVX hK hNW hCW (hLow.at hS (fun q9 h8 h9 => absurd h8 (Nat.not_lt.mpr h9))) (hX.at hS (fun q9 h8 h9 => absurd h8 (Nat.not_lt.mpr h9))) (cw_recv hK hCW)) rfl rfl hl.1 rfl (lv_room (Nat.le_of_ble_eq_true rfl)) dL_law_341 (rm_ok (by omega) (by omega))) hS (rng_ge hA) (fun r _ H locs hp hCW hk hS => ?_)
  refine lv_as (y := had) (hp.trans hhad.symm) ?_
  refine lv_istore (lv' := [(10, .int had), (9, .int (nI (nIn (st.1 t)))), (8, .int (nI (nG (st.1 t)))), (7, .int (nI t)), (6, .int (nI z)), (5, .int (nI y)), (4, .int (nI w)), (3, .int x3), (2, .int (nI k)), (1, .ref (a 0)), (0, .ref b)]) hx hb dL_law_344 hl (by decide) rfl (fun ls hl => ?_)
  refine lv_iload hx hb dL_law_346 (lv_at hl 0 rfl) ?_
  refine lv_iconst (v := -1) hx hb dL_law_348 (by decide) ?_
  refine lv_icmp_lt (tgt := 382) hx hb dL_law_349 (by decide) (fun c => absurd c (by rcases hT with q | q | q <;> rw [q] <;> decide)) (fun _ => ?_)
  refine lv_iload hx hb dL_law_352 (lv_at hl 0 rfl) ?_
  refine lv_iconst (v := nI 1) hx hb dL_law_354 (by decide) ?_
  refine lv_icmp_gt (tgt := 382) hx hb dL_law_355 (by decide) (fun c => absurd c (by rcases hT with q | q | q <;> rw [q] <;> decide)) (fun _ => ?_)
  refine lv_aload_n hx hb dL_law_358 rfl (lv_at hl 9 rfl) ?_
  refine lv_iload hx hb dL_law_359 (lv_at hl 3 rfl) ?_
  refine lv_iload hx hb dL_law_361 (lv_at hl 4 rfl) ?_
  refine lv_iload hx hb dL_law_363 (lv_at hl 2 rfl) ?_
  refine lv_irem hx hb dL_law_365 (nI_ne0 (by omega) (by omega)) ?_
  refine lv_as (y := nI (z % (nG (st.1 t)))) (pk_rem (by omega) (by omega) (by omega)) ?_
  refine lv_iload hx hb dL_law_366 (lv_at hl 0 rfl) ?_
  refine wr_i (va_runV (As := [.int (nI t), .int (nI (z % (nG (st.1 t)))), .int had]) (rest := []) FX (n_stick l hfl G a ha t9 (skS st t (z % nG (st.1 t)) b9) t (z % nG (st.1 t)) had hOK ht h1b hT) (cwV 3 hts gL_law_X11_stick rfl rfl rfl (by decide +kernel) ⟨Nat.le_of_ble_eq_true rfl, Nat.le_of_ble_eq_true rfl⟩) (preVX hK hNW hCW (hLow.at hS (fun q9 h8 h9 => absurd h8 (Nat.not_lt.mpr h9))) (hX.at hS (fun q9 h8 h9 => absurd h8 (Nat.not_lt.mpr h9))) (cw_recv hK hCW)) rfl rfl hl.1 rfl (lv_room (Nat.le_of_ble_eq_true rfl)) dL_law_368 (rm_ok (by omega) (by omega))) hS (rng_ge hA) (fun r _ H locs hp hCW hk hS => ?_)
  refine lv_as (y := b9) (hp.trans (by rw [hN2]; exact pk_us)) ?_
  refine lv_iload hx hb dL_law_371 (lv_at hl 5 rfl) ?_
  refine lv_iconst (v := nI 4) hx hb dL_law_373 (by decide) ?_
  refine lv_idiv hx hb dL_law_374 (nI_ne0 (by omega) (by omega)) ?_
  refine lv_as (y := nI (y / 4)) (pk_div (by omega) (by omega) (by omega)) ?_
  refine lv_iconst (v := nI 3) hx hb dL_law_375 (by decide) ?_
  refine lv_irem hx hb dL_law_376 (nI_ne0 (by omega) (by omega)) ?_
  refine lv_as (y := nI ((y / 4) % 3)) (pk_rem (by omega) (by omega) (by omega)) ?_
  refine lv_iconst (v := nI 1) hx hb dL_law_377 (by decide) ?_
  refine lv_isub hx hb dL_law_378 ?_
  refine lv_as (y := b9) hb0.symm ?_
  refine lv_icmp_eq (tgt := 384) hx hb dL_law_379 (by decide) (fun _ => ?_) (fun c => absurd rfl c)
  refine lv_goto (tgt := 588) hx hb dL_law_384 (by decide) ?_
  exact wid (by omega) (by omega) (K (skS (skS st t (z % nG (st.1 t)) b9) t (z % nG (st.1 t)) had) _ _ _ (okn_stick hOK ht h1b hT) hS hCW (lv_sub hl [8, 9, 10] rfl))
set_option maxHeartbeats 4000000 in
set_option maxRecDepth 100000 in
theorem lc_cost {p : Program} {l : Launch} {e : Env} {s : State} {m : MethodId} {below : List Frame} {meth : Method} {c : Code} {b : Nat} {Q : State → Prop} {G : GG} {a : Nat → Nat} {t9 : Nat} (J : LJ p l s m meth c #[Value.ref b] cL_law ret 12 wsL_law G a t9) (hA : ∀ k, s.heap.size ≤ a k) {st : ST} (hO : OKS st) {k w y z t : Nat} (hk : k < 70) (hw : w < 14) (hy : y ≤ 1200000) (hz : z ≤ 12000) (ht : t < 4) {x3 : Int32}  {c0 s0 : Nat} (hc : c0 + 200 ≤ 600104) (hs : s0 + 1200 ≤ 7301314) {H : Heap} {locs : List Loc} {ls : Array Slot} (hS : va_S (fun q : Nat => s.heap.size ≤ q) s.heap H locs) (hCW : CW G a st H) (hl : lv_has ls 12 [(9, .int (nI (nIn (st.1 t)))), (8, .int (nI (nG (st.1 t)))), (7, .int (nI t)), (6, .int (nI z)), (5, .int (nI y)), (4, .int (nI w)), (3, .int x3), (2, .int (nI k)), (1, .ref (a 0)), (0, .ref b)]) (K : ∀ (st1 : ST) (H : Heap) (locs : List Loc) (ls : Array Slot), OKS st1 → va_S (fun q : Nat => s.heap.size ≤ q) s.heap H locs → CW G a st1 H → lv_has ls 12 [(2, .int (nI k)), (1, .ref (a 0)), (0, .ref b)] → W p l e room_1 s m #[Value.ref b] below meth c H locs (c0 + 100) (s0 + 600) Q (F0 m 588 ls [])) : W p l e room_1 s m #[Value.ref b] below meth c H locs (c0) (s0) Q (F0 m 394 ls []) := by
  have J0 := J
  obtain ⟨hfl, hx, hb, hr, hml, hown, hts, hlocks, ha, hK, hNW, hLow, hX, hNC⟩ := J
  have FX : CallFix p m c cL_law 12 s #[Value.ref b] wsL_law RL := ⟨hx, hb, hml, hown, hts⟩
  have hN := hO.1 t ht
  have hG := hN.g
  have hNi := hN.i
  have hNo := hN.o
  have et : ix (nI t) = t := ix_nI (by omega)
  have hkd : y / 4 % 4 < 4 := Nat.mod_lt _ (by decide)
  have hd9 : 1 ≤ 1 + z % 9 ∧ 1 + z % 9 ≤ 9 := by omega
  have hx9 : y % 100 ≤ 99 := by omega
  have hdl := hO.2 (y / 4 % 4) hkd
  refine lv_aload_n hx hb dL_law_394 rfl (lv_at hl 8 rfl) ?_
  refine lv_iload hx hb dL_law_395 (lv_at hl 4 rfl) ?_
  refine lv_iconst (v := nI 4) hx hb dL_law_397 (by decide) ?_
  refine lv_idiv hx hb dL_law_398 (nI_ne0 (by omega) (by omega)) ?_
  refine lv_as (y := nI (y / 4)) (pk_div (by omega) (by omega) (by omega)) ?_
  refine lv_iconst (v := nI 4) hx hb dL_law_399 (by decide) ?_
  refine lv_irem hx hb dL_law_400 (nI_ne0 (by omega) (by omega)) ?_
  refine lv_as (y := nI ((y / 4) % 4)) (pk_rem (by omega) (by omega) (by omega)) ?_
  refine lv_iconst (v := nI 1) hx hb dL_law_401 (by decide) ?_
  refine lv_iload hx hb dL_law_402 (lv_at hl 3 rfl) ?_
  refine lv_bipush (v := nI 9) hx hb dL_law_404 (by decide) ?_
  refine lv_irem hx hb dL_law_406 (nI_ne0 (by omega) (by omega)) ?_
  refine lv_as (y := nI (z % 9)) (pk_rem (by omega) (by omega) (by omega)) ?_
  refine lv_iadd hx hb dL_law_407 ?_
  refine lv_as (y := nI (1 + (z % 9))) (nI_add _ _) ?_
  refine lv_iload hx hb dL_law_408 (lv_at hl 4 rfl) ?_
  refine lv_bipush (v := nI 100) hx hb dL_law_410 (by decide) ?_
  refine lv_irem hx hb dL_law_412 (nI_ne0 (by omega) (by omega)) ?_
  refine lv_as (y := nI (y % 100)) (pk_rem (by omega) (by omega) (by omega)) ?_
  refine wr_i (va_runV (As := [.int (nI ((y / 4) % 4)), .int (nI (1 + (z % 9))), .int (nI (y % 100))]) (rest := []) FX (n_cost l hfl G a ha t9 st (y / 4 % 4) (1 + z % 9) (y % 100) hO hkd hd9 hx9) (cwV 3 hts gL_law_X11_cost rfl rfl rfl (by decide +kernel) ⟨Nat.le_of_ble_eq_true rfl, Nat.le_of_ble_eq_true rfl⟩) (preVX hK hNW hCW (hLow.at hS (fun q9 h8 h9 => absurd h8 (Nat.not_lt.mpr h9))) (hX.at hS (fun q9 h8 h9 => absurd h8 (Nat.not_lt.mpr h9))) (cw_recv hK hCW)) rfl rfl hl.1 rfl (lv_room (Nat.le_of_ble_eq_true rfl)) dL_law_413 (rm_ok (by omega) (by omega))) hS (rng_ge hA) (fun r _ H locs hp hCW hk hS => ?_)
  refine lv_as (y := nI (st.2.1 (y / 4 % 4))) hp ?_
  refine lv_iconst (v := nI 1) hx hb dL_law_416 (by decide) ?_
  refine lv_icmp_ge (tgt := 588) hx hb dL_law_417 (by decide) (fun _ => ?_) (fun c => absurd (nI_le (by omega) (by omega)) c)
  exact wid (by omega) (by omega) (K (coS st (y / 4 % 4) (1 + z % 9) (y % 100)) _ _ _ (okn_cost hO hkd hd9 hx9) hS hCW (lv_sub hl [7, 8, 9] rfl))
set_option maxHeartbeats 4000000 in
set_option maxRecDepth 100000 in
theorem lc_vals {p : Program} {l : Launch} {e : Env} {s : State} {m : MethodId} {below : List Frame} {meth : Method} {c : Code} {b : Nat} {Q : State → Prop} {G : GG} {a : Nat → Nat} {t9 : Nat} (J : LJ p l s m meth c #[Value.ref b] cL_law ret 12 wsL_law G a t9) (hA : ∀ k, s.heap.size ≤ a k) {st : ST} (hO : OKS st) {k w y z t : Nat} (hk : k < 70) (hw : w < 14) (hy : y ≤ 1200000) (hz : z ≤ 12000) (ht : t < 4) {x3 : Int32}  {c0 s0 : Nat} (hc : c0 + 200 ≤ 600104) (hs : s0 + 1200 ≤ 7301314) {H : Heap} {locs : List Loc} {ls : Array Slot} (hS : va_S (fun q : Nat => s.heap.size ≤ q) s.heap H locs) (hCW : CW G a st H) (hl : lv_has ls 12 [(9, .int (nI (nIn (st.1 t)))), (8, .int (nI (nG (st.1 t)))), (7, .int (nI t)), (6, .int (nI z)), (5, .int (nI y)), (4, .int (nI w)), (3, .int x3), (2, .int (nI k)), (1, .ref (a 0)), (0, .ref b)]) (K : ∀ (st1 : ST) (H : Heap) (locs : List Loc) (ls : Array Slot), OKS st1 → va_S (fun q : Nat => s.heap.size ≤ q) s.heap H locs → CW G a st1 H → lv_has ls 12 [(2, .int (nI k)), (1, .ref (a 0)), (0, .ref b)] → W p l e room_1 s m #[Value.ref b] below meth c H locs (c0 + 100) (s0 + 600) Q (F0 m 588 ls [])) : W p l e room_1 s m #[Value.ref b] below meth c H locs (c0) (s0) Q (F0 m 422 ls []) := by
  have J0 := J
  obtain ⟨hfl, hx, hb, hr, hml, hown, hts, hlocks, ha, hK, hNW, hLow, hX, hNC⟩ := J
  have FX : CallFix p m c cL_law 12 s #[Value.ref b] wsL_law RL := ⟨hx, hb, hml, hown, hts⟩
  have hN := hO.1 t ht
  have hG := hN.g
  have hNi := hN.i
  have hNo := hN.o
  have et : ix (nI t) = t := ix_nI (by omega)
  obtain ⟨n9, hn9, en9⟩ := num_ex y z (by omega) (by omega)
  have hY := tkY_le (N := st.1 t) (dl := st.2.1) (n0 := n9) (n1 := z) (mxT (st.1 t) st.2.1 (nG (st.1 t)) + 1)
  have hM := mxT_le (dl := st.2.1) hN hO.2 (nG (st.1 t)) (Nat.le_refl _)
  have hY : tkV (st.1 t) st.2.1 n9 z (mxT (st.1 t) st.2.1 (nG (st.1 t)) + 1) 1 ≤ 1072 := Nat.le_trans hY (by omega)
  refine lv_iload hx hb dL_law_422 (lv_at hl 4 rfl) ?_
  refine lv_sipush (v := nI 1023) hx hb dL_law_424 (by decide) ?_
  refine lv_iand hx hb dL_law_427 ?_
  refine lv_iconst (v := nI 5) hx hb dL_law_428 (by decide) ?_
  refine lv_ishl hx hb dL_law_429 ?_
  refine lv_iload hx hb dL_law_430 (lv_at hl 3 rfl) ?_
  refine lv_bipush (v := nI 31) hx hb dL_law_432 (by decide) ?_
  refine lv_iand hx hb dL_law_434 ?_
  refine lv_ior hx hb dL_law_435 ?_
  refine lv_as (y := nI n9) en9 ?_
  refine lv_istore (lv' := [(10, .int (nI n9)), (9, .int (nI (nIn (st.1 t)))), (8, .int (nI (nG (st.1 t)))), (7, .int (nI t)), (6, .int (nI z)), (5, .int (nI y)), (4, .int (nI w)), (3, .int x3), (2, .int (nI k)), (1, .ref (a 0)), (0, .ref b)]) hx hb dL_law_436 hl (by decide) rfl (fun ls hl => ?_)
  refine lv_aload_n hx hb dL_law_438 rfl (lv_at hl 9 rfl) ?_
  refine lv_iload hx hb dL_law_439 (lv_at hl 3 rfl) ?_
  refine lv_iload hx hb dL_law_441 (lv_at hl 0 rfl) ?_
  refine wr_i (va_runV (As := [.int (nI t), .int (nI n9)]) (rest := []) FX (n_value l hfl G a ha t9 st t n9 hO ht (by omega)) (cwV 2 hts gL_law_X11_value rfl rfl rfl (by decide +kernel) ⟨Nat.le_of_ble_eq_true rfl, Nat.le_of_ble_eq_true rfl⟩) (preVX hK hNW hCW (hLow.at hS (fun q9 h8 h9 => absurd h8 (Nat.not_lt.mpr h9))) (hX.at hS (fun q9 h8 h9 => absurd h8 (Nat.not_lt.mpr h9))) (cw_recv hK hCW)) rfl rfl hl.1 rfl (lv_room (Nat.le_of_ble_eq_true rfl)) dL_law_443 (rm_ok (by omega) (by omega))) hS (rng_ge hA) (fun r _ H locs hp hCW hk hS => ?_)
  refine lv_as (y := vl (st.1 t) n9) hp ?_
  refine lv_aload_n hx hb dL_law_446 rfl (lv_at hl 9 rfl) ?_
  refine lv_iload hx hb dL_law_447 (lv_at hl 3 rfl) ?_
  refine lv_iload hx hb dL_law_449 (lv_at hl 0 rfl) ?_
  refine wr_i (va_runV (As := [.int (nI t), .int (nI n9)]) (rest := [.int (vl (st.1 t) n9)]) FX (n_valueAnew l hfl G a ha t9 st t n9 hO ht (by omega)) (cwV 2 hts gL_law_X11_valueAnew rfl rfl rfl (by decide +kernel) ⟨Nat.le_of_ble_eq_true rfl, Nat.le_of_ble_eq_true rfl⟩) (preVX hK hNW hCW (hLow.at hS (fun q9 h8 h9 => absurd h8 (Nat.not_lt.mpr h9))) (hX.at hS (fun q9 h8 h9 => absurd h8 (Nat.not_lt.mpr h9))) (cw_recv hK hCW)) rfl rfl hl.1 rfl (lv_room (Nat.le_of_ble_eq_true rfl)) dL_law_451 (rm_ok (by omega) (by omega))) hS (rng_ge hA) (fun r _ H locs hp hCW hk hS => ?_)
  refine lv_as (y := vl (st.1 t) n9) hp ?_
  refine lv_icmp_ne (tgt := 539) hx hb dL_law_454 (by decide) (fun c => absurd rfl c) (fun _ => ?_)
  refine lv_aload_n hx hb dL_law_457 rfl (lv_at hl 9 rfl) ?_
  refine lv_iload hx hb dL_law_458 (lv_at hl 3 rfl) ?_
  refine lv_iload hx hb dL_law_460 (lv_at hl 0 rfl) ?_
  refine lv_iload hx hb dL_law_462 (lv_at hl 4 rfl) ?_
  refine lv_aload_n hx hb dL_law_464 rfl (lv_at hl 9 rfl) ?_
  refine lv_iload hx hb dL_law_465 (lv_at hl 3 rfl) ?_
  refine lv_iload hx hb dL_law_467 (lv_at hl 0 rfl) ?_
  refine lv_iload hx hb dL_law_469 (lv_at hl 4 rfl) ?_
  refine lv_iconst (v := nI 0) hx hb dL_law_471 (by decide) ?_
  refine wr_i (va_runV (As := [.int (nI t), .int (nI n9), .int (nI z), .int (nI 0)]) (rest := [.int (nI z), .int (nI n9), .int (nI t), .ref (a 0)]) FX (n_changes l hfl G a ha t9 st t n9 z 0 hO ht (by omega) (by omega) (by decide)) (cwV 4 hts gL_law_X11_changes rfl rfl rfl (by decide +kernel) ⟨Nat.le_of_ble_eq_true rfl, Nat.le_of_ble_eq_true rfl⟩) (preVX hK hNW hCW (hLow.at hS (fun q9 h8 h9 => absurd h8 (Nat.not_lt.mpr h9))) (hX.at hS (fun q9 h8 h9 => absurd h8 (Nat.not_lt.mpr h9))) (cw_recv hK hCW)) rfl rfl hl.1 rfl (lv_room (Nat.le_of_ble_eq_true rfl)) dL_law_472 (rm_ok (by omega) (by omega))) hS (rng_ge hA) (fun r _ H locs hp hCW hk hS => ?_)
  refine lv_as (y := nI (tkV (st.1 t) st.2.1 n9 z (mxT (st.1 t) st.2.1 (nG (st.1 t)) + 1) 0)) hp ?_
  refine lv_aload_n hx hb dL_law_475 rfl (lv_at hl 9 rfl) ?_
  refine lv_iload hx hb dL_law_476 (lv_at hl 3 rfl) ?_
  refine lv_iload hx hb dL_law_478 (lv_at hl 0 rfl) ?_
  refine lv_iload hx hb dL_law_480 (lv_at hl 4 rfl) ?_
  refine lv_iconst (v := nI 1) hx hb dL_law_482 (by decide) ?_
  refine wr_i (va_runV (As := [.int (nI t), .int (nI n9), .int (nI z), .int (nI 1)]) (rest := [.int (nI (tkV (st.1 t) st.2.1 n9 z (mxT (st.1 t) st.2.1 (nG (st.1 t)) + 1) 0)), .int (nI z), .int (nI n9), .int (nI t), .ref (a 0)]) FX (n_changes l hfl G a ha t9 st t n9 z 1 hO ht (by omega) (by omega) (by decide)) (cwV 4 hts gL_law_X11_changes rfl rfl rfl (by decide +kernel) ⟨Nat.le_of_ble_eq_true rfl, Nat.le_of_ble_eq_true rfl⟩) (preVX hK hNW hCW (hLow.at hS (fun q9 h8 h9 => absurd h8 (Nat.not_lt.mpr h9))) (hX.at hS (fun q9 h8 h9 => absurd h8 (Nat.not_lt.mpr h9))) (cw_recv hK hCW)) rfl rfl hl.1 rfl (lv_room (Nat.le_of_ble_eq_true rfl)) dL_law_483 (rm_ok (by omega) (by omega))) hS (rng_ge hA) (fun r _ H locs hp hCW hk hS => ?_)
  refine lv_as (y := nI (tkV (st.1 t) st.2.1 n9 z (mxT (st.1 t) st.2.1 (nG (st.1 t)) + 1) 1)) hp ?_
  refine lv_aload_n hx hb dL_law_486 rfl (lv_at hl 9 rfl) ?_
  refine lv_iload hx hb dL_law_487 (lv_at hl 3 rfl) ?_
  refine lv_iload hx hb dL_law_489 (lv_at hl 0 rfl) ?_
  refine lv_iload hx hb dL_law_491 (lv_at hl 4 rfl) ?_
  refine lv_iconst (v := nI 2) hx hb dL_law_493 (by decide) ?_
  refine wr_i (va_runV (As := [.int (nI t), .int (nI n9), .int (nI z), .int (nI 2)]) (rest := [.int (nI (tkV (st.1 t) st.2.1 n9 z (mxT (st.1 t) st.2.1 (nG (st.1 t)) + 1) 1)), .int (nI (tkV (st.1 t) st.2.1 n9 z (mxT (st.1 t) st.2.1 (nG (st.1 t)) + 1) 0)), .int (nI z), .int (nI n9), .int (nI t), .ref (a 0)]) FX (n_changes l hfl G a ha t9 st t n9 z 2 hO ht (by omega) (by omega) (by decide)) (cwV 4 hts gL_law_X11_changes rfl rfl rfl (by decide +kernel) ⟨Nat.le_of_ble_eq_true rfl, Nat.le_of_ble_eq_true rfl⟩) (preVX hK hNW hCW (hLow.at hS (fun q9 h8 h9 => absurd h8 (Nat.not_lt.mpr h9))) (hX.at hS (fun q9 h8 h9 => absurd h8 (Nat.not_lt.mpr h9))) (cw_recv hK hCW)) rfl rfl hl.1 rfl (lv_room (Nat.le_of_ble_eq_true rfl)) dL_law_494 (rm_ok (by omega) (by omega))) hS (rng_ge hA) (fun r _ H locs hp hCW hk hS => ?_)
  refine lv_as (y := nI (tkV (st.1 t) st.2.1 n9 z (mxT (st.1 t) st.2.1 (nG (st.1 t)) + 1) 2)) hp ?_
  refine wr_i (va_runS (As := [.ref (a 0), .int (nI t), .int (nI n9), .int (nI z), .int (nI (tkV (st.1 t) st.2.1 n9 z (mxT (st.1 t) st.2.1 (nG (st.1 t)) + 1) 0)), .int (nI (tkV (st.1 t) st.2.1 n9 z (mxT (st.1 t) st.2.1 (nG (st.1 t)) + 1) 1)), .int (nI (tkV (st.1 t) st.2.1 n9 z (mxT (st.1 t) st.2.1 (nG (st.1 t)) + 1) 2))]) (rest := []) FX (w_changes l hfl G a ha t9 st hO t n9 z ht (by omega) (by omega) _ _ _ rfl rfl rfl) (va_cwS 7 hts gL_law_L_changes rfl rfl rfl (by decide +kernel) ⟨Nat.le_of_ble_eq_true rfl, Nat.le_of_ble_eq_true rfl⟩) (preW hK hNW hCW (hLow.at hS (fun q9 h8 h9 => absurd h8 (Nat.not_lt.mpr h9))) (hX.at hS (fun q9 h8 h9 => absurd h8 (Nat.not_lt.mpr h9))) hNC) rfl rfl hl.1 rfl (lv_room (Nat.le_of_ble_eq_true rfl)) dL_law_497 (rm_ok (by omega) (by omega))) hS (rng_ge hA) (fun r _ H locs hp hCW hk hS => ?_)
  refine lv_as (y := nI 1) hp ?_
  refine lv_if_eq (tgt := 539) hx hb dL_law_500 (by decide) (fun c => absurd c (by decide)) (fun _ => ?_)
  refine lv_aload_n hx hb dL_law_503 rfl (lv_at hl 9 rfl) ?_
  refine lv_iload hx hb dL_law_504 (lv_at hl 3 rfl) ?_
  refine lv_iload hx hb dL_law_506 (lv_at hl 0 rfl) ?_
  refine lv_iload hx hb dL_law_508 (lv_at hl 4 rfl) ?_
  refine lv_iconst (v := nI 1) hx hb dL_law_510 (by decide) ?_
  refine wr_i (va_runV (As := [.int (nI t), .int (nI n9), .int (nI z), .int (nI 1)]) (rest := []) FX (n_changes l hfl G a ha t9 st t n9 z 1 hO ht (by omega) (by omega) (by decide)) (cwV 4 hts gL_law_X11_changes rfl rfl rfl (by decide +kernel) ⟨Nat.le_of_ble_eq_true rfl, Nat.le_of_ble_eq_true rfl⟩) (preVX hK hNW hCW (hLow.at hS (fun q9 h8 h9 => absurd h8 (Nat.not_lt.mpr h9))) (hX.at hS (fun q9 h8 h9 => absurd h8 (Nat.not_lt.mpr h9))) (cw_recv hK hCW)) rfl rfl hl.1 rfl (lv_room (Nat.le_of_ble_eq_true rfl)) dL_law_511 (rm_ok (by omega) (by omega))) hS (rng_ge hA) (fun r _ H locs hp hCW hk hS => ?_)
  refine lv_as (y := nI (tkV (st.1 t) st.2.1 n9 z (mxT (st.1 t) st.2.1 (nG (st.1 t)) + 1) 1)) hp ?_
  refine lv_sipush (v := nI 1080) hx hb dL_law_514 (by decide) ?_
  refine lv_icmp_gt (tgt := 539) hx hb dL_law_517 (by decide) (fun c => absurd (cv_lt (by omega) (by omega) c) (by omega)) (fun _ => ?_)
  refine lv_iload hx hb dL_law_520 (lv_at hl 1 rfl) ?_
  refine lv_bipush (v := nI 9) hx hb dL_law_522 (by decide) ?_
  have K2 : ∀ (H : Heap) (locs : List Loc) (ls : Array Slot), va_S (fun q : Nat => s.heap.size ≤ q) s.heap H locs → CW G a st H → lv_has ls 12 [(10, .int (nI n9)), (9, .int (nI (nIn (st.1 t)))), (8, .int (nI (nG (st.1 t)))), (7, .int (nI t)), (6, .int (nI z)), (5, .int (nI y)), (4, .int (nI w)), (3, .int x3), (2, .int (nI k)), (1, .ref (a 0)), (0, .ref b)] → W p l e room_1 s m #[Value.ref b] below meth c H locs (c0 + 80) (s0 + 480) Q (F0 m 541 ls []) := by
    intro H locs ls hS hCW hl
    refine lv_aload_n hx hb dL_law_541 rfl (lv_at hl 9 rfl) ?_
    refine lv_iload hx hb dL_law_542 (lv_at hl 3 rfl) ?_
    refine lv_iconst (v := nI 0) hx hb dL_law_544 (by decide) ?_
    refine wr_i (va_runV (As := [.int (nI t), .int (nI 0)]) (rest := []) FX (n_path l hfl G a ha t9 st t 0 hO ht (by decide)) (cwV 2 hts gL_law_X11_path rfl rfl rfl (by decide +kernel) ⟨Nat.le_of_ble_eq_true rfl, Nat.le_of_ble_eq_true rfl⟩) (preVX hK hNW hCW (hLow.at hS (fun q9 h8 h9 => absurd h8 (Nat.not_lt.mpr h9))) (hX.at hS (fun q9 h8 h9 => absurd h8 (Nat.not_lt.mpr h9))) (cw_recv hK hCW)) rfl rfl hl.1 rfl (lv_room (Nat.le_of_ble_eq_true rfl)) dL_law_545 (rm_ok (by omega) (by omega))) hS (rng_ge hA) (fun r _ H locs hp hCW hk hS => ?_)
    refine lv_as (y := oI (bst (st.1 t) (tm (st.1 t) st.2.1) (nO (st.1 t)))) (hp.trans pa_0) ?_
    cases hbs : bst (st.1 t) (tm (st.1 t) st.2.1) (nO (st.1 t)) with
    | none =>
      have hno : nO (st.1 t) = 0 := bst_none hbs
      refine lv_istore (lv' := [(11, .int (oI none)), (10, .int (nI n9)), (9, .int (nI (nIn (st.1 t)))), (8, .int (nI (nG (st.1 t)))), (7, .int (nI t)), (6, .int (nI z)), (5, .int (nI y)), (4, .int (nI w)), (3, .int x3), (2, .int (nI k)), (1, .ref (a 0)), (0, .ref b)]) hx hb dL_law_548 hl (by decide) rfl (fun ls hl => ?_)
      refine lv_iload hx hb dL_law_550 (lv_at hl 0 rfl) ?_
      refine lv_if_lt (tgt := 576) hx hb dL_law_552 (by decide) (fun _ => ?_) (fun c => absurd (by decide) c)
      refine lv_aload_n hx hb dL_law_576 rfl (lv_at hl 10 rfl) ?_
      refine lv_iload hx hb dL_law_577 (lv_at hl 4 rfl) ?_
      refine lv_iconst (v := nI 2) hx hb dL_law_579 (by decide) ?_
      refine wr_i (va_runV (As := [.int (nI t), .int (nI 2)]) (rest := []) FX (n_ofNet l hfl G a ha t9 st t 2 hO ht (by decide)) (cwV 2 hts gL_law_X11_ofNet rfl rfl rfl (by decide +kernel) ⟨Nat.le_of_ble_eq_true rfl, Nat.le_of_ble_eq_true rfl⟩) (preVX hK hNW hCW (hLow.at hS (fun q9 h8 h9 => absurd h8 (Nat.not_lt.mpr h9))) (hX.at hS (fun q9 h8 h9 => absurd h8 (Nat.not_lt.mpr h9))) (cw_recv hK hCW)) rfl rfl hl.1 rfl (lv_room (Nat.le_of_ble_eq_true rfl)) dL_law_580 (rm_ok (by omega) (by omega))) hS (rng_ge hA) (fun r _ H locs hp hCW hk hS => ?_)
      refine lv_as (y := nI (nO (st.1 t))) (hp.trans (of_2 rfl)) ?_
      refine lv_if_eq (tgt := 588) hx hb dL_law_583 (by decide) (fun _ => ?_) (fun c => absurd (by rw [hno]; decide) c)
      exact wid (by omega) (by omega) (K st _ _ _ hO hS hCW (lv_sub hl [9, 10, 11] rfl))
    | some g9 =>
      have hg9 : g9 < nG (st.1 t) := bst_lt hN _ (Nat.le_refl _) g9 hbs
      have hdn : dlN (st.1 t) (tm (st.1 t) st.2.1) = tm (st.1 t) st.2.1 g9 := by unfold dlN; rw [hbs]
      refine lv_as (y := nI g9) rfl ?_
      refine lv_istore (lv' := [(11, .int (nI g9)), (10, .int (nI n9)), (9, .int (nI (nIn (st.1 t)))), (8, .int (nI (nG (st.1 t)))), (7, .int (nI t)), (6, .int (nI z)), (5, .int (nI y)), (4, .int (nI w)), (3, .int x3), (2, .int (nI k)), (1, .ref (a 0)), (0, .ref b)]) hx hb dL_law_548 hl (by decide) rfl (fun ls hl => ?_)
      refine lv_iload hx hb dL_law_550 (lv_at hl 0 rfl) ?_
      refine lv_if_lt (tgt := 576) hx hb dL_law_552 (by decide) (fun c => absurd c (nI_pos (by omega))) (fun _ => ?_)
      refine lv_aload_n hx hb dL_law_555 rfl (lv_at hl 10 rfl) ?_
      refine lv_iload hx hb dL_law_556 (lv_at hl 4 rfl) ?_
      refine lv_iload hx hb dL_law_558 (lv_at hl 0 rfl) ?_
      refine wr_i (va_runV (As := [.int (nI t), .int (nI g9)]) (rest := []) FX (n_time l hfl G a ha t9 st t g9 hO ht hg9) (cwV 2 hts gL_law_X11_time rfl rfl rfl (by decide +kernel) ⟨Nat.le_of_ble_eq_true rfl, Nat.le_of_ble_eq_true rfl⟩) (preVX hK hNW hCW (hLow.at hS (fun q9 h8 h9 => absurd h8 (Nat.not_lt.mpr h9))) (hX.at hS (fun q9 h8 h9 => absurd h8 (Nat.not_lt.mpr h9))) (cw_recv hK hCW)) rfl rfl hl.1 rfl (lv_room (Nat.le_of_ble_eq_true rfl)) dL_law_560 (rm_ok (by omega) (by omega))) hS (rng_ge hA) (fun r _ H locs hp hCW hk hS => ?_)
      refine lv_as (y := nI (tm (st.1 t) st.2.1 g9)) hp ?_
      refine lv_aload_n hx hb dL_law_563 rfl (lv_at hl 10 rfl) ?_
      refine lv_iload hx hb dL_law_564 (lv_at hl 4 rfl) ?_
      refine lv_iconst (v := nI 4) hx hb dL_law_566 (by decide) ?_
      refine wr_i (va_runV (As := [.int (nI t), .int (nI 4)]) (rest := [.int (nI (tm (st.1 t) st.2.1 g9))]) FX (n_ofNet l hfl G a ha t9 st t 4 hO ht (by decide)) (cwV 2 hts gL_law_X11_ofNet rfl rfl rfl (by decide +kernel) ⟨Nat.le_of_ble_eq_true rfl, Nat.le_of_ble_eq_true rfl⟩) (preVX hK hNW hCW (hLow.at hS (fun q9 h8 h9 => absurd h8 (Nat.not_lt.mpr h9))) (hX.at hS (fun q9 h8 h9 => absurd h8 (Nat.not_lt.mpr h9))) (cw_recv hK hCW)) rfl rfl hl.1 rfl (lv_room (Nat.le_of_ble_eq_true rfl)) dL_law_567 (rm_ok (by omega) (by omega))) hS (rng_ge hA) (fun r _ H locs hp hCW hk hS => ?_)
      refine lv_as (y := nI (dlN (st.1 t) (tm (st.1 t) st.2.1))) (hp.trans (of_4 rfl)) ?_
      refine lv_icmp_eq (tgt := 588) hx hb dL_law_570 (by decide) (fun _ => ?_) (fun c => absurd (by rw [hdn]) c)
      exact wid (by omega) (by omega) (K st _ _ _ hO hS hCW (lv_sub hl [9, 10, 11] rfl))
  by_cases hq : nIn (st.1 t) < 9
  · skip
    refine lv_icmp_ge (tgt := 541) hx hb dL_law_524 (by decide) (fun c => absurd (cv_le (by omega) (by omega) c) (by omega)) (fun _ => ?_)
    refine lv_aload_n hx hb dL_law_527 rfl (lv_at hl 9 rfl) ?_
    refine lv_iload hx hb dL_law_528 (lv_at hl 3 rfl) ?_
    refine lv_iload hx hb dL_law_530 (lv_at hl 3 rfl) ?_
    refine wr_i (va_runV (As := [.int (nI t), .int (nI t)]) (rest := []) FX (n_unlike l hfl G a ha t9 st t t hO ht ht ⟨rfl, by omega⟩) (cwV 2 hts gL_law_X11_unlike rfl rfl rfl (by decide +kernel) ⟨Nat.le_of_ble_eq_true rfl, Nat.le_of_ble_eq_true rfl⟩) (preVX hK hNW hCW (hLow.at hS (fun q9 h8 h9 => absurd h8 (Nat.not_lt.mpr h9))) (hX.at hS (fun q9 h8 h9 => absurd h8 (Nat.not_lt.mpr h9))) (cw_recv hK hCW)) rfl rfl hl.1 rfl (lv_room (Nat.le_of_ble_eq_true rfl)) dL_law_532 (rm_ok (by omega) (by omega))) hS (rng_ge hA) (fun r _ H locs hp hCW hk hS => ?_)
    refine lv_as (y := -1) (uns_m hp (fun _ _ => df_self 16)) ?_
    refine lv_iconst (v := -1) hx hb dL_law_535 (by decide) ?_
    refine lv_icmp_eq (tgt := 541) hx hb dL_law_536 (by decide) (fun _ => ?_) (fun c => absurd c (by decide))
    exact wid (by omega) (by omega) (K2 _ _ _ hS hCW hl)
  · skip
    refine lv_icmp_ge (tgt := 541) hx hb dL_law_524 (by decide) (fun _ => ?_) (fun c => absurd (nI_le (by omega) (by omega)) c)
    exact wid (by omega) (by omega) (K2 _ _ _ hS hCW hl)
set_option maxHeartbeats 4000000 in
set_option maxRecDepth 100000 in
theorem lb_179 {p : Program} {l : Launch} {e : Env} {s : State} {m : MethodId} {below : List Frame} {meth : Method} {c : Code} {b : Nat} {Q : State → Prop} {G : GG} {a : Nat → Nat} {t9 : Nat} (J : LJ p l s m meth c #[Value.ref b] cL_law ret 12 wsL_law G a t9) (hA : ∀ k, s.heap.size ≤ a k) {st : ST} (hO : OKS st) {k w y z t : Nat} (hk : k < 70) (hw : w < 14) (hy : y ≤ 1200000) (hz : z ≤ 12000) (ht : t < 4) {x3 : Int32} (hg0 : 0 < nG (st.1 t)) {c0 s0 : Nat} (hc : c0 + 200 ≤ 600104) (hs : s0 + 1200 ≤ 7301314) {H : Heap} {locs : List Loc} {ls : Array Slot} (hS : va_S (fun q : Nat => s.heap.size ≤ q) s.heap H locs) (hCW : CW G a st H) (hl : lv_has ls 12 [(9, .int (nI (nIn (st.1 t)))), (8, .int (nI (nG (st.1 t)))), (7, .int (nI t)), (6, .int (nI z)), (5, .int (nI y)), (4, .int (nI w)), (3, .int x3), (2, .int (nI k)), (1, .ref (a 0)), (0, .ref b)]) (K : ∀ (st1 : ST) (H : Heap) (locs : List Loc) (ls : Array Slot), OKS st1 → va_S (fun q : Nat => s.heap.size ≤ q) s.heap H locs → CW G a st1 H → lv_has ls 12 [(2, .int (nI k)), (1, .ref (a 0)), (0, .ref b)] → W p l e room_1 s m #[Value.ref b] below meth c H locs (c0 + 100) (s0 + 600) Q (F0 m 588 ls [])) : W p l e room_1 s m #[Value.ref b] below meth c H locs (c0) (s0) Q (F0 m 179 ls []) := by
  have J0 := J
  obtain ⟨hfl, hx, hb, hr, hml, hown, hts, hlocks, ha, hK, hNW, hLow, hX, hNC⟩ := J
  have FX : CallFix p m c cL_law 12 s #[Value.ref b] wsL_law RL := ⟨hx, hb, hml, hown, hts⟩
  have hN := hO.1 t ht
  have hG := hN.g
  have hNi := hN.i
  have hNo := hN.o
  have et : ix (nI t) = t := ix_nI (by omega)
  refine lv_iload hx hb dL_law_179 (lv_at hl 5 rfl) ?_
  refine lv_bipush (v := nI 7) hx hb dL_law_181 (by decide) ?_
  refine lv_icmp_ge (tgt := 266) hx hb dL_law_183 (by decide) (fun _ => ?_) (fun _ => lc_gate J0 hA hO hk hw hy hz ht hg0 hc hs hS hCW hl K)
  refine lv_iload hx hb dL_law_266 (lv_at hl 5 rfl) ?_
  refine lv_bipush (v := nI 9) hx hb dL_law_268 (by decide) ?_
  refine lv_icmp_ge (tgt := 318) hx hb dL_law_270 (by decide) (fun _ => ?_) (fun _ => lc_out J0 hA hO hk hw hy hz ht hg0 hc hs hS hCW hl K)
  refine lv_iload hx hb dL_law_318 (lv_at hl 5 rfl) ?_
  refine lv_bipush (v := nI 9) hx hb dL_law_320 (by decide) ?_
  refine lv_icmp_ne (tgt := 387) hx hb dL_law_322 (by decide) (fun _ => ?_) (fun _ => lc_stick J0 hA hO hk hw hy hz ht hg0 hc hs hS hCW hl K)
  refine lv_iload hx hb dL_law_387 (lv_at hl 5 rfl) ?_
  refine lv_bipush (v := nI 10) hx hb dL_law_389 (by decide) ?_
  refine lv_icmp_ne (tgt := 422) hx hb dL_law_391 (by decide) (fun _ => lc_vals J0 hA hO hk hw hy hz ht hc hs hS hCW hl K) (fun _ => lc_cost J0 hA hO hk hw hy hz ht hc hs hS hCW hl K)
set_option maxHeartbeats 4000000 in
set_option maxRecDepth 100000 in
theorem lb_132 {p : Program} {l : Launch} {e : Env} {s : State} {m : MethodId} {below : List Frame} {meth : Method} {c : Code} {b : Nat} {Q : State → Prop} {G : GG} {a : Nat → Nat} {t9 : Nat} (J : LJ p l s m meth c #[Value.ref b] cL_law ret 12 wsL_law G a t9) (hA : ∀ k, s.heap.size ≤ a k) {st : ST} (hO : OKS st) {k w y z t : Nat} (hk : k < 70) (hw : w < 14) (hy : y ≤ 1200000) (hz : z ≤ 12000) (ht : t < 4) {x3 : Int32}  {c0 s0 : Nat} (hc : c0 + 200 ≤ 600104) (hs : s0 + 1200 ≤ 7301314) {H : Heap} {locs : List Loc} {ls : Array Slot} (hS : va_S (fun q : Nat => s.heap.size ≤ q) s.heap H locs) (hCW : CW G a st H) (hl : lv_has ls 12 [(9, .int (nI (nIn (st.1 t)))), (8, .int (nI (nG (st.1 t)))), (7, .int (nI t)), (6, .int (nI z)), (5, .int (nI y)), (4, .int (nI w)), (3, .int x3), (2, .int (nI k)), (1, .ref (a 0)), (0, .ref b)]) (K : ∀ (st1 : ST) (H : Heap) (locs : List Loc) (ls : Array Slot), OKS st1 → va_S (fun q : Nat => s.heap.size ≤ q) s.heap H locs → CW G a st1 H → lv_has ls 12 [(2, .int (nI k)), (1, .ref (a 0)), (0, .ref b)] → W p l e room_1 s m #[Value.ref b] below meth c H locs (c0 + 100) (s0 + 600) Q (F0 m 588 ls [])) : W p l e room_1 s m #[Value.ref b] below meth c H locs (c0) (s0) Q (F0 m 132 ls []) := by
  have J0 := J
  obtain ⟨hfl, hx, hb, hr, hml, hown, hts, hlocks, ha, hK, hNW, hLow, hX, hNC⟩ := J
  have FX : CallFix p m c cL_law 12 s #[Value.ref b] wsL_law RL := ⟨hx, hb, hml, hown, hts⟩
  have hN := hO.1 t ht
  have hG := hN.g
  have hNi := hN.i
  have hNo := hN.o
  have et : ix (nI t) = t := ix_nI (by omega)
  refine lv_iload hx hb dL_law_132 (lv_at hl 5 rfl) ?_
  refine lv_iconst (v := nI 3) hx hb dL_law_134 (by decide) ?_
  refine lv_icmp_lt (tgt := 143) hx hb dL_law_135 (by decide) (fun _ => lc_in J0 hA hO hk hw hy hz ht hc hs hS hCW hl K) (fun _ => ?_)
  refine lv_iload hx hb dL_law_138 (lv_at hl 1 rfl) ?_
  refine lv_if_ne (tgt := 179) hx hb dL_law_140 (by decide) (fun c9 => lb_179 J0 hA hO hk hw hy hz ht (Nat.pos_of_ne_zero (fun h => c9 (by rw [h]; rfl))) hc hs hS hCW hl K) (fun _ => lc_in J0 hA hO hk hw hy hz ht hc hs hS hCW hl K)
set_option maxHeartbeats 4000000 in
set_option maxRecDepth 100000 in
theorem lb_89 {p : Program} {l : Launch} {e : Env} {s : State} {m : MethodId} {below : List Frame} {meth : Method} {c : Code} {b : Nat} {Q : State → Prop} {G : GG} {a : Nat → Nat} {t9 : Nat} (J : LJ p l s m meth c #[Value.ref b] cL_law ret 12 wsL_law G a t9) (hA : ∀ k, s.heap.size ≤ a k) {st : ST} (hO : OKS st) {k w y z t : Nat} (hk : k < 70) (hw : w < 14) (hy : y ≤ 1200000) (hz : z ≤ 12000) (ht : t < 4) {x3 : Int32}  {c0 s0 : Nat} (hc : c0 + 200 ≤ 600104) (hs : s0 + 1200 ≤ 7301314) {H : Heap} {locs : List Loc} {ls : Array Slot} (hS : va_S (fun q : Nat => s.heap.size ≤ q) s.heap H locs) (hCW : CW G a st H) (hl : lv_has ls 12 [(9, .int (nI (nIn (st.1 t)))), (8, .int (nI (nG (st.1 t)))), (7, .int (nI t)), (6, .int (nI z)), (5, .int (nI y)), (4, .int (nI w)), (3, .int x3), (2, .int (nI k)), (1, .ref (a 0)), (0, .ref b)]) (K : ∀ (st1 : ST) (H : Heap) (locs : List Loc) (ls : Array Slot), OKS st1 → va_S (fun q : Nat => s.heap.size ≤ q) s.heap H locs → CW G a st1 H → lv_has ls 12 [(2, .int (nI k)), (1, .ref (a 0)), (0, .ref b)] → W p l e room_1 s m #[Value.ref b] below meth c H locs (c0 + 100) (s0 + 600) Q (F0 m 588 ls [])) : W p l e room_1 s m #[Value.ref b] below meth c H locs (c0) (s0) Q (F0 m 89 ls []) := by
  have J0 := J
  obtain ⟨hfl, hx, hb, hr, hml, hown, hts, hlocks, ha, hK, hNW, hLow, hX, hNC⟩ := J
  have FX : CallFix p m c cL_law 12 s #[Value.ref b] wsL_law RL := ⟨hx, hb, hml, hown, hts⟩
  have hN := hO.1 t ht
  have hG := hN.g
  have hNi := hN.i
  have hNo := hN.o
  have et : ix (nI t) = t := ix_nI (by omega)
  refine lv_iload hx hb dL_law_89 (lv_at hl 5 rfl) ?_
  refine lv_if_ne (tgt := 132) hx hb dL_law_91 (by decide) (fun _ => lb_132 J0 hA hO hk hw hy hz ht hc hs hS hCW hl K) (fun _ => ?_)
  refine lv_iload hx hb dL_law_94 (lv_at hl 4 rfl) ?_
  refine lv_iconst (v := nI 5) hx hb dL_law_96 (by decide) ?_
  refine lv_irem hx hb dL_law_97 (nI_ne0 (by omega) (by omega)) ?_
  refine lv_as (y := nI (y % 5)) (pk_rem (by omega) (by omega) (by omega)) ?_
  refine lv_if_ne (tgt := 132) hx hb dL_law_98 (by decide) (fun _ => lb_132 J0 hA hO hk hw hy hz ht hc hs hS hCW hl K) (fun _ => lc_clear J0 hA hO hk hw hy hz ht hc hs hS hCW hl K)
