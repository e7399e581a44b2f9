/-! from the law's entry to its loop -/
theorem inL_law_11 : ∀ w ∈ u_ws RX11 TX11 12, w ∈ wsL_law := inlX11
set_option maxHeartbeats 4000000 in
set_option maxRecDepth 100000 in
theorem whole_start {p : Program} {e : Env} {s : State} {m : MethodId} {below : List Frame} {meth : Method} {c : Code} (l : Launch) (hflags : l.flags = flags0) {b L : Nat} {xs : Nat → Int32} (hL : L ≤ 260) (C0 : lw_At p s m meth c b L xs) : W p l e room_1 s m #[Value.ref b] below meth c s.heap [] 0 0 (lw_Z below #[Value.ref b] s) (entryFrame m ([Value.ref b] : List Value).toArray 12) := by
  have hfl := fl_ok hflags
  obtain ⟨hx, hb, hr, hml, hown, hts0, hX9, hbl, hlocks, hgv⟩ := id C0
  have hts : ∀ w ∈ wsL_law, w.before #[Value.ref b] s = true := fun w h => hts0 w (wsL_law_in w h)
  obtain ⟨d, hdb⟩ : ∃ d : Nat → Nat, ∀ k, d k = s.heap.size + k := ⟨_, fun _ => rfl⟩
  have hM : ∀ q, q < s.heap.size → ¬ inM d q := fun q h1 h2 => by
    obtain ⟨k, e⟩ := h2
    rw [hdb] at e
    omega
  obtain ⟨G, hK⟩ := gg_ok hts0
  have hNW := nw_ok hts0
  have hNI := ni_ok hts0
  have hAO := ao_ok hts0
  have hNC := ncx_ok hgv
  obtain ⟨t9, hLow0⟩ := low_ok hts0 hgv hM
  have hX0 : TX d s s.heap := ⟨txt_ok hts0 hgv, xn_ok hts0, xs_ok hts0 hgv hM⟩
  have FX : CallFix p m c cL_law 12 s #[Value.ref b] wsL_law RL := ⟨hx, hb, hml, hown, hts⟩
  have hl := lv_entry ([.ref b]) (n := 12) (Nat.le_of_ble_eq_true rfl)
  rw [lg_entry_eq]
  generalize (lg_sl ([.ref b]) ++ List.replicate (12 - (lg_sl ([.ref b])).length) Slot.unset).toArray = ls at hl ⊢
  have hl : lv_has ls 12 [(0, .ref b)] := hl
  have hS : va_S (fun q : Nat => s.heap.size ≤ q) s.heap s.heap [] := va_S.rf
  have hI : ∀ q, s.heap.size ≤ q → inM d q := fun q h => ⟨q - s.heap.size, by rw [hdb]; omega⟩
  refine wr_i (va_runS (As := []) (rest := []) FX (w_adders l hfl G d t9) (va_cwS 0 hts gL_law_L_adders rfl rfl rfl (by decide +kernel) ⟨Nat.le_of_ble_eq_true rfl, Nat.le_of_ble_eq_true rfl⟩) (preN hK hNW hI hLow0 hX0 hNC hNI hAO) rfl rfl hl.1 rfl (lv_room (Nat.le_of_ble_eq_true rfl)) dL_law_0 ⟨Nat.le_of_ble_eq_true rfl, Nat.le_of_ble_eq_true rfl⟩) hS (fun _ h => h.elim) (fun r _ H locs hp _ hk hS => ?_)
  refine lv_as (y := nI 1) hp ?_
  refine lv_if_ne (tgt := 8) hx hb dL_law_3 (by decide) (fun _ => ?_) (fun c => absurd c (by decide))
  obtain ⟨h0, hh0⟩ : ∃ h0, H.size = h0 := ⟨_, rfl⟩
  have hge : s.heap.size ≤ h0 := by rw [← hh0]; exact hS.1
  obtain ⟨a, hab⟩ : ∃ a : Nat → Nat, ∀ k, a k = h0 + k := ⟨_, fun _ => rfl⟩
  have ha : Inj a := fun i j h => by rw [hab, hab] at h; omega
  have hA : ∀ k, s.heap.size ≤ a k := fun k => by rw [hab]; omega
  have hda : ∀ q, inM a q → inM d q := fun q h => hI q (by obtain ⟨k, e⟩ := h; rw [e]; exact hA k)
  have hLow := hLow0.nar hda
  have hX := hX0.nar hda
  refine pp_new (a := a) (b0 := h0) (ci := 11) (fs := [.null, .null, .null, .null, .null, .null, .null, .null, .null, .null, .null, .null]) (C := RX11) (T := TX11) (N := 12) hx hb hts inL_law_11 tyX11 tyX11_ok hown (hts (.classLink RL 8 RX11) (List.mem_of_getElem? (i := 0) (by decide +kernel))) (hts (.instantiable RX11 12) (List.mem_of_getElem? (i := 1) (by decide +kernel))) (hts (.initialized RX11) (List.mem_of_getElem? (i := 2) (by decide +kernel))) hK rfl (fun j hj => by rcases (show j = 0 ∨ j = 1 ∨ j = 2 ∨ j = 3 ∨ j = 4 ∨ j = 5 ∨ j = 6 ∨ j = 7 ∨ j = 8 ∨ j = 9 ∨ j = 10 ∨ j = 11 by omega) with rfl | rfl | rfl | rfl | rfl | rfl | rfl | rfl | rfl | rfl | rfl | rfl <;> rfl) hab (j := 0) hh0 (j1 := 1) rfl hS (Nat.le_of_ble_eq_true rfl) (Nat.le_of_ble_eq_true rfl) dL_law_8 (fun H hP9 hk1 hZ hS => ?_)
  refine lv_dup hx hb dL_law_11 rfl ?_
  refine wr_v (va_runI (As := []) (rest := [.ref (a 0)]) FX (c_X11_init l G a h0 hab) (cwI 0 hts gL_law_X11_init rfl rfl rfl (hts (.initialized RX11) (List.mem_of_getElem? (i := 2) (by decide +kernel))) (hts (.methodLink RL 92 yX11_init) (List.mem_of_getElem? (i := 10) (by decide +kernel))) (hts (.instanceMethod yX11_init) (List.mem_of_getElem? (i := 11) (by decide +kernel))) rfl (by decide +kernel) ⟨Nat.le_of_ble_eq_true rfl, Nat.le_of_ble_eq_true rfl⟩) (preI hK hNW ⟨hZ, hP9⟩ hNI hAO) rfl rfl hl.1 rfl (lv_room (Nat.le_of_ble_eq_true rfl)) dL_law_12 ⟨Nat.le_of_ble_eq_true rfl, Nat.le_of_ble_eq_true rfl⟩) hS (rng_ge hA) (fun _ H locs _ hB hk2 hS => ?_)
  obtain ⟨c1, c2, c3, c4, c5, c6, c7, c8, c9, c10, c11, c12, c13, c14⟩ := hB
  obtain ⟨m1, m2, m3, m4, m5, m6, m7, m8⟩ := mak_0 c5
  have hCW : CW G a st0 H := ⟨c1, c2, c3, c4, m1, m2, m3, m4, m5, m6, m7, m8, ⟨_, _, _, c6⟩, ⟨_, _, c7⟩, ⟨_, _, c8⟩, ⟨_, _, c9⟩, ⟨_, _, _, c10⟩, ⟨_, _, c11⟩, ⟨_, c12⟩, ⟨_, _, _, _, _, c13⟩, c14⟩
  refine lv_astore_n (lv' := [(1, .ref (a 0)), (0, .ref b)]) hx hb dL_law_15 rfl hl (by decide) rfl (fun ls hl => ?_)
  refine lv_iconst (v := nI 0) hx hb dL_law_16 (by decide) ?_
  refine lv_istore_n (lv' := [(2, .int (nI 0)), (1, .ref (a 0)), (0, .ref b)]) hx hb dL_law_17 rfl hl (by decide) rfl (fun ls hl => ?_)
  exact wid (by omega) (by omega) (law_loop ⟨hfl, hx, hb, hr, hml, hown, hts, hlocks, ha, hK, hNW, hLow, hX, hNC⟩ hA hX9 hbl hL 70 0 rfl ok_st0 hS hCW hl)
