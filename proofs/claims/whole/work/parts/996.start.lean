/-! from the law's entry to its loop -/
theorem sz_le {p : Program} {l : Launch} {e : Env} {R : Room} {s : State} {m : MethodId} {args : Array Value} {below : List Frame} {meth : Method} {c : Code} {H : Heap} {locs : List Loc} {cells slots : Nat} {Q : State → Prop} {g : JFrame} (kk : H.size ≤ s.heap.size + cells → W p l e R s m args below meth c H locs cells slots Q g) : W p l e R s m args below meth c H locs cells slots Q g := fun T hT X => by
  have h := X.same.2.2.1
  have e : (T.setVm s.vm).heap = H := hT
  rw [e] at h
  exact kk h T hT X
def st0 : ST := (fun _ => N0, fun _ => 1, fun _ => 1)
theorem ok_st0 : OKS st0 := ⟨fun z _ => show WF N0 from ⟨Nat.zero_le _, Nat.zero_le _, Nat.zero_le _, rfl, fun k hk => absurd hk (Nat.not_lt_zero _), fun p hp => absurd hp (Nat.not_lt_zero _)⟩, fun z _ => ⟨Nat.le_refl 1, show 1 ≤ 9 by decide⟩⟩
theorem mak_0 {G : GG} {a : Nat → Nat} {H : Heap} (h : PP G (makI G a 6) H) : (∃ l9 y9 k9, PP G (makO a 6 l9 y9 k9) H) ∧ (∃ f, PP G (rowW G a 7 6 f) H) ∧ (∃ f, PP G (rowW G a 9 6 f) H) ∧ (∃ f, PP G (rowW G a 11 6 f) H) ∧ (∃ f, PP G (rowW G a 13 6 f) H) ∧ (∃ f, PP G (rowW G a 15 6 f) H) ∧ (∃ f, PP G (rowW G a 17 16 f) H) ∧ (∃ f, PP G (rowW G a 19 5 f) H) := by
  have h1 := P_app1 h
  have h := P_app2 h
  have h2 := P_app1 h
  have h := P_app2 h
  have h3 := P_app1 h
  have h := P_app2 h
  have h4 := P_app1 h
  have h := P_app2 h
  have h5 := P_app1 h
  have h := P_app2 h
  have h6 := P_app1 h
  have h := P_app2 h
  exact ⟨⟨_, _, _, h1⟩, ⟨_, h2⟩, ⟨_, h3⟩, ⟨_, h4⟩, ⟨_, h5⟩, ⟨_, h6⟩, ⟨_, P_app1 h⟩, ⟨_, P_app2 h⟩⟩
set_option maxHeartbeats 4000000 in
set_option maxRecDepth 100000 in
theorem whole_start {p : Program} {e : Env} {s : State} {m : MethodId} {below : List Frame} {meth : Method} {c : Code} (l : Launch) (hflags : l.flags = flags0) {b L : Nat} {xs : Nat → Int32} (hL : L ≤ 2560) (C0 : lw_At p s m meth c b L xs) : W p l e room_1 s m #[Value.ref b] below meth c s.heap [] 0 0 (lw_Z below #[Value.ref b] s) (entryFrame m ([Value.ref b] : List Value).toArray 7) := by
  have hfl := fl_ok hflags
  obtain ⟨hx, hb, hr, hml, hown, hts, hX0, hbl, hlocks, hgv⟩ := id C0
  have htl : ∀ w ∈ wsL_law, w.before #[Value.ref b] s = true := fun w h => hts w (wsL_law_in w h)
  obtain ⟨a, hab⟩ : ∃ a : Nat → Nat, ∀ k, a k = s.heap.size + k := ⟨_, fun _ => rfl⟩
  have ha : Inj a := fun i j h => by rw [hab, hab] at h; omega
  have hA : ∀ k, s.heap.size ≤ a k := fun k => by rw [hab]; omega
  have hM : ∀ q, q < s.heap.size → ¬ inM a q := fun q h1 h2 => by
    obtain ⟨k, e⟩ := h2
    have := hA k
    omega
  obtain ⟨G, hK⟩ := gg_ok hts
  have hNW := nw_ok hts
  have hNI := ni_ok hts
  have hAO := ao_ok hts
  obtain ⟨t9, hLow⟩ := low_ok hts hgv hM
  have D0 : LC p s m meth c b L xs G a t9 := ⟨C0, ha, hK, hNW, hLow, ⟨txt_ok hts hgv, xn_ok hts, xs_ok hts hgv hM⟩, ncx_ok hgv, hA⟩
  have FX : CallFix p m c cL_law 7 s #[Value.ref b] wsL_law RL := ⟨hx, hb, hml, hown, htl⟩
  have hl := lv_entry ([.ref b]) (n := 7) (Nat.le_of_ble_eq_true rfl)
  rw [lg_entry_eq]
  generalize (lg_sl ([.ref b]) ++ List.replicate (7 - (lg_sl ([.ref b])).length) Slot.unset).toArray = ls at hl ⊢
  have hl : lv_has ls 7 [(0, .ref b)] := hl
  have hS : va_S (fun q : Nat => s.heap.size ≤ q) s.heap s.heap [] := va_S.rf
  refine pp_new (a := a) (b0 := s.heap.size) (ci := 11) (fs := [.null, .null, .null, .null, .null, .null, .null, .null, .null, .null, .null, .null]) (C := RX11) (T := TX11) (N := 12) hx hb hts inX11 tyX11 tyX11_ok hown (hts _ (tbw (k := 22) (by decide +kernel))) (hts _ (tbw (k := 23) (by decide +kernel))) (hts _ (tbw (k := 1) (by decide +kernel))) hK rfl (fun j hj => by rcases (show j = 0 ∨ j = 1 ∨ j = 2 ∨ j = 3 ∨ j = 4 ∨ j = 5 ∨ j = 6 ∨ j = 7 ∨ j = 8 ∨ j = 9 ∨ j = 10 ∨ j = 11 by omega) with rfl | rfl | rfl | rfl | rfl | rfl | rfl | rfl | rfl | rfl | rfl | rfl <;> rfl) hab (j := 0) rfl (j1 := 1) rfl hS (Nat.le_of_ble_eq_true rfl) (Nat.le_of_ble_eq_true rfl) dL_law_0 (fun H hP9 hk1 hZ hS => ?_)
  refine lv_dup hx hb dL_law_3 rfl ?_
  refine wr_v (va_runI (As := []) (rest := [.ref (a 0)]) FX (c_X11_init l G a s.heap.size hab) (cwI 0 htl gL_law_X11_init rfl rfl rfl (hts _ (tbw (k := 1) (by decide +kernel))) (hts _ (tbw (k := 24) (by decide +kernel))) (hts _ (tbw (k := 25) (by decide +kernel))) rfl (by decide +kernel) ⟨Nat.le_of_ble_eq_true rfl, Nat.le_of_ble_eq_true rfl⟩) (preI hK hNW ⟨hZ, hP9⟩ hNI hAO) rfl rfl hl.1 rfl (lv_room (Nat.le_of_ble_eq_true rfl)) dL_law_4 ⟨Nat.le_of_ble_eq_true rfl, Nat.le_of_ble_eq_true rfl⟩) hS (rng_ge hA) (fun _ H locs _ hB hk2 hS => ?_)
  obtain ⟨c1, c2, c3, c4, c5, c6, c7, c8, c9, c10, c11, c12, c13, c14⟩ := hB
  obtain ⟨m1, m2, m3, m4, m5, m6, m7, m8⟩ := mak_0 c5
  have hCW : CW G a st0 H := ⟨c1, c2, c3, c4, m1, m2, m3, m4, m5, m6, m7, m8, ⟨_, _, _, c6⟩, ⟨_, _, c7⟩, ⟨_, _, c8⟩, ⟨_, _, c9⟩, ⟨_, _, _, c10⟩, ⟨_, _, c11⟩, ⟨_, c12⟩, ⟨_, _, _, _, _, c13⟩, c14⟩
  refine sz_le (fun z1 => ?_)
  have z2 : a 92 < H.size := (c14 3 (by decide) 10 _ rfl).lt
  rw [hab] at z2
  refine lv_astore_n (lv' := [(1, .ref (a 0)), (0, .ref b)]) hx hb dL_law_7 rfl hl (by decide) rfl (fun ls hl => ?_)
  obtain ⟨d, hd⟩ : ∃ d : Nat → Nat, d = fun k => a (93 + k) := ⟨_, rfl⟩
  have hdb : ∀ k, d k = (s.heap.size + 93) + k := fun k => by rw [hd]; show a (93 + k) = _; rw [hab]; omega
  refine pp_new (a := d) (b0 := s.heap.size + 93) (ci := 12) (fs := [.null, .null, .null, .null, .null, .null, .null, .null, .null, .null, .null, .null, .null, .null, .null, .null, .null, .null, .null, .null, .null, .int (nI 0), .int (nI 0)]) (C := RX12) (T := TX12) (N := 23) hx hb hts inX12 tyX12 tyX12_ok hown (hts _ (tbw (k := 938) (by decide +kernel))) (hts _ (tbw (k := 939) (by decide +kernel))) (hts _ (tbw (k := 13) (by decide +kernel))) hK rfl (fun j hj => by rcases (show j = 0 ∨ j = 1 ∨ j = 2 ∨ j = 3 ∨ j = 4 ∨ j = 5 ∨ j = 6 ∨ j = 7 ∨ j = 8 ∨ j = 9 ∨ j = 10 ∨ j = 11 ∨ j = 12 ∨ j = 13 ∨ j = 14 ∨ j = 15 ∨ j = 16 ∨ j = 17 ∨ j = 18 ∨ j = 19 ∨ j = 20 ∨ j = 21 ∨ j = 22 by omega) with rfl | rfl | rfl | rfl | rfl | rfl | rfl | rfl | rfl | rfl | rfl | rfl | rfl | rfl | rfl | rfl | rfl | rfl | rfl | rfl | rfl | rfl | rfl <;> rfl) hdb (j := 0) (by omega) (j1 := 1) rfl hS (Nat.le_of_ble_eq_true rfl) (Nat.le_of_ble_eq_true rfl) dL_law_8 (fun H hP9 hk3 hZ hS => ?_)
  have hCW : CW G a st0 H := CW_k ha (i := 115) (n := 0) (fun q hq _ => hk3 q hq) (by omega) hCW
  refine lv_dup hx hb dL_law_11 rfl ?_
  refine wr_v (va_runI (As := []) (rest := [.ref (d 0)]) FX (c_X12_init l G d (s.heap.size + 93) hdb) (cwI 0 htl gL_law_X12_init rfl rfl rfl (hts _ (tbw (k := 13) (by decide +kernel))) (hts _ (tbw (k := 940) (by decide +kernel))) (hts _ (tbw (k := 941) (by decide +kernel))) rfl (by decide +kernel) ⟨Nat.le_of_ble_eq_true rfl, Nat.le_of_ble_eq_true rfl⟩) (preS hK hNW ⟨hZ, hP9⟩) rfl rfl hl.1 rfl (lv_room (Nat.le_of_ble_eq_true rfl)) dL_law_12 ⟨Nat.le_of_ble_eq_true rfl, Nat.le_of_ble_eq_true rfl⟩) hS (rng_ge (a := d) (fun k => by rw [hdb]; omega)) (fun _ H locs _ hB hk4 hS => ?_)
  subst hd
  have hCW : CW G a st0 H := CW_k ha (i := 93) (n := 22) (fun q hq hn => hk4 q hq (fun c => hn (by obtain ⟨k, k1, k2, k3⟩ := c; exact ⟨93 + k, by omega, by omega, k3⟩))) (by omega) hCW
  obtain ⟨r0, r1, r2, r3, r4, r5, r6, r7, r8, r9, r10, r11, r12, r13, r14, r15, r16, r17, r18, r19, r20, r21⟩ := hB
  have hMW : MW G a st0 (nI 0) H := ⟨⟨_, r0⟩, ⟨fun _ => nI 0, fun _ => nI 0, fun z hz k hk h0 => absurd h0 (Nat.not_lt_zero _), P_app r1 (P_app r2 (P_app r3 (P_app r4 (P_app r5 r6))))⟩, P_app r7 r8, r9, r10, ⟨_, r11⟩, ⟨_, r12⟩, ⟨_, r13⟩, ⟨_, r14⟩, ⟨_, r15⟩, ⟨_, r16⟩, ⟨_, r17⟩, ⟨_, r18⟩, ⟨_, r19⟩, ⟨_, r20⟩, ⟨_, r21⟩⟩
  refine sz_le (fun z3 => ?_)
  have z4 : a 114 < H.size := (r21 0 _ rfl).lt
  rw [hab] at z4
  refine lv_astore_n (lv' := [(2, .ref (a 93)), (1, .ref (a 0)), (0, .ref b)]) hx hb dL_law_15 rfl hl (by decide) rfl (fun ls hl => ?_)
  refine lv_iconst (v := nI 1) hx hb dL_law_16 (by decide) ?_
  refine pp_newa (a := a) (b0 := s.heap.size) (G := G) (atype := .long) hx hb (hts _ (tbw (k := 131) (by decide +kernel))) (ty := .long) rfl (cA0 := gJ G) ((hK.2 1 _ rfl).2) (N' := 1) (a0 := (1, .inr (.inl (fun _ => 0)))) rfl (nI_pos (by omega)) (nI_clamp (by omega)) (by decide) (Nat.le_of_ble_eq_true rfl) (Nat.le_of_ble_eq_true rfl) dL_law_17 hab (j := 115) (by omega) (j1 := 116) rfl hS (fun H hOut hk5 hZ hS => ?_)
  have hCW : CW G a st0 H := CW_k ha (i := 115) (n := 0) (fun q hq _ => hk5 q hq) (by omega) hCW
  have hMW : MW G a st0 (nI 0) H := MW_k ha (A := fun _ => False) (fun q hq _ => hk5 q hq) (fun _ _ _ h => h) hMW
  refine lv_astore_n (lv' := [(3, .ref (a 115)), (2, .ref (a 93)), (1, .ref (a 0)), (0, .ref b)]) hx hb dL_law_19 rfl hl (by decide) rfl (fun ls hl => ?_)
  refine lv_iconst (v := nI (5 * 0)) hx hb dL_law_20 (by decide) ?_
  refine lv_istore (lv' := [(4, .int (nI (5 * 0))), (3, .ref (a 115)), (2, .ref (a 93)), (1, .ref (a 0)), (0, .ref b)]) hx hb dL_law_21 hl (by decide) rfl (fun ls hl => ?_)
  exact wid (by omega) (by omega) (law_loop hfl D0 hL (L + 1) 0 (by omega) (by omega) ok_st0 hS hCW hMW hOut (lv_sub hl [4, 3, 2, 1, 0] rfl))
