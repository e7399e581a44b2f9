/-! the law's drawn rounds -/
theorem rm_ok {x y : Nat} (h1 : x ≤ 600104) (h2 : y ≤ 7301314) : x ≤ room_1.cells ∧ y ≤ room_1.slots := ⟨h1, h2⟩
theorem sb3 : ∀ m, m < 3 → (nI m - nI 1 = -1 ∨ nI m - nI 1 = 0 ∨ nI m - nI 1 = 1) := by decide
theorem ush8 (v : Int32) : ∃ X, X < 16777216 ∧ (v.toUInt32 >>> ((nI 8).toUInt32 &&& Int32.toUInt32 31)).toInt32 = nI X := by
  have h := v.toBitVec.isLt
  refine ⟨v.toBitVec.toNat / 2 ^ 8, by omega, ?_⟩
  apply Int32.toBitVec_inj.mp
  apply BitVec.eq_of_toNat_eq
  rw [pk_ushr v (nI 8) 8 (by decide), pk_tn (by omega)]
theorem num_ex (y z : Nat) (hy : y < 2 ^ 31) (hz : z < 2 ^ 31) : ∃ n, n ≤ 32767 ∧ ((nI y &&& nI 1023) <<< (nI 5 &&& 31)) ||| (nI z &&& nI 31) = nI n := by
  have a1 : y % 1024 * 32 < 2 ^ 15 := by omega
  have a2 : z % 32 < 2 ^ 15 := by omega
  have a3 := Nat.or_lt_two_pow a1 a2
  refine ⟨(y % 1024 * 32) ||| (z % 32), by omega, ?_⟩
  rw [show nI y &&& nI 1023 = nI (y % 2 ^ 10) from pk_andN (by omega) 10 (by decide), show nI z &&& nI 31 = nI (z % 2 ^ 5) from pk_andN (by omega) 5 (by decide)]
  apply Int32.toBitVec_inj.mp
  apply BitVec.eq_of_toNat_eq
  rw [Int32.toBitVec_or, BitVec.toNat_or, pk_shl (nI (y % 2 ^ 10)) (nI 5 &&& 31) 5 (by decide), pk_tn (by omega), pk_tn (by omega), pk_tn (by omega), Nat.mod_eq_of_lt (by omega)]
theorem pa_0 {N : NT} {dl : Nat → Nat} : paV N dl (nI 0) = oI (bst N (tm N dl) (nO N)) := by
  unfold paV
  rw [if_pos (nI_lt (by decide) (by decide)), ix_nI (by decide)]
  rfl
theorem bst_none {N : NT} {t : Nat → Nat} (h : bst N t (nO N) = none) : nO N = 0 := by
  cases hn : nO N with
  | zero => rfl
  | succ p =>
    rw [hn] at h
    have h1 : bsS N t p (bst N t p) = none := h
    cases hb : bst N t p with
    | none => rw [hb] at h1; cases h1
    | some g =>
      rw [hb] at h1
      have h2 : (if t g < t (nU N p) then some (nU N p) else some g) = none := h1
      by_cases c : t g < t (nU N p)
      · rw [if_pos c] at h2; cases h2
      · rw [if_neg c] at h2; cases h2
set_option maxHeartbeats 4000000 in
set_option maxRecDepth 100000 in
theorem lc_clear {p : Program} {l : Launch} {e : Env} {s : State} {m : MethodId} {below : List Frame} {meth : Method} {c : Code} {b : Nat} {Q : State → Prop} {G : GG} {a : Nat → Nat} {t9 : Nat} (J : LJ p l s m meth c #[Value.ref b] cL_law ret 12 wsL_law G a t9) (hA : ∀ k, s.heap.size ≤ a k) {st : ST} (hO : OKS st) {k w y z t : Nat} (hk : k < 70) (hw : w < 14) (hy : y ≤ 1200000) (hz : z ≤ 12000) (ht : t < 4) {x3 : Int32}  {c0 s0 : Nat} (hc : c0 + 200 ≤ 600104) (hs : s0 + 1200 ≤ 7301314) {H : Heap} {locs : List Loc} {ls : Array Slot} (hS : va_S (fun q : Nat => s.heap.size ≤ q) s.heap H locs) (hCW : CW G a st H) (hl : lv_has ls 12 [(9, .int (nI (nIn (st.1 t)))), (8, .int (nI (nG (st.1 t)))), (7, .int (nI t)), (6, .int (nI z)), (5, .int (nI y)), (4, .int (nI w)), (3, .int x3), (2, .int (nI k)), (1, .ref (a 0)), (0, .ref b)]) (K : ∀ (st1 : ST) (H : Heap) (locs : List Loc) (ls : Array Slot), OKS st1 → va_S (fun q : Nat => s.heap.size ≤ q) s.heap H locs → CW G a st1 H → lv_has ls 12 [(2, .int (nI k)), (1, .ref (a 0)), (0, .ref b)] → W p l e room_1 s m #[Value.ref b] below meth c H locs (c0 + 100) (s0 + 600) Q (F0 m 588 ls [])) : W p l e room_1 s m #[Value.ref b] below meth c H locs (c0) (s0) Q (F0 m 101 ls []) := by
  have J0 := J
  obtain ⟨hfl, hx, hb, hr, hml, hown, hts, hlocks, ha, hK, hNW, hLow, hX, hNC⟩ := J
  have FX : CallFix p m c cL_law 12 s #[Value.ref b] wsL_law RL := ⟨hx, hb, hml, hown, hts⟩
  have hN := hO.1 t ht
  have hG := hN.g
  have hNi := hN.i
  have hNo := hN.o
  have et : ix (nI t) = t := ix_nI (by omega)
  refine lv_aload_n hx hb dL_law_101 rfl (lv_at hl 8 rfl) ?_
  refine lv_iload hx hb dL_law_102 (lv_at hl 2 rfl) ?_
  refine wr_i (va_runV (As := [.int (nI t)]) (rest := []) FX (n_clear l hfl G a ha t9 st t hO ht) (cwV 1 hts gL_law_X11_clear rfl rfl rfl (by decide +kernel) ⟨Nat.le_of_ble_eq_true rfl, Nat.le_of_ble_eq_true rfl⟩) (preVX hK hNW hCW (hLow.at hS (fun q9 h8 h9 => absurd h8 (Nat.not_lt.mpr h9))) (hX.at hS (fun q9 h8 h9 => absurd h8 (Nat.not_lt.mpr h9))) (cw_recv hK hCW)) rfl rfl hl.1 rfl (lv_room (Nat.le_of_ble_eq_true rfl)) dL_law_104 (rm_ok (by omega) (by omega))) hS (rng_ge hA) (fun r _ H locs hp hCW hk hS => ?_)
  refine lv_as (y := nI (nG (st.1 t))) hp ?_
  refine lv_iload hx hb dL_law_107 (lv_at hl 1 rfl) ?_
  refine lv_icmp_ne (tgt := 130) hx hb dL_law_109 (by decide) (fun c => absurd rfl c) (fun _ => ?_)
  refine lv_aload_n hx hb dL_law_112 rfl (lv_at hl 8 rfl) ?_
  refine lv_iload hx hb dL_law_113 (lv_at hl 2 rfl) ?_
  refine lv_iconst (v := nI 1) hx hb dL_law_115 (by decide) ?_
  refine wr_i (va_runV (As := [.int (nI t), .int (nI 1)]) (rest := []) FX (n_ofNet l hfl G a ha t9 (clS st t) t 1 (okn_clear hO ht) ht (by decide)) (cwV 2 hts gL_law_X11_ofNet rfl rfl rfl (by decide +kernel) ⟨Nat.le_of_ble_eq_true rfl, Nat.le_of_ble_eq_true rfl⟩) (preVX hK hNW hCW (hLow.at hS (fun q9 h8 h9 => absurd h8 (Nat.not_lt.mpr h9))) (hX.at hS (fun q9 h8 h9 => absurd h8 (Nat.not_lt.mpr h9))) (cw_recv hK hCW)) rfl rfl hl.1 rfl (lv_room (Nat.le_of_ble_eq_true rfl)) dL_law_116 (rm_ok (by omega) (by omega))) hS (rng_ge hA) (fun r _ H locs hp hCW hk hS => ?_)
  refine lv_as (y := nI 0) (hp.trans (of_1 (by show nIn (upN st.1 t _ t) = 0; rw [upN_s]; rfl))) ?_
  refine lv_aload_n hx hb dL_law_119 rfl (lv_at hl 8 rfl) ?_
  refine lv_iload hx hb dL_law_120 (lv_at hl 2 rfl) ?_
  refine lv_iconst (v := nI 2) hx hb dL_law_122 (by decide) ?_
  refine wr_i (va_runV (As := [.int (nI t), .int (nI 2)]) (rest := [.int (nI 0)]) FX (n_ofNet l hfl G a ha t9 (clS st t) t 2 (okn_clear hO ht) ht (by decide)) (cwV 2 hts gL_law_X11_ofNet rfl rfl rfl (by decide +kernel) ⟨Nat.le_of_ble_eq_true rfl, Nat.le_of_ble_eq_true rfl⟩) (preVX hK hNW hCW (hLow.at hS (fun q9 h8 h9 => absurd h8 (Nat.not_lt.mpr h9))) (hX.at hS (fun q9 h8 h9 => absurd h8 (Nat.not_lt.mpr h9))) (cw_recv hK hCW)) rfl rfl hl.1 rfl (lv_room (Nat.le_of_ble_eq_true rfl)) dL_law_123 (rm_ok (by omega) (by omega))) hS (rng_ge hA) (fun r _ H locs hp hCW hk hS => ?_)
  refine lv_as (y := nI 0) (hp.trans (of_2 (by show nO (upN st.1 t _ t) = 0; rw [upN_s]; rfl))) ?_
  refine lv_iadd hx hb dL_law_126 ?_
  refine lv_as (y := nI 0) (by decide) ?_
  refine lv_if_eq (tgt := 588) hx hb dL_law_127 (by decide) (fun _ => ?_) (fun c => absurd c (by decide))
  exact wid (by omega) (by omega) (K (clS st t) _ _ _ (okn_clear hO ht) hS hCW (lv_sub hl [7, 8, 9] rfl))
set_option maxHeartbeats 4000000 in
set_option maxRecDepth 100000 in
theorem lc_in {p : Program} {l : Launch} {e : Env} {s : State} {m : MethodId} {below : List Frame} {meth : Method} {c : Code} {b : Nat} {Q : State → Prop} {G : GG} {a : Nat → Nat} {t9 : Nat} (J : LJ p l s m meth c #[Value.ref b] cL_law ret 12 wsL_law G a t9) (hA : ∀ k, s.heap.size ≤ a k) {st : ST} (hO : OKS st) {k w y z t : Nat} (hk : k < 70) (hw : w < 14) (hy : y ≤ 1200000) (hz : z ≤ 12000) (ht : t < 4) {x3 : Int32}  {c0 s0 : Nat} (hc : c0 + 200 ≤ 600104) (hs : s0 + 1200 ≤ 7301314) {H : Heap} {locs : List Loc} {ls : Array Slot} (hS : va_S (fun q : Nat => s.heap.size ≤ q) s.heap H locs) (hCW : CW G a st H) (hl : lv_has ls 12 [(9, .int (nI (nIn (st.1 t)))), (8, .int (nI (nG (st.1 t)))), (7, .int (nI t)), (6, .int (nI z)), (5, .int (nI y)), (4, .int (nI w)), (3, .int x3), (2, .int (nI k)), (1, .ref (a 0)), (0, .ref b)]) (K : ∀ (st1 : ST) (H : Heap) (locs : List Loc) (ls : Array Slot), OKS st1 → va_S (fun q : Nat => s.heap.size ≤ q) s.heap H locs → CW G a st1 H → lv_has ls 12 [(2, .int (nI k)), (1, .ref (a 0)), (0, .ref b)] → W p l e room_1 s m #[Value.ref b] below meth c H locs (c0 + 100) (s0 + 600) Q (F0 m 588 ls [])) : W p l e room_1 s m #[Value.ref b] below meth c H locs (c0) (s0) Q (F0 m 143 ls []) := by
  have J0 := J
  obtain ⟨hfl, hx, hb, hr, hml, hown, hts, hlocks, ha, hK, hNW, hLow, hX, hNC⟩ := J
  have FX : CallFix p m c cL_law 12 s #[Value.ref b] wsL_law RL := ⟨hx, hb, hml, hown, hts⟩
  have hN := hO.1 t ht
  have hG := hN.g
  have hNi := hN.i
  have hNo := hN.o
  have et : ix (nI t) = t := ix_nI (by omega)
  by_cases hq : nG (st.1 t) < 120 ∧ nIn (st.1 t) < 30
  · skip
    refine lv_aload_n hx hb dL_law_143 rfl (lv_at hl 8 rfl) ?_
    refine lv_iconst (v := nI 0) hx hb dL_law_144 (by decide) ?_
    refine lv_iload hx hb dL_law_145 (lv_at hl 2 rfl) ?_
    refine lv_iconst (v := nI 0) hx hb dL_law_147 (by decide) ?_
    refine lv_iconst (v := nI 0) hx hb dL_law_148 (by decide) ?_
    refine lv_iconst (v := nI 0) hx hb dL_law_149 (by decide) ?_
    have hC : cIn st.1 (nI t) = 0 := z0_input hO ht hq.1 hq.2
    refine wr_i (vx_run0 (vx_runSX (As := [.ref (a 0), .int (nI 0), .int (nI t), .int (nI 0), .int (nI 0), .int (nI 0)]) (rest := []) FX (w_act_input l hfl G a ha t9 st (nI t) (nI 0) (nI 0) (nI 0) hO) (vx_cwSW 6 hts gL_law_L_act rfl rfl rfl (by decide +kernel) ⟨Nat.le_of_ble_eq_true rfl, Nat.le_of_ble_eq_true rfl⟩) (preW hK hNW hCW (hLow.at hS (fun q9 h8 h9 => absurd h8 (Nat.not_lt.mpr h9))) (hX.at hS (fun q9 h8 h9 => absurd h8 (Nat.not_lt.mpr h9))) hNC) rfl rfl hl.1 rfl (lv_room (Nat.le_of_ble_eq_true rfl)) dL_law_150 (rm_ok (by omega) (by omega)))) hS (rng_ge hA) (fun r _ H locs hp hCW hk hS => ?_)
    refine lv_as (y := nI (nG (st.1 t))) ((hp.1 hC).trans (by rw [et])) ?_
    have hCW : CW G a (inS st t) H := by rw [e_input hO ht hq.1 hq.2] at hCW; exact hCW
    refine lv_iload hx hb dL_law_153 (lv_at hl 1 rfl) ?_
    refine lv_bipush (v := nI 120) hx hb dL_law_155 (by decide) ?_
    refine lv_icmp_ge (tgt := 172) hx hb dL_law_157 (by decide) (fun c => absurd (cv_le (by omega) (by omega) c) (by omega)) (fun _ => ?_)
    refine lv_iload hx hb dL_law_160 (lv_at hl 0 rfl) ?_
    refine lv_bipush (v := nI 30) hx hb dL_law_162 (by decide) ?_
    refine lv_icmp_ge (tgt := 172) hx hb dL_law_164 (by decide) (fun c => absurd (cv_le (by omega) (by omega) c) (by omega)) (fun _ => ?_)
    refine lv_iload hx hb dL_law_167 (lv_at hl 1 rfl) ?_
    refine lv_goto (tgt := 174) hx hb dL_law_169 (by decide) ?_
    refine lv_icmp_eq (tgt := 588) hx hb dL_law_174 (by decide) (fun _ => ?_) (fun c => absurd rfl c)
    exact wid (by omega) (by omega) (K (inS st t) _ _ _ (okn_input hO ht hq.1 hq.2) hS hCW (lv_sub hl [7, 8, 9] rfl))
  · skip
    by_cases hq2 : nG (st.1 t) < 120
    · skip
      have hq3 : 30 ≤ nIn (st.1 t) := Nat.le_of_not_lt (fun h => hq ⟨hq2, h⟩)
      refine lv_aload_n hx hb dL_law_143 rfl (lv_at hl 8 rfl) ?_
      refine lv_iconst (v := nI 0) hx hb dL_law_144 (by decide) ?_
      refine lv_iload hx hb dL_law_145 (lv_at hl 2 rfl) ?_
      refine lv_iconst (v := nI 0) hx hb dL_law_147 (by decide) ?_
      refine lv_iconst (v := nI 0) hx hb dL_law_148 (by decide) ?_
      refine lv_iconst (v := nI 0) hx hb dL_law_149 (by decide) ?_
      have hC : cIn st.1 (nI t) = 3 := by unfold cIn; rw [if_pos (bd4 ht (by omega)), et, if_neg hq]
      refine wr_i (vx_run0 (vx_runSX (As := [.ref (a 0), .int (nI 0), .int (nI t), .int (nI 0), .int (nI 0), .int (nI 0)]) (rest := []) FX (w_act_input l hfl G a ha t9 st (nI t) (nI 0) (nI 0) (nI 0) hO) (vx_cwSW 6 hts gL_law_L_act rfl rfl rfl (by decide +kernel) ⟨Nat.le_of_ble_eq_true rfl, Nat.le_of_ble_eq_true rfl⟩) (preW hK hNW hCW (hLow.at hS (fun q9 h8 h9 => absurd h8 (Nat.not_lt.mpr h9))) (hX.at hS (fun q9 h8 h9 => absurd h8 (Nat.not_lt.mpr h9))) hNC) rfl rfl hl.1 rfl (lv_room (Nat.le_of_ble_eq_true rfl)) dL_law_150 (rm_ok (by omega) (by omega)))) hS (rng_ge hA) (fun r _ H locs hp hCW hk hS => ?_)
      refine lv_as (y := -7000003) (hp.2.2.2 hC) ?_
      rw [stN_n hC (by decide)] at hCW
      have hCW : CW G a st H := hCW
      refine lv_iload hx hb dL_law_153 (lv_at hl 1 rfl) ?_
      refine lv_bipush (v := nI 120) hx hb dL_law_155 (by decide) ?_
      refine lv_icmp_ge (tgt := 172) hx hb dL_law_157 (by decide) (fun c => absurd (cv_le (by omega) (by omega) c) (by omega)) (fun _ => ?_)
      refine lv_iload hx hb dL_law_160 (lv_at hl 0 rfl) ?_
      refine lv_bipush (v := nI 30) hx hb dL_law_162 (by decide) ?_
      refine lv_icmp_ge (tgt := 172) hx hb dL_law_164 (by decide) (fun _ => ?_) (fun c => absurd (nI_le (by omega) (by omega)) c)
      refine lv_ldc (v := -7000003) hx hb hown (hts (.constant RL 81 (-7000003)) (List.mem_of_getElem? (i := 3) (by decide +kernel))) dL_law_172 ?_
      refine lv_icmp_eq (tgt := 588) hx hb dL_law_174 (by decide) (fun _ => ?_) (fun c => absurd c (by decide))
      exact wid (by omega) (by omega) (K st _ _ _ hO hS hCW (lv_sub hl [7, 8, 9] rfl))
    · skip
      refine lv_aload_n hx hb dL_law_143 rfl (lv_at hl 8 rfl) ?_
      refine lv_iconst (v := nI 0) hx hb dL_law_144 (by decide) ?_
      refine lv_iload hx hb dL_law_145 (lv_at hl 2 rfl) ?_
      refine lv_iconst (v := nI 0) hx hb dL_law_147 (by decide) ?_
      refine lv_iconst (v := nI 0) hx hb dL_law_148 (by decide) ?_
      refine lv_iconst (v := nI 0) hx hb dL_law_149 (by decide) ?_
      have hC : cIn st.1 (nI t) = 3 := by unfold cIn; rw [if_pos (bd4 ht (by omega)), et, if_neg hq]
      refine wr_i (vx_run0 (vx_runSX (As := [.ref (a 0), .int (nI 0), .int (nI t), .int (nI 0), .int (nI 0), .int (nI 0)]) (rest := []) FX (w_act_input l hfl G a ha t9 st (nI t) (nI 0) (nI 0) (nI 0) hO) (vx_cwSW 6 hts gL_law_L_act rfl rfl rfl (by decide +kernel) ⟨Nat.le_of_ble_eq_true rfl, Nat.le_of_ble_eq_true rfl⟩) (preW hK hNW hCW (hLow.at hS (fun q9 h8 h9 => absurd h8 (Nat.not_lt.mpr h9))) (hX.at hS (fun q9 h8 h9 => absurd h8 (Nat.not_lt.mpr h9))) hNC) rfl rfl hl.1 rfl (lv_room (Nat.le_of_ble_eq_true rfl)) dL_law_150 (rm_ok (by omega) (by omega)))) hS (rng_ge hA) (fun r _ H locs hp hCW hk hS => ?_)
      refine lv_as (y := -7000003) (hp.2.2.2 hC) ?_
      rw [stN_n hC (by decide)] at hCW
      have hCW : CW G a st H := hCW
      refine lv_iload hx hb dL_law_153 (lv_at hl 1 rfl) ?_
      refine lv_bipush (v := nI 120) hx hb dL_law_155 (by decide) ?_
      refine lv_icmp_ge (tgt := 172) hx hb dL_law_157 (by decide) (fun _ => ?_) (fun c => absurd (nI_le (by omega) (by omega)) c)
      refine lv_ldc (v := -7000003) hx hb hown (hts (.constant RL 81 (-7000003)) (List.mem_of_getElem? (i := 3) (by decide +kernel))) dL_law_172 ?_
      refine lv_icmp_eq (tgt := 588) hx hb dL_law_174 (by decide) (fun _ => ?_) (fun c => absurd c (by decide))
      exact wid (by omega) (by omega) (K st _ _ _ hO hS hCW (lv_sub hl [7, 8, 9] rfl))
set_option maxHeartbeats 4000000 in
set_option maxRecDepth 100000 in
theorem lc_gate {p : Program} {l : Launch} {e : Env} {s : State} {m : MethodId} {below : List Frame} {meth : Method} {c : Code} {b : Nat} {Q : State → Prop} {G : GG} {a : Nat → Nat} {t9 : Nat} (J : LJ p l s m meth c #[Value.ref b] cL_law ret 12 wsL_law G a t9) (hA : ∀ k, s.heap.size ≤ a k) {st : ST} (hO : OKS st) {k w y z t : Nat} (hk : k < 70) (hw : w < 14) (hy : y ≤ 1200000) (hz : z ≤ 12000) (ht : t < 4) {x3 : Int32} (hg0 : 0 < nG (st.1 t)) {c0 s0 : Nat} (hc : c0 + 200 ≤ 600104) (hs : s0 + 1200 ≤ 7301314) {H : Heap} {locs : List Loc} {ls : Array Slot} (hS : va_S (fun q : Nat => s.heap.size ≤ q) s.heap H locs) (hCW : CW G a st H) (hl : lv_has ls 12 [(9, .int (nI (nIn (st.1 t)))), (8, .int (nI (nG (st.1 t)))), (7, .int (nI t)), (6, .int (nI z)), (5, .int (nI y)), (4, .int (nI w)), (3, .int x3), (2, .int (nI k)), (1, .ref (a 0)), (0, .ref b)]) (K : ∀ (st1 : ST) (H : Heap) (locs : List Loc) (ls : Array Slot), OKS st1 → va_S (fun q : Nat => s.heap.size ≤ q) s.heap H locs → CW G a st1 H → lv_has ls 12 [(2, .int (nI k)), (1, .ref (a 0)), (0, .ref b)] → W p l e room_1 s m #[Value.ref b] below meth c H locs (c0 + 100) (s0 + 600) Q (F0 m 588 ls [])) : W p l e room_1 s m #[Value.ref b] below meth c H locs (c0) (s0) Q (F0 m 186 ls []) := by
  have J0 := J
  obtain ⟨hfl, hx, hb, hr, hml, hown, hts, hlocks, ha, hK, hNW, hLow, hX, hNC⟩ := J
  have FX : CallFix p m c cL_law 12 s #[Value.ref b] wsL_law RL := ⟨hx, hb, hml, hown, hts⟩
  have hN := hO.1 t ht
  have hG := hN.g
  have hNi := hN.i
  have hNo := hN.o
  have et : ix (nI t) = t := ix_nI (by omega)
  have hkd : y / 4 % 4 < 4 := Nat.mod_lt _ (by decide)
  have h1 : z % nG (st.1 t) < nG (st.1 t) := Nat.mod_lt _ hg0
  have h2 : y / 16 % nG (st.1 t) < nG (st.1 t) := Nat.mod_lt _ hg0
  have e2 : ix (nI (y / 16 % nG (st.1 t))) = y / 16 % nG (st.1 t) := ix_nI (by omega)
  by_cases hq : nG (st.1 t) < 120
  · skip
    have hN2 : (gaS st t (y / 4 % 4) (z % nG (st.1 t)) (ix (nI (y / 16 % nG (st.1 t))))).1 t = addG (st.1 t) (y / 4 % 4) (z % nG (st.1 t)) (if y / 4 % 4 = 3 then z % nG (st.1 t) else ix (nI (y / 16 % nG (st.1 t)))) := by
      show upN st.1 t (addG (st.1 t) (y / 4 % 4) (z % nG (st.1 t)) (if y / 4 % 4 = 3 then z % nG (st.1 t) else ix (nI (y / 16 % nG (st.1 t))))) t = _
      exact upN_s
    have hOK := okn_gate (s9 := nI (y / 16 % nG (st.1 t))) hO ht hkd h1 (Or.inr ⟨by rw [e2]; exact h2, by rw [e2]⟩) hq
    have hW2 := hOK.1 t ht
    have hk2 : nK ((gaS st t (y / 4 % 4) (z % nG (st.1 t)) (ix (nI (y / 16 % nG (st.1 t))))).1 t) (nG (st.1 t)) = y / 4 % 4 := by rw [hN2]; exact un_s
    have hf2 : nF ((gaS st t (y / 4 % 4) (z % nG (st.1 t)) (ix (nI (y / 16 % nG (st.1 t))))).1 t) (nG (st.1 t)) = z % nG (st.1 t) := by rw [hN2]; exact un_s
    have htm := tm_gt (dl := (gaS st t (y / 4 % 4) (z % nG (st.1 t)) (ix (nI (y / 16 % nG (st.1 t))))).2.1) hW2 (k := nG (st.1 t)) (by rw [hN2]; exact Nat.lt_succ_self _) (by rw [hk2]; omega)
    rw [hk2, hf2] at htm
    have hdl := hO.2 (y / 4 % 4) hkd
    have hdl : 1 ≤ (gaS st t (y / 4 % 4) (z % nG (st.1 t)) (ix (nI (y / 16 % nG (st.1 t))))).2.1 (y / 4 % 4) := hdl.1
    have hlt := tm_lt (dl := (gaS st t (y / 4 % 4) (z % nG (st.1 t)) (ix (nI (y / 16 % nG (st.1 t))))).2.1) hW2 hOK.2 (k := nG (st.1 t)) (by rw [hN2]; exact Nat.lt_succ_self _)
    have hmx := Nat.le_max_left (tm ((gaS st t (y / 4 % 4) (z % nG (st.1 t)) (ix (nI (y / 16 % nG (st.1 t))))).1 t) (gaS st t (y / 4 % 4) (z % nG (st.1 t)) (ix (nI (y / 16 % nG (st.1 t))))).2.1 (z % nG (st.1 t))) (tm ((gaS st t (y / 4 % 4) (z % nG (st.1 t)) (ix (nI (y / 16 % nG (st.1 t))))).1 t) (gaS st t (y / 4 % 4) (z % nG (st.1 t)) (ix (nI (y / 16 % nG (st.1 t))))).2.1 (nS ((gaS st t (y / 4 % 4) (z % nG (st.1 t)) (ix (nI (y / 16 % nG (st.1 t))))).1 t) (nG (st.1 t))))
    refine lv_iload hx hb dL_law_186 (lv_at hl 3 rfl) ?_
    refine lv_iload hx hb dL_law_188 (lv_at hl 1 rfl) ?_
    refine lv_irem hx hb dL_law_190 (nI_ne0 (by omega) (by omega)) ?_
    refine lv_as (y := nI (z % (nG (st.1 t)))) (pk_rem (by omega) (by omega) (by omega)) ?_
    refine lv_istore (lv' := [(10, .int (nI (z % (nG (st.1 t))))), (9, .int (nI (nIn (st.1 t)))), (8, .int (nI (nG (st.1 t)))), (7, .int (nI t)), (6, .int (nI z)), (5, .int (nI y)), (4, .int (nI w)), (3, .int x3), (2, .int (nI k)), (1, .ref (a 0)), (0, .ref b)]) hx hb dL_law_191 hl (by decide) rfl (fun ls hl => ?_)
    refine lv_aload_n hx hb dL_law_193 rfl (lv_at hl 9 rfl) ?_
    refine lv_iconst (v := nI 1) hx hb dL_law_194 (by decide) ?_
    refine lv_iload hx hb dL_law_195 (lv_at hl 3 rfl) ?_
    refine lv_iload hx hb dL_law_197 (lv_at hl 5 rfl) ?_
    refine lv_iconst (v := nI 4) hx hb dL_law_199 (by decide) ?_
    refine lv_idiv hx hb dL_law_200 (nI_ne0 (by omega) (by omega)) ?_
    refine lv_as (y := nI (y / 4)) (pk_div (by omega) (by omega) (by omega)) ?_
    refine lv_iconst (v := nI 4) hx hb dL_law_201 (by decide) ?_
    refine lv_irem hx hb dL_law_202 (nI_ne0 (by omega) (by omega)) ?_
    refine lv_as (y := nI ((y / 4) % 4)) (pk_rem (by omega) (by omega) (by omega)) ?_
    refine lv_iload hx hb dL_law_203 (lv_at hl 0 rfl) ?_
    refine lv_iload hx hb dL_law_205 (lv_at hl 5 rfl) ?_
    refine lv_bipush (v := nI 16) hx hb dL_law_207 (by decide) ?_
    refine lv_idiv hx hb dL_law_209 (nI_ne0 (by omega) (by omega)) ?_
    refine lv_as (y := nI (y / 16)) (pk_div (by omega) (by omega) (by omega)) ?_
    refine lv_iload hx hb dL_law_210 (lv_at hl 2 rfl) ?_
    refine lv_irem hx hb dL_law_212 (nI_ne0 (by omega) (by omega)) ?_
    refine lv_as (y := nI ((y / 16) % (nG (st.1 t)))) (pk_rem (by omega) (by omega) (by omega)) ?_
    have hC : cGa st.1 (nI t) (nI (y / 4 % 4)) (nI (z % nG (st.1 t))) (nI (y / 16 % nG (st.1 t))) = 0 := z0_gate hO ht hkd h1 (Or.inr ⟨by rw [e2]; exact h2, by rw [e2]⟩) hq
    refine wr_i (vx_run0 (vx_runSX (As := [.ref (a 0), .int (nI 1), .int (nI t), .int (nI ((y / 4) % 4)), .int (nI (z % (nG (st.1 t)))), .int (nI ((y / 16) % (nG (st.1 t))))]) (rest := []) FX (w_act_gate l hfl G a ha t9 st (nI t) (nI (y / 4 % 4)) (nI (z % nG (st.1 t))) (nI (y / 16 % nG (st.1 t))) hO) (vx_cwSW 6 hts gL_law_L_act rfl rfl rfl (by decide +kernel) ⟨Nat.le_of_ble_eq_true rfl, Nat.le_of_ble_eq_true rfl⟩) (preW hK hNW hCW (hLow.at hS (fun q9 h8 h9 => absurd h8 (Nat.not_lt.mpr h9))) (hX.at hS (fun q9 h8 h9 => absurd h8 (Nat.not_lt.mpr h9))) hNC) rfl rfl hl.1 rfl (lv_room (Nat.le_of_ble_eq_true rfl)) dL_law_213 (rm_ok (by omega) (by omega)))) hS (rng_ge hA) (fun r _ H locs hp hCW hk hS => ?_)
    refine lv_as (y := nI (nG (st.1 t))) ((hp.1 hC).trans (by rw [et])) ?_
    have hCW : CW G a (gaS st t (y / 4 % 4) (z % nG (st.1 t)) (ix (nI (y / 16 % nG (st.1 t))))) H := by rw [e_gate (s9 := nI (y / 16 % nG (st.1 t))) hO ht hkd h1 (Or.inr ⟨by rw [e2]; exact h2, by rw [e2]⟩) hq] at hCW; exact hCW
    refine lv_iload hx hb dL_law_216 (lv_at hl 2 rfl) ?_
    refine lv_bipush (v := nI 120) hx hb dL_law_218 (by decide) ?_
    refine lv_icmp_ge (tgt := 228) hx hb dL_law_220 (by decide) (fun c => absurd (cv_le (by omega) (by omega) c) (by omega)) (fun _ => ?_)
    refine lv_iload hx hb dL_law_223 (lv_at hl 2 rfl) ?_
    refine lv_goto (tgt := 230) hx hb dL_law_225 (by decide) ?_
    refine lv_icmp_eq (tgt := 235) hx hb dL_law_230 (by decide) (fun _ => ?_) (fun c => absurd rfl c)
    refine lv_iload hx hb dL_law_235 (lv_at hl 2 rfl) ?_
    refine lv_bipush (v := nI 120) hx hb dL_law_237 (by decide) ?_
    refine lv_icmp_ge (tgt := 263) hx hb dL_law_239 (by decide) (fun c => absurd (cv_le (by omega) (by omega) c) (by omega)) (fun _ => ?_)
    refine lv_aload_n hx hb dL_law_242 rfl (lv_at hl 9 rfl) ?_
    refine lv_iload hx hb dL_law_243 (lv_at hl 3 rfl) ?_
    refine lv_iload hx hb dL_law_245 (lv_at hl 2 rfl) ?_
    refine wr_i (va_runV (As := [.int (nI t), .int (nI (nG (st.1 t)))]) (rest := []) FX (n_time l hfl G a ha t9 (gaS st t (y / 4 % 4) (z % nG (st.1 t)) (ix (nI (y / 16 % nG (st.1 t))))) t (nG (st.1 t)) hOK ht (by rw [hN2]; show _ < nG (st.1 t) + 1; omega)) (cwV 2 hts gL_law_X11_time rfl rfl rfl (by decide +kernel) ⟨Nat.le_of_ble_eq_true rfl, Nat.le_of_ble_eq_true rfl⟩) (preVX hK hNW hCW (hLow.at hS (fun q9 h8 h9 => absurd h8 (Nat.not_lt.mpr h9))) (hX.at hS (fun q9 h8 h9 => absurd h8 (Nat.not_lt.mpr h9))) (cw_recv hK hCW)) rfl rfl hl.1 rfl (lv_room (Nat.le_of_ble_eq_true rfl)) dL_law_247 (rm_ok (by omega) (by omega))) hS (rng_ge hA) (fun r _ H locs hp hCW hk hS => ?_)
    refine lv_as (y := nI (tm ((gaS st t (y / 4 % 4) (z % nG (st.1 t)) (ix (nI (y / 16 % nG (st.1 t))))).1 t) (gaS st t (y / 4 % 4) (z % nG (st.1 t)) (ix (nI (y / 16 % nG (st.1 t))))).2.1 (nG (st.1 t)))) hp ?_
    refine lv_aload_n hx hb dL_law_250 rfl (lv_at hl 9 rfl) ?_
    refine lv_iload hx hb dL_law_251 (lv_at hl 3 rfl) ?_
    refine lv_iload hx hb dL_law_253 (lv_at hl 0 rfl) ?_
    refine wr_i (va_runV (As := [.int (nI t), .int (nI (z % (nG (st.1 t))))]) (rest := [.int (nI (tm ((gaS st t (y / 4 % 4) (z % nG (st.1 t)) (ix (nI (y / 16 % nG (st.1 t))))).1 t) (gaS st t (y / 4 % 4) (z % nG (st.1 t)) (ix (nI (y / 16 % nG (st.1 t))))).2.1 (nG (st.1 t))))]) FX (n_time l hfl G a ha t9 (gaS st t (y / 4 % 4) (z % nG (st.1 t)) (ix (nI (y / 16 % nG (st.1 t))))) t (z % (nG (st.1 t))) hOK ht (by rw [hN2]; show _ < nG (st.1 t) + 1; omega)) (cwV 2 hts gL_law_X11_time rfl rfl rfl (by decide +kernel) ⟨Nat.le_of_ble_eq_true rfl, Nat.le_of_ble_eq_true rfl⟩) (preVX hK hNW hCW (hLow.at hS (fun q9 h8 h9 => absurd h8 (Nat.not_lt.mpr h9))) (hX.at hS (fun q9 h8 h9 => absurd h8 (Nat.not_lt.mpr h9))) (cw_recv hK hCW)) rfl rfl hl.1 rfl (lv_room (Nat.le_of_ble_eq_true rfl)) dL_law_255 (rm_ok (by omega) (by omega))) hS (rng_ge hA) (fun r _ H locs hp hCW hk hS => ?_)
    refine lv_as (y := nI (tm ((gaS st t (y / 4 % 4) (z % nG (st.1 t)) (ix (nI (y / 16 % nG (st.1 t))))).1 t) (gaS st t (y / 4 % 4) (z % nG (st.1 t)) (ix (nI (y / 16 % nG (st.1 t))))).2.1 (z % (nG (st.1 t))))) hp ?_
    refine lv_icmp_gt (tgt := 263) hx hb dL_law_258 (by decide) (fun _ => ?_) (fun c => absurd (nI_lt (by omega) (by omega)) c)
    refine lv_goto (tgt := 588) hx hb dL_law_263 (by decide) ?_
    exact wid (by omega) (by omega) (K (gaS st t (y / 4 % 4) (z % nG (st.1 t)) (ix (nI (y / 16 % nG (st.1 t))))) _ _ _ hOK hS hCW (lv_sub hl [8, 9, 10] rfl))
  · skip
    refine lv_iload hx hb dL_law_186 (lv_at hl 3 rfl) ?_
    refine lv_iload hx hb dL_law_188 (lv_at hl 1 rfl) ?_
    refine lv_irem hx hb dL_law_190 (nI_ne0 (by omega) (by omega)) ?_
    refine lv_as (y := nI (z % (nG (st.1 t)))) (pk_rem (by omega) (by omega) (by omega)) ?_
    refine lv_istore (lv' := [(10, .int (nI (z % (nG (st.1 t))))), (9, .int (nI (nIn (st.1 t)))), (8, .int (nI (nG (st.1 t)))), (7, .int (nI t)), (6, .int (nI z)), (5, .int (nI y)), (4, .int (nI w)), (3, .int x3), (2, .int (nI k)), (1, .ref (a 0)), (0, .ref b)]) hx hb dL_law_191 hl (by decide) rfl (fun ls hl => ?_)
    refine lv_aload_n hx hb dL_law_193 rfl (lv_at hl 9 rfl) ?_
    refine lv_iconst (v := nI 1) hx hb dL_law_194 (by decide) ?_
    refine lv_iload hx hb dL_law_195 (lv_at hl 3 rfl) ?_
    refine lv_iload hx hb dL_law_197 (lv_at hl 5 rfl) ?_
    refine lv_iconst (v := nI 4) hx hb dL_law_199 (by decide) ?_
    refine lv_idiv hx hb dL_law_200 (nI_ne0 (by omega) (by omega)) ?_
    refine lv_as (y := nI (y / 4)) (pk_div (by omega) (by omega) (by omega)) ?_
    refine lv_iconst (v := nI 4) hx hb dL_law_201 (by decide) ?_
    refine lv_irem hx hb dL_law_202 (nI_ne0 (by omega) (by omega)) ?_
    refine lv_as (y := nI ((y / 4) % 4)) (pk_rem (by omega) (by omega) (by omega)) ?_
    refine lv_iload hx hb dL_law_203 (lv_at hl 0 rfl) ?_
    refine lv_iload hx hb dL_law_205 (lv_at hl 5 rfl) ?_
    refine lv_bipush (v := nI 16) hx hb dL_law_207 (by decide) ?_
    refine lv_idiv hx hb dL_law_209 (nI_ne0 (by omega) (by omega)) ?_
    refine lv_as (y := nI (y / 16)) (pk_div (by omega) (by omega) (by omega)) ?_
    refine lv_iload hx hb dL_law_210 (lv_at hl 2 rfl) ?_
    refine lv_irem hx hb dL_law_212 (nI_ne0 (by omega) (by omega)) ?_
    refine lv_as (y := nI ((y / 16) % (nG (st.1 t)))) (pk_rem (by omega) (by omega) (by omega)) ?_
    have hC : cGa st.1 (nI t) (nI (y / 4 % 4)) (nI (z % nG (st.1 t))) (nI (y / 16 % nG (st.1 t))) = 3 := by
      unfold cGa
      rw [et, if_pos (bd4 ht (by omega)), if_pos (bd4 hkd (by omega)), if_pos (bd4 h1 (by omega)), if_pos (Or.inr (bd4 h2 (by omega))), if_neg hq]
    refine wr_i (vx_run0 (vx_runSX (As := [.ref (a 0), .int (nI 1), .int (nI t), .int (nI ((y / 4) % 4)), .int (nI (z % (nG (st.1 t)))), .int (nI ((y / 16) % (nG (st.1 t))))]) (rest := []) FX (w_act_gate l hfl G a ha t9 st (nI t) (nI (y / 4 % 4)) (nI (z % nG (st.1 t))) (nI (y / 16 % nG (st.1 t))) hO) (vx_cwSW 6 hts gL_law_L_act rfl rfl rfl (by decide +kernel) ⟨Nat.le_of_ble_eq_true rfl, Nat.le_of_ble_eq_true rfl⟩) (preW hK hNW hCW (hLow.at hS (fun q9 h8 h9 => absurd h8 (Nat.not_lt.mpr h9))) (hX.at hS (fun q9 h8 h9 => absurd h8 (Nat.not_lt.mpr h9))) hNC) rfl rfl hl.1 rfl (lv_room (Nat.le_of_ble_eq_true rfl)) dL_law_213 (rm_ok (by omega) (by omega)))) hS (rng_ge hA) (fun r _ H locs hp hCW hk hS => ?_)
    refine lv_as (y := -7000003) (hp.2.2.2 hC) ?_
    rw [stN_n hC (by decide)] at hCW
    have hCW : CW G a st H := hCW
    refine lv_iload hx hb dL_law_216 (lv_at hl 2 rfl) ?_
    refine lv_bipush (v := nI 120) hx hb dL_law_218 (by decide) ?_
    refine lv_icmp_ge (tgt := 228) hx hb dL_law_220 (by decide) (fun _ => ?_) (fun c => absurd (nI_le (by omega) (by omega)) c)
    refine lv_ldc (v := -7000003) hx hb hown (hts (.constant RL 81 (-7000003)) (List.mem_of_getElem? (i := 3) (by decide +kernel))) dL_law_228 ?_
    refine lv_icmp_eq (tgt := 235) hx hb dL_law_230 (by decide) (fun _ => ?_) (fun c => absurd c (by decide))
    refine lv_iload hx hb dL_law_235 (lv_at hl 2 rfl) ?_
    refine lv_bipush (v := nI 120) hx hb dL_law_237 (by decide) ?_
    refine lv_icmp_ge (tgt := 263) hx hb dL_law_239 (by decide) (fun _ => ?_) (fun c => absurd (nI_le (by omega) (by omega)) c)
    refine lv_goto (tgt := 588) hx hb dL_law_263 (by decide) ?_
    exact wid (by omega) (by omega) (K st _ _ _ hO hS hCW (lv_sub hl [8, 9, 10] rfl))
set_option maxHeartbeats 4000000 in
set_option maxRecDepth 100000 in
theorem lc_out {p : Program} {l : Launch} {e : Env} {s : State} {m : MethodId} {below : List Frame} {meth : Method} {c : Code} {b : Nat} {Q : State → Prop} {G : GG} {a : Nat → Nat} {t9 : Nat} (J : LJ p l s m meth c #[Value.ref b] cL_law ret 12 wsL_law G a t9) (hA : ∀ k, s.heap.size ≤ a k) {st : ST} (hO : OKS st) {k w y z t : Nat} (hk : k < 70) (hw : w < 14) (hy : y ≤ 1200000) (hz : z ≤ 12000) (ht : t < 4) {x3 : Int32} (hg0 : 0 < nG (st.1 t)) {c0 s0 : Nat} (hc : c0 + 200 ≤ 600104) (hs : s0 + 1200 ≤ 7301314) {H : Heap} {locs : List Loc} {ls : Array Slot} (hS : va_S (fun q : Nat => s.heap.size ≤ q) s.heap H locs) (hCW : CW G a st H) (hl : lv_has ls 12 [(9, .int (nI (nIn (st.1 t)))), (8, .int (nI (nG (st.1 t)))), (7, .int (nI t)), (6, .int (nI z)), (5, .int (nI y)), (4, .int (nI w)), (3, .int x3), (2, .int (nI k)), (1, .ref (a 0)), (0, .ref b)]) (K : ∀ (st1 : ST) (H : Heap) (locs : List Loc) (ls : Array Slot), OKS st1 → va_S (fun q : Nat => s.heap.size ≤ q) s.heap H locs → CW G a st1 H → lv_has ls 12 [(2, .int (nI k)), (1, .ref (a 0)), (0, .ref b)] → W p l e room_1 s m #[Value.ref b] below meth c H locs (c0 + 100) (s0 + 600) Q (F0 m 588 ls [])) : W p l e room_1 s m #[Value.ref b] below meth c H locs (c0) (s0) Q (F0 m 273 ls []) := by
  have J0 := J
  obtain ⟨hfl, hx, hb, hr, hml, hown, hts, hlocks, ha, hK, hNW, hLow, hX, hNC⟩ := J
  have FX : CallFix p m c cL_law 12 s #[Value.ref b] wsL_law RL := ⟨hx, hb, hml, hown, hts⟩
  have hN := hO.1 t ht
  have hG := hN.g
  have hNi := hN.i
  have hNo := hN.o
  have et : ix (nI t) = t := ix_nI (by omega)
  have h1 : z % nG (st.1 t) < nG (st.1 t) := Nat.mod_lt _ hg0
  by_cases hq : nO (st.1 t) < 16
  · skip
    refine lv_aload_n hx hb dL_law_273 rfl (lv_at hl 8 rfl) ?_
    refine lv_iload hx hb dL_law_274 (lv_at hl 2 rfl) ?_
    refine lv_iconst (v := nI 2) hx hb dL_law_276 (by decide) ?_
    refine wr_i (va_runV (As := [.int (nI t), .int (nI 2)]) (rest := []) FX (n_ofNet l hfl G a ha t9 st t 2 hO ht (by decide)) (cwV 2 hts gL_law_X11_ofNet rfl rfl rfl (by decide +kernel) ⟨Nat.le_of_ble_eq_true rfl, Nat.le_of_ble_eq_true rfl⟩) (preVX hK hNW hCW (hLow.at hS (fun q9 h8 h9 => absurd h8 (Nat.not_lt.mpr h9))) (hX.at hS (fun q9 h8 h9 => absurd h8 (Nat.not_lt.mpr h9))) (cw_recv hK hCW)) rfl rfl hl.1 rfl (lv_room (Nat.le_of_ble_eq_true rfl)) dL_law_277 (rm_ok (by omega) (by omega))) hS (rng_ge hA) (fun r _ H locs hp hCW hk hS => ?_)
    refine lv_as (y := nI (nO (st.1 t))) (hp.trans (of_2 rfl)) ?_
    refine lv_istore (lv' := [(10, .int (nI (nO (st.1 t)))), (9, .int (nI (nIn (st.1 t)))), (8, .int (nI (nG (st.1 t)))), (7, .int (nI t)), (6, .int (nI z)), (5, .int (nI y)), (4, .int (nI w)), (3, .int x3), (2, .int (nI k)), (1, .ref (a 0)), (0, .ref b)]) hx hb dL_law_280 hl (by decide) rfl (fun ls hl => ?_)
    refine lv_aload_n hx hb dL_law_282 rfl (lv_at hl 9 rfl) ?_
    refine lv_iconst (v := nI 2) hx hb dL_law_283 (by decide) ?_
    refine lv_iload hx hb dL_law_284 (lv_at hl 3 rfl) ?_
    refine lv_iload hx hb dL_law_286 (lv_at hl 4 rfl) ?_
    refine lv_iload hx hb dL_law_288 (lv_at hl 2 rfl) ?_
    refine lv_irem hx hb dL_law_290 (nI_ne0 (by omega) (by omega)) ?_
    refine lv_as (y := nI (z % (nG (st.1 t)))) (pk_rem (by omega) (by omega) (by omega)) ?_
    refine lv_iconst (v := nI 0) hx hb dL_law_291 (by decide) ?_
    refine lv_iconst (v := nI 0) hx hb dL_law_292 (by decide) ?_
    have hC : cOu st.1 (nI t) (nI (z % nG (st.1 t))) = 0 := z0_out hO ht h1 hq
    refine wr_i (vx_run0 (vx_runSX (As := [.ref (a 0), .int (nI 2), .int (nI t), .int (nI (z % (nG (st.1 t)))), .int (nI 0), .int (nI 0)]) (rest := []) FX (w_act_out l hfl G a ha t9 st (nI t) (nI (z % nG (st.1 t))) (nI 0) (nI 0) hO) (vx_cwSW 6 hts gL_law_L_act rfl rfl rfl (by decide +kernel) ⟨Nat.le_of_ble_eq_true rfl, Nat.le_of_ble_eq_true rfl⟩) (preW hK hNW hCW (hLow.at hS (fun q9 h8 h9 => absurd h8 (Nat.not_lt.mpr h9))) (hX.at hS (fun q9 h8 h9 => absurd h8 (Nat.not_lt.mpr h9))) hNC) rfl rfl hl.1 rfl (lv_room (Nat.le_of_ble_eq_true rfl)) dL_law_293 (rm_ok (by omega) (by omega)))) hS (rng_ge hA) (fun r _ H locs hp hCW hk hS => ?_)
    refine lv_as (y := nI (nO (st.1 t))) ((hp.1 hC).trans (by rw [et])) ?_
    have hCW : CW G a (ouS st t (z % nG (st.1 t))) H := by rw [e_out hO ht h1 hq] at hCW; exact hCW
    refine lv_iload hx hb dL_law_296 (lv_at hl 0 rfl) ?_
    refine lv_bipush (v := nI 16) hx hb dL_law_298 (by decide) ?_
    refine lv_icmp_ge (tgt := 308) hx hb dL_law_300 (by decide) (fun c => absurd (cv_le (by omega) (by omega) c) (by omega)) (fun _ => ?_)
    refine lv_iload hx hb dL_law_303 (lv_at hl 0 rfl) ?_
    refine lv_goto (tgt := 310) hx hb dL_law_305 (by decide) ?_
    refine lv_icmp_eq (tgt := 315) hx hb dL_law_310 (by decide) (fun _ => ?_) (fun c => absurd rfl c)
    refine lv_goto (tgt := 588) hx hb dL_law_315 (by decide) ?_
    exact wid (by omega) (by omega) (K (ouS st t (z % nG (st.1 t))) _ _ _ (okn_out hO ht h1 hq) hS hCW (lv_sub hl [8, 9, 10] rfl))
  · skip
    refine lv_aload_n hx hb dL_law_273 rfl (lv_at hl 8 rfl) ?_
    refine lv_iload hx hb dL_law_274 (lv_at hl 2 rfl) ?_
    refine lv_iconst (v := nI 2) hx hb dL_law_276 (by decide) ?_
    refine wr_i (va_runV (As := [.int (nI t), .int (nI 2)]) (rest := []) FX (n_ofNet l hfl G a ha t9 st t 2 hO ht (by decide)) (cwV 2 hts gL_law_X11_ofNet rfl rfl rfl (by decide +kernel) ⟨Nat.le_of_ble_eq_true rfl, Nat.le_of_ble_eq_true rfl⟩) (preVX hK hNW hCW (hLow.at hS (fun q9 h8 h9 => absurd h8 (Nat.not_lt.mpr h9))) (hX.at hS (fun q9 h8 h9 => absurd h8 (Nat.not_lt.mpr h9))) (cw_recv hK hCW)) rfl rfl hl.1 rfl (lv_room (Nat.le_of_ble_eq_true rfl)) dL_law_277 (rm_ok (by omega) (by omega))) hS (rng_ge hA) (fun r _ H locs hp hCW hk hS => ?_)
    refine lv_as (y := nI (nO (st.1 t))) (hp.trans (of_2 rfl)) ?_
    refine lv_istore (lv' := [(10, .int (nI (nO (st.1 t)))), (9, .int (nI (nIn (st.1 t)))), (8, .int (nI (nG (st.1 t)))), (7, .int (nI t)), (6, .int (nI z)), (5, .int (nI y)), (4, .int (nI w)), (3, .int x3), (2, .int (nI k)), (1, .ref (a 0)), (0, .ref b)]) hx hb dL_law_280 hl (by decide) rfl (fun ls hl => ?_)
    refine lv_aload_n hx hb dL_law_282 rfl (lv_at hl 9 rfl) ?_
    refine lv_iconst (v := nI 2) hx hb dL_law_283 (by decide) ?_
    refine lv_iload hx hb dL_law_284 (lv_at hl 3 rfl) ?_
    refine lv_iload hx hb dL_law_286 (lv_at hl 4 rfl) ?_
    refine lv_iload hx hb dL_law_288 (lv_at hl 2 rfl) ?_
    refine lv_irem hx hb dL_law_290 (nI_ne0 (by omega) (by omega)) ?_
    refine lv_as (y := nI (z % (nG (st.1 t)))) (pk_rem (by omega) (by omega) (by omega)) ?_
    refine lv_iconst (v := nI 0) hx hb dL_law_291 (by decide) ?_
    refine lv_iconst (v := nI 0) hx hb dL_law_292 (by decide) ?_
    have hC : cOu st.1 (nI t) (nI (z % nG (st.1 t))) = 3 := by unfold cOu; rw [et, if_pos (bd4 ht (by omega)), if_pos (bd4 h1 (by omega)), if_neg hq]
    refine wr_i (vx_run0 (vx_runSX (As := [.ref (a 0), .int (nI 2), .int (nI t), .int (nI (z % (nG (st.1 t)))), .int (nI 0), .int (nI 0)]) (rest := []) FX (w_act_out l hfl G a ha t9 st (nI t) (nI (z % nG (st.1 t))) (nI 0) (nI 0) hO) (vx_cwSW 6 hts gL_law_L_act rfl rfl rfl (by decide +kernel) ⟨Nat.le_of_ble_eq_true rfl, Nat.le_of_ble_eq_true rfl⟩) (preW hK hNW hCW (hLow.at hS (fun q9 h8 h9 => absurd h8 (Nat.not_lt.mpr h9))) (hX.at hS (fun q9 h8 h9 => absurd h8 (Nat.not_lt.mpr h9))) hNC) rfl rfl hl.1 rfl (lv_room (Nat.le_of_ble_eq_true rfl)) dL_law_293 (rm_ok (by omega) (by omega)))) hS (rng_ge hA) (fun r _ H locs hp hCW hk hS => ?_)
    refine lv_as (y := -7000003) (hp.2.2.2 hC) ?_
    rw [stN_n hC (by decide)] at hCW
    have hCW : CW G a st H := hCW
    refine lv_iload hx hb dL_law_296 (lv_at hl 0 rfl) ?_
    refine lv_bipush (v := nI 16) hx hb dL_law_298 (by decide) ?_
    refine lv_icmp_ge (tgt := 308) hx hb dL_law_300 (by decide) (fun _ => ?_) (fun c => absurd (nI_le (by omega) (by omega)) c)
    refine lv_ldc (v := -7000003) hx hb hown (hts (.constant RL 81 (-7000003)) (List.mem_of_getElem? (i := 3) (by decide +kernel))) dL_law_308 ?_
    refine lv_icmp_eq (tgt := 315) hx hb dL_law_310 (by decide) (fun _ => ?_) (fun c => absurd c (by decide))
    refine lv_goto (tgt := 588) hx hb dL_law_315 (by decide) ?_
    exact wid (by omega) (by omega) (K st _ _ _ hO hS hCW (lv_sub hl [8, 9, 10] rfl))
