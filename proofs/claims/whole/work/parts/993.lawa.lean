/-! the law's cases: both are called, both answer alike -/
theorem z_input {st : ST} {p9 : Int32} (h : nI (c2 (cIn st.1 p9)) = nI 0) : cIn st.1 p9 = 0 := by
  revert h; unfold cIn; (repeat' split) <;> intro h <;> first | rfl | exact absurd h (by decide)
set_option maxHeartbeats 4000000 in
set_option maxRecDepth 100000 in
theorem b_input {p : Program} {l : Launch} {e : Env} {s : State} {m : MethodId} {below : List Frame} {meth : Method} {c : Code} {b L : Nat} {xs : Nat → Int32} (hfl : l.stackTraces = false) {G : GG} {a : Nat → Nat} {t9 : Nat} (D0 : LC p s m meth c b L xs G a t9) (hL : L ≤ 2560) {st : ST} {th : Int32} {f0 : Nat → Int64} {j C9 S9 : Nat} (hO : OKS st) (hj : j + 4 < L) (hC9 : C9 ≤ 600000) (hS9 : S9 ≤ 7200000) {H : Heap} {locs : List Loc} {ls : Array Slot} (hS : va_S (fun q : Nat => s.heap.size ≤ q) s.heap H locs) (hCW : CW G a st H) (hMW : MW G a st th H) (hOut : outP G a f0 H) (hl : lv_has ls 7 [(0, .ref b), (1, .ref (a 0)), (2, .ref (a 93)), (3, .ref (a 115)), (4, .int (nI j))])
    (K : ∀ (st1 : ST) (th1 : Int32) (f1 : Nat → Int64) (H1 : Heap) (locs1 : List Loc) (ls1 : Array Slot), OKS st1 → CW G a st1 H1 → MW G a st1 th1 H1 → outP G a f1 H1 → va_S (fun q : Nat => s.heap.size ≤ q) s.heap H1 locs1 → lv_has ls1 7 [(0, .ref b), (1, .ref (a 0)), (2, .ref (a 93)), (3, .ref (a 115)), (4, .int (nI j))] → W p l e room_1 s m #[Value.ref b] below meth c H1 locs1 (C9 + 10) (S9 + 100) (lw_Z below #[Value.ref b] s) (F0 m 1612 ls1 [])) : W p l e room_1 s m #[Value.ref b] below meth c H locs C9 S9 (lw_Z below #[Value.ref b] s) (F0 m 132 ls []) := by
  obtain ⟨⟨hx, hb, hr, hml, hown, hts0, hX0, hbl, hlocks, hgv⟩, ha, hK, hNW, hLow, hX, hNC, hA⟩ := id D0
  have hts : ∀ w ∈ wsL_law, w.before #[Value.ref b] s = true := fun w h => hts0 w (wsL_law_in w h)
  have hbA : ¬ (fun q : Nat => s.heap.size ≤ q) b := Nat.not_le.mpr hbl
  have FX : CallFix p m c cL_law 7 s #[Value.ref b] wsL_law RL := ⟨hx, hb, hml, hown, hts⟩
  have hgC : ∀ q, orA (rng a 0 93) (rng a 115 1) q → s.heap.size ≤ q := fun q h => h.elim (rng_ge hA q) (rng_ge hA q)
  have i1 : vp_in (nI j + nI 1) L := by rw [nI_add]; exact vp_in_nI (by omega) (by omega)
  refine lv_aload_n hx hb dL_law_132 rfl (lv_at hl 1 rfl) ?_
  refine lv_aload_n hx hb dL_law_133 rfl (lv_at hl 0 rfl) ?_
  refine lv_iload hx hb dL_law_134 (lv_at hl 4 rfl) ?_
  refine lv_iconst (v := nI 1) hx hb dL_law_136 (by decide) ?_
  refine lv_iadd hx hb dL_law_137 ?_
  refine va_sld hx hb hX0 hbl hbA hS i1 dL_law_138 ?_
  refine lv_aload_n hx hb dL_law_139 rfl (lv_at hl 3 rfl) ?_
  refine wr_i (vx_run0 (vx_runSX (As := [.ref (a 0), .int (xs (nI j + nI 1).toNatClampNeg), .ref (a 115)]) (rest := []) FX (w_input l hfl G a ha t9 st (xs (nI j + nI 1).toNatClampNeg) f0 hO) (vx_cwSW 3 hts gL_law_L_input rfl rfl rfl (by decide +kernel) ⟨Nat.le_of_ble_eq_true rfl, Nat.le_of_ble_eq_true rfl⟩) (preW hK hNW ⟨hCW, hOut⟩ (hLow.at hS (fun q9 h8 h9 => absurd h8 (Nat.not_lt.mpr h9))) (hX.at hS (fun q9 h8 h9 => absurd h8 (Nat.not_lt.mpr h9))) hNC) rfl rfl hl.1 rfl (lv_room (Nat.le_of_ble_eq_true rfl)) dL_law_140 (rm_ok (by omega) (by omega)))) hS hgC (fun r f1 H1 locs1 hp hB hk hS => ?_)
  obtain ⟨hCW, hOut⟩ := hB
  have hMW := MW_k ha hk (mw_no ha) hMW
  refine lv_istore (lv' := [(5, .int r), (0, .ref b), (1, .ref (a 0)), (2, .ref (a 93)), (3, .ref (a 115)), (4, .int (nI j))]) hx hb dL_law_143 hl (by decide) rfl (fun ls hl => ?_)
  refine lv_aload_n hx hb dL_law_145 rfl (lv_at hl 3 rfl) ?_
  refine lv_aload_n hx hb dL_law_146 rfl (lv_at hl 1 rfl) ?_
  refine lv_iload hx hb dL_law_147 (lv_at hl 5 rfl) ?_
  refine lv_iconst (v := nI 1) hx hb dL_law_149 (by decide) ?_
  refine lv_iadd hx hb dL_law_150 ?_
  refine va_sld hx hb hX0 hbl hbA hS i1 dL_law_151 ?_
  refine wr_i (va_runV (As := [.int (xs (nI j + nI 1).toNatClampNeg)]) (rest := []) FX (k_X12_input l G a ha st (xs (nI j + nI 1).toNatClampNeg) hO) (cwV 1 hts gL_law_X12_input rfl rfl rfl (by decide +kernel) ⟨Nat.le_of_ble_eq_true rfl, Nat.le_of_ble_eq_true rfl⟩) (preV hK hNW ⟨th, hMW⟩ (mw_recv hK hMW)) rfl rfl hl.1 rfl (lv_room (Nat.le_of_ble_eq_true rfl)) dL_law_152 (rm_ok (by omega) (by omega))) hS (rng_ge hA) (fun y u9 H2 locs2 hq hMW hk2 hS => ?_)
  have hCW := CW_k ha hk2 (by omega) hCW
  have hOut : outP G a f1 H2 := kp hk2 hOut (dj_cons (rng_no ha (by omega)) dj_nil)
  refine lv_istore (lv' := [(6, .int y), (5, .int r), (0, .ref b), (1, .ref (a 0)), (2, .ref (a 93)), (3, .ref (a 115)), (4, .int (nI j))]) hx hb dL_law_155 hl (by decide) rfl (fun ls hl => ?_)
  refine lv_aload_n hx hb dL_law_157 rfl (lv_at hl 4 rfl) ?_
  obtain ⟨⟨cy, h0⟩, -⟩ := id hMW
  refine ro_i (va_runV (As := []) (rest := []) FX (c_X12_thrown l G a cy (nI (c2 (cIn st.1 (xs (nI j + nI 1).toNatClampNeg))))) (cwV 0 hts gL_law_X12_thrown rfl rfl rfl (by decide +kernel) ⟨Nat.le_of_ble_eq_true rfl, Nat.le_of_ble_eq_true rfl⟩) (preV hK hNW h0 (mw_recv hK hMW)) rfl rfl hl.1 rfl (lv_room (Nat.le_of_ble_eq_true rfl)) dL_law_158 (rm_ok (by omega) (by omega))) ?_
  refine lv_iload hx hb dL_law_161 (lv_at hl 1 rfl) ?_
  refine lv_icmp_eq (tgt := 168) hx hb dL_law_163 (by decide) (fun c1 => ?_) (fun c1 => absurd hp.1.symm c1)
  refine lv_iload hx hb dL_law_168 (lv_at hl 1 rfl) ?_
  have fin := fun (ls : Array Slot) (hl : lv_has ls 7 [(6, .int y), (5, .int r), (0, .ref b), (1, .ref (a 0)), (2, .ref (a 93)), (3, .ref (a 115)), (4, .int (nI j))]) => K _ (nI (c2 (cIn st.1 (xs (nI j + nI 1).toNatClampNeg)))) f1 H2 locs2 ls (ok_input hO) hCW hMW hOut hS (lv_sub hl [2, 3, 4, 5, 6] rfl)
  refine lv_if_ne (tgt := 185) hx hb dL_law_170 (by decide) (fun c2 => ?_) (fun c2 => ?_)
  · refine lv_goto (tgt := 1612) hx hb dL_law_185 (by decide) (wid (by omega) (by omega) (fin _ hl))
  · obtain ⟨x, e1, e2⟩ := hp.2 (z_input (st := st) (hp.1.symm.trans c2))
    have e3 := hq (z_input (st := st) (hp.1.symm.trans c2))
    have e4 : x = y := e2.trans e3.symm
    refine lv_aload_n hx hb dL_law_173 rfl (lv_at hl 5 rfl) ?_
    refine lv_iconst (v := nI 0) hx hb dL_law_174 (by decide) ?_
    refine pp_lald hx hb hK hOut 0 rfl (vp_in_nI (by omega) (by omega)) dL_law_175 ?_
    refine lv_iload hx hb dL_law_176 (lv_at hl 0 rfl) ?_
    refine lv_i2l (v := y.toInt64) hx hb dL_law_178 rfl ?_
    refine W.lcmp hx hb dL_law_179 ?_
    refine lv_if_eq (tgt := 185) hx hb dL_law_180 (by decide) (fun c3 => ?_) (fun c3 => absurd (an_eq e1 e4) c3)
    refine lv_goto (tgt := 1612) hx hb dL_law_185 (by decide) (wid (by omega) (by omega) (fin _ hl))
theorem z_gate {st : ST} {p9 kd9 f9 s9 : Int32} (h : nI (c2 (cGa st.1 p9 kd9 f9 s9)) = nI 0) : cGa st.1 p9 kd9 f9 s9 = 0 := by
  revert h; unfold cGa; (repeat' split) <;> intro h <;> first | rfl | exact absurd h (by decide)
set_option maxHeartbeats 4000000 in
set_option maxRecDepth 100000 in
theorem b_gate {p : Program} {l : Launch} {e : Env} {s : State} {m : MethodId} {below : List Frame} {meth : Method} {c : Code} {b L : Nat} {xs : Nat → Int32} (hfl : l.stackTraces = false) {G : GG} {a : Nat → Nat} {t9 : Nat} (D0 : LC p s m meth c b L xs G a t9) (hL : L ≤ 2560) {st : ST} {th : Int32} {f0 : Nat → Int64} {j C9 S9 : Nat} (hO : OKS st) (hj : j + 4 < L) (hC9 : C9 ≤ 600000) (hS9 : S9 ≤ 7200000) {H : Heap} {locs : List Loc} {ls : Array Slot} (hS : va_S (fun q : Nat => s.heap.size ≤ q) s.heap H locs) (hCW : CW G a st H) (hMW : MW G a st th H) (hOut : outP G a f0 H) (hl : lv_has ls 7 [(0, .ref b), (1, .ref (a 0)), (2, .ref (a 93)), (3, .ref (a 115)), (4, .int (nI j))])
    (K : ∀ (st1 : ST) (th1 : Int32) (f1 : Nat → Int64) (H1 : Heap) (locs1 : List Loc) (ls1 : Array Slot), OKS st1 → CW G a st1 H1 → MW G a st1 th1 H1 → outP G a f1 H1 → va_S (fun q : Nat => s.heap.size ≤ q) s.heap H1 locs1 → lv_has ls1 7 [(0, .ref b), (1, .ref (a 0)), (2, .ref (a 93)), (3, .ref (a 115)), (4, .int (nI j))] → W p l e room_1 s m #[Value.ref b] below meth c H1 locs1 (C9 + 10) (S9 + 100) (lw_Z below #[Value.ref b] s) (F0 m 1612 ls1 [])) : W p l e room_1 s m #[Value.ref b] below meth c H locs C9 S9 (lw_Z below #[Value.ref b] s) (F0 m 188 ls []) := by
  obtain ⟨⟨hx, hb, hr, hml, hown, hts0, hX0, hbl, hlocks, hgv⟩, ha, hK, hNW, hLow, hX, hNC, hA⟩ := id D0
  have hts : ∀ w ∈ wsL_law, w.before #[Value.ref b] s = true := fun w h => hts0 w (wsL_law_in w h)
  have hbA : ¬ (fun q : Nat => s.heap.size ≤ q) b := Nat.not_le.mpr hbl
  have FX : CallFix p m c cL_law 7 s #[Value.ref b] wsL_law RL := ⟨hx, hb, hml, hown, hts⟩
  have hgC : ∀ q, orA (rng a 0 93) (rng a 115 1) q → s.heap.size ≤ q := fun q h => h.elim (rng_ge hA q) (rng_ge hA q)
  have i1 : vp_in (nI j + nI 1) L := by rw [nI_add]; exact vp_in_nI (by omega) (by omega)
  have i2 : vp_in (nI j + nI 2) L := by rw [nI_add]; exact vp_in_nI (by omega) (by omega)
  have i3 : vp_in (nI j + nI 3) L := by rw [nI_add]; exact vp_in_nI (by omega) (by omega)
  have i4 : vp_in (nI j + nI 4) L := by rw [nI_add]; exact vp_in_nI (by omega) (by omega)
  refine lv_aload_n hx hb dL_law_188 rfl (lv_at hl 1 rfl) ?_
  refine lv_aload_n hx hb dL_law_189 rfl (lv_at hl 0 rfl) ?_
  refine lv_iload hx hb dL_law_190 (lv_at hl 4 rfl) ?_
  refine lv_iconst (v := nI 1) hx hb dL_law_192 (by decide) ?_
  refine lv_iadd hx hb dL_law_193 ?_
  refine va_sld hx hb hX0 hbl hbA hS i1 dL_law_194 ?_
  refine lv_aload_n hx hb dL_law_195 rfl (lv_at hl 0 rfl) ?_
  refine lv_iload hx hb dL_law_196 (lv_at hl 4 rfl) ?_
  refine lv_iconst (v := nI 2) hx hb dL_law_198 (by decide) ?_
  refine lv_iadd hx hb dL_law_199 ?_
  refine va_sld hx hb hX0 hbl hbA hS i2 dL_law_200 ?_
  refine lv_aload_n hx hb dL_law_201 rfl (lv_at hl 0 rfl) ?_
  refine lv_iload hx hb dL_law_202 (lv_at hl 4 rfl) ?_
  refine lv_iconst (v := nI 3) hx hb dL_law_204 (by decide) ?_
  refine lv_iadd hx hb dL_law_205 ?_
  refine va_sld hx hb hX0 hbl hbA hS i3 dL_law_206 ?_
  refine lv_aload_n hx hb dL_law_207 rfl (lv_at hl 0 rfl) ?_
  refine lv_iload hx hb dL_law_208 (lv_at hl 4 rfl) ?_
  refine lv_iconst (v := nI 4) hx hb dL_law_210 (by decide) ?_
  refine lv_iadd hx hb dL_law_211 ?_
  refine va_sld hx hb hX0 hbl hbA hS i4 dL_law_212 ?_
  refine lv_aload_n hx hb dL_law_213 rfl (lv_at hl 3 rfl) ?_
  refine wr_i (vx_run0 (vx_runSX (As := [.ref (a 0), .int (xs (nI j + nI 1).toNatClampNeg), .int (xs (nI j + nI 2).toNatClampNeg), .int (xs (nI j + nI 3).toNatClampNeg), .int (xs (nI j + nI 4).toNatClampNeg), .ref (a 115)]) (rest := []) FX (w_gate l hfl G a ha t9 st (xs (nI j + nI 1).toNatClampNeg) (xs (nI j + nI 2).toNatClampNeg) (xs (nI j + nI 3).toNatClampNeg) (xs (nI j + nI 4).toNatClampNeg) f0 hO) (vx_cwSW 6 hts gL_law_L_gate rfl rfl rfl (by decide +kernel) ⟨Nat.le_of_ble_eq_true rfl, Nat.le_of_ble_eq_true rfl⟩) (preW hK hNW ⟨hCW, hOut⟩ (hLow.at hS (fun q9 h8 h9 => absurd h8 (Nat.not_lt.mpr h9))) (hX.at hS (fun q9 h8 h9 => absurd h8 (Nat.not_lt.mpr h9))) hNC) rfl rfl hl.1 rfl (lv_room (Nat.le_of_ble_eq_true rfl)) dL_law_214 (rm_ok (by omega) (by omega)))) hS hgC (fun r f1 H1 locs1 hp hB hk hS => ?_)
  obtain ⟨hCW, hOut⟩ := hB
  have hMW := MW_k ha hk (mw_no ha) hMW
  refine lv_istore (lv' := [(5, .int r), (0, .ref b), (1, .ref (a 0)), (2, .ref (a 93)), (3, .ref (a 115)), (4, .int (nI j))]) hx hb dL_law_217 hl (by decide) rfl (fun ls hl => ?_)
  refine lv_aload_n hx hb dL_law_219 rfl (lv_at hl 3 rfl) ?_
  refine lv_aload_n hx hb dL_law_220 rfl (lv_at hl 1 rfl) ?_
  refine lv_iload hx hb dL_law_221 (lv_at hl 5 rfl) ?_
  refine lv_iconst (v := nI 1) hx hb dL_law_223 (by decide) ?_
  refine lv_iadd hx hb dL_law_224 ?_
  refine va_sld hx hb hX0 hbl hbA hS i1 dL_law_225 ?_
  refine lv_aload_n hx hb dL_law_226 rfl (lv_at hl 1 rfl) ?_
  refine lv_iload hx hb dL_law_227 (lv_at hl 5 rfl) ?_
  refine lv_iconst (v := nI 2) hx hb dL_law_229 (by decide) ?_
  refine lv_iadd hx hb dL_law_230 ?_
  refine va_sld hx hb hX0 hbl hbA hS i2 dL_law_231 ?_
  refine lv_aload_n hx hb dL_law_232 rfl (lv_at hl 1 rfl) ?_
  refine lv_iload hx hb dL_law_233 (lv_at hl 5 rfl) ?_
  refine lv_iconst (v := nI 3) hx hb dL_law_235 (by decide) ?_
  refine lv_iadd hx hb dL_law_236 ?_
  refine va_sld hx hb hX0 hbl hbA hS i3 dL_law_237 ?_
  refine lv_aload_n hx hb dL_law_238 rfl (lv_at hl 1 rfl) ?_
  refine lv_iload hx hb dL_law_239 (lv_at hl 5 rfl) ?_
  refine lv_iconst (v := nI 4) hx hb dL_law_241 (by decide) ?_
  refine lv_iadd hx hb dL_law_242 ?_
  refine va_sld hx hb hX0 hbl hbA hS i4 dL_law_243 ?_
  refine wr_i (va_runV (As := [.int (xs (nI j + nI 1).toNatClampNeg), .int (xs (nI j + nI 2).toNatClampNeg), .int (xs (nI j + nI 3).toNatClampNeg), .int (xs (nI j + nI 4).toNatClampNeg)]) (rest := []) FX (k_X12_gate l G a ha st (xs (nI j + nI 1).toNatClampNeg) (xs (nI j + nI 2).toNatClampNeg) (xs (nI j + nI 3).toNatClampNeg) (xs (nI j + nI 4).toNatClampNeg) hO) (cwV 4 hts gL_law_X12_gate rfl rfl rfl (by decide +kernel) ⟨Nat.le_of_ble_eq_true rfl, Nat.le_of_ble_eq_true rfl⟩) (preV hK hNW ⟨th, hMW⟩ (mw_recv hK hMW)) rfl rfl hl.1 rfl (lv_room (Nat.le_of_ble_eq_true rfl)) dL_law_244 (rm_ok (by omega) (by omega))) hS (rng_ge hA) (fun y u9 H2 locs2 hq hMW hk2 hS => ?_)
  have hCW := CW_k ha hk2 (by omega) hCW
  have hOut : outP G a f1 H2 := kp hk2 hOut (dj_cons (rng_no ha (by omega)) dj_nil)
  refine lv_istore (lv' := [(6, .int y), (5, .int r), (0, .ref b), (1, .ref (a 0)), (2, .ref (a 93)), (3, .ref (a 115)), (4, .int (nI j))]) hx hb dL_law_247 hl (by decide) rfl (fun ls hl => ?_)
  refine lv_aload_n hx hb dL_law_249 rfl (lv_at hl 4 rfl) ?_
  obtain ⟨⟨cy, h0⟩, -⟩ := id hMW
  refine ro_i (va_runV (As := []) (rest := []) FX (c_X12_thrown l G a cy (nI (c2 (cGa st.1 (xs (nI j + nI 1).toNatClampNeg) (xs (nI j + nI 2).toNatClampNeg) (xs (nI j + nI 3).toNatClampNeg) (xs (nI j + nI 4).toNatClampNeg))))) (cwV 0 hts gL_law_X12_thrown rfl rfl rfl (by decide +kernel) ⟨Nat.le_of_ble_eq_true rfl, Nat.le_of_ble_eq_true rfl⟩) (preV hK hNW h0 (mw_recv hK hMW)) rfl rfl hl.1 rfl (lv_room (Nat.le_of_ble_eq_true rfl)) dL_law_250 (rm_ok (by omega) (by omega))) ?_
  refine lv_iload hx hb dL_law_253 (lv_at hl 1 rfl) ?_
  refine lv_icmp_eq (tgt := 260) hx hb dL_law_255 (by decide) (fun c1 => ?_) (fun c1 => absurd hp.1.symm c1)
  refine lv_iload hx hb dL_law_260 (lv_at hl 1 rfl) ?_
  have fin := fun (ls : Array Slot) (hl : lv_has ls 7 [(6, .int y), (5, .int r), (0, .ref b), (1, .ref (a 0)), (2, .ref (a 93)), (3, .ref (a 115)), (4, .int (nI j))]) => K _ (nI (c2 (cGa st.1 (xs (nI j + nI 1).toNatClampNeg) (xs (nI j + nI 2).toNatClampNeg) (xs (nI j + nI 3).toNatClampNeg) (xs (nI j + nI 4).toNatClampNeg)))) f1 H2 locs2 ls (ok_gate hO) hCW hMW hOut hS (lv_sub hl [2, 3, 4, 5, 6] rfl)
  refine lv_if_ne (tgt := 277) hx hb dL_law_262 (by decide) (fun c2 => ?_) (fun c2 => ?_)
  · refine lv_goto (tgt := 1612) hx hb dL_law_277 (by decide) (wid (by omega) (by omega) (fin _ hl))
  · obtain ⟨x, e1, e2⟩ := hp.2 (z_gate (st := st) (hp.1.symm.trans c2))
    have e3 := hq (z_gate (st := st) (hp.1.symm.trans c2))
    have e4 : x = y := e2.trans e3.symm
    refine lv_aload_n hx hb dL_law_265 rfl (lv_at hl 5 rfl) ?_
    refine lv_iconst (v := nI 0) hx hb dL_law_266 (by decide) ?_
    refine pp_lald hx hb hK hOut 0 rfl (vp_in_nI (by omega) (by omega)) dL_law_267 ?_
    refine lv_iload hx hb dL_law_268 (lv_at hl 0 rfl) ?_
    refine lv_i2l (v := y.toInt64) hx hb dL_law_270 rfl ?_
    refine W.lcmp hx hb dL_law_271 ?_
    refine lv_if_eq (tgt := 277) hx hb dL_law_272 (by decide) (fun c3 => ?_) (fun c3 => absurd (an_eq e1 e4) c3)
    refine lv_goto (tgt := 1612) hx hb dL_law_277 (by decide) (wid (by omega) (by omega) (fin _ hl))
theorem z_out {st : ST} {p9 g9 : Int32} (h : nI (c2 (cOu st.1 p9 g9)) = nI 0) : cOu st.1 p9 g9 = 0 := by
  revert h; unfold cOu; (repeat' split) <;> intro h <;> first | rfl | exact absurd h (by decide)
set_option maxHeartbeats 4000000 in
set_option maxRecDepth 100000 in
theorem b_out {p : Program} {l : Launch} {e : Env} {s : State} {m : MethodId} {below : List Frame} {meth : Method} {c : Code} {b L : Nat} {xs : Nat → Int32} (hfl : l.stackTraces = false) {G : GG} {a : Nat → Nat} {t9 : Nat} (D0 : LC p s m meth c b L xs G a t9) (hL : L ≤ 2560) {st : ST} {th : Int32} {f0 : Nat → Int64} {j C9 S9 : Nat} (hO : OKS st) (hj : j + 4 < L) (hC9 : C9 ≤ 600000) (hS9 : S9 ≤ 7200000) {H : Heap} {locs : List Loc} {ls : Array Slot} (hS : va_S (fun q : Nat => s.heap.size ≤ q) s.heap H locs) (hCW : CW G a st H) (hMW : MW G a st th H) (hOut : outP G a f0 H) (hl : lv_has ls 7 [(0, .ref b), (1, .ref (a 0)), (2, .ref (a 93)), (3, .ref (a 115)), (4, .int (nI j))])
    (K : ∀ (st1 : ST) (th1 : Int32) (f1 : Nat → Int64) (H1 : Heap) (locs1 : List Loc) (ls1 : Array Slot), OKS st1 → CW G a st1 H1 → MW G a st1 th1 H1 → outP G a f1 H1 → va_S (fun q : Nat => s.heap.size ≤ q) s.heap H1 locs1 → lv_has ls1 7 [(0, .ref b), (1, .ref (a 0)), (2, .ref (a 93)), (3, .ref (a 115)), (4, .int (nI j))] → W p l e room_1 s m #[Value.ref b] below meth c H1 locs1 (C9 + 10) (S9 + 100) (lw_Z below #[Value.ref b] s) (F0 m 1612 ls1 [])) : W p l e room_1 s m #[Value.ref b] below meth c H locs C9 S9 (lw_Z below #[Value.ref b] s) (F0 m 280 ls []) := by
  obtain ⟨⟨hx, hb, hr, hml, hown, hts0, hX0, hbl, hlocks, hgv⟩, ha, hK, hNW, hLow, hX, hNC, hA⟩ := id D0
  have hts : ∀ w ∈ wsL_law, w.before #[Value.ref b] s = true := fun w h => hts0 w (wsL_law_in w h)
  have hbA : ¬ (fun q : Nat => s.heap.size ≤ q) b := Nat.not_le.mpr hbl
  have FX : CallFix p m c cL_law 7 s #[Value.ref b] wsL_law RL := ⟨hx, hb, hml, hown, hts⟩
  have hgC : ∀ q, orA (rng a 0 93) (rng a 115 1) q → s.heap.size ≤ q := fun q h => h.elim (rng_ge hA q) (rng_ge hA q)
  have i1 : vp_in (nI j + nI 1) L := by rw [nI_add]; exact vp_in_nI (by omega) (by omega)
  have i2 : vp_in (nI j + nI 2) L := by rw [nI_add]; exact vp_in_nI (by omega) (by omega)
  refine lv_aload_n hx hb dL_law_280 rfl (lv_at hl 1 rfl) ?_
  refine lv_aload_n hx hb dL_law_281 rfl (lv_at hl 0 rfl) ?_
  refine lv_iload hx hb dL_law_282 (lv_at hl 4 rfl) ?_
  refine lv_iconst (v := nI 1) hx hb dL_law_284 (by decide) ?_
  refine lv_iadd hx hb dL_law_285 ?_
  refine va_sld hx hb hX0 hbl hbA hS i1 dL_law_286 ?_
  refine lv_aload_n hx hb dL_law_287 rfl (lv_at hl 0 rfl) ?_
  refine lv_iload hx hb dL_law_288 (lv_at hl 4 rfl) ?_
  refine lv_iconst (v := nI 2) hx hb dL_law_290 (by decide) ?_
  refine lv_iadd hx hb dL_law_291 ?_
  refine va_sld hx hb hX0 hbl hbA hS i2 dL_law_292 ?_
  refine lv_aload_n hx hb dL_law_293 rfl (lv_at hl 3 rfl) ?_
  refine wr_i (vx_run0 (vx_runSX (As := [.ref (a 0), .int (xs (nI j + nI 1).toNatClampNeg), .int (xs (nI j + nI 2).toNatClampNeg), .ref (a 115)]) (rest := []) FX (w_out l hfl G a ha t9 st (xs (nI j + nI 1).toNatClampNeg) (xs (nI j + nI 2).toNatClampNeg) f0 hO) (vx_cwSW 4 hts gL_law_L_out rfl rfl rfl (by decide +kernel) ⟨Nat.le_of_ble_eq_true rfl, Nat.le_of_ble_eq_true rfl⟩) (preW hK hNW ⟨hCW, hOut⟩ (hLow.at hS (fun q9 h8 h9 => absurd h8 (Nat.not_lt.mpr h9))) (hX.at hS (fun q9 h8 h9 => absurd h8 (Nat.not_lt.mpr h9))) hNC) rfl rfl hl.1 rfl (lv_room (Nat.le_of_ble_eq_true rfl)) dL_law_294 (rm_ok (by omega) (by omega)))) hS hgC (fun r f1 H1 locs1 hp hB hk hS => ?_)
  obtain ⟨hCW, hOut⟩ := hB
  have hMW := MW_k ha hk (mw_no ha) hMW
  refine lv_istore (lv' := [(5, .int r), (0, .ref b), (1, .ref (a 0)), (2, .ref (a 93)), (3, .ref (a 115)), (4, .int (nI j))]) hx hb dL_law_297 hl (by decide) rfl (fun ls hl => ?_)
  refine lv_aload_n hx hb dL_law_299 rfl (lv_at hl 3 rfl) ?_
  refine lv_aload_n hx hb dL_law_300 rfl (lv_at hl 1 rfl) ?_
  refine lv_iload hx hb dL_law_301 (lv_at hl 5 rfl) ?_
  refine lv_iconst (v := nI 1) hx hb dL_law_303 (by decide) ?_
  refine lv_iadd hx hb dL_law_304 ?_
  refine va_sld hx hb hX0 hbl hbA hS i1 dL_law_305 ?_
  refine lv_aload_n hx hb dL_law_306 rfl (lv_at hl 1 rfl) ?_
  refine lv_iload hx hb dL_law_307 (lv_at hl 5 rfl) ?_
  refine lv_iconst (v := nI 2) hx hb dL_law_309 (by decide) ?_
  refine lv_iadd hx hb dL_law_310 ?_
  refine va_sld hx hb hX0 hbl hbA hS i2 dL_law_311 ?_
  refine wr_i (va_runV (As := [.int (xs (nI j + nI 1).toNatClampNeg), .int (xs (nI j + nI 2).toNatClampNeg)]) (rest := []) FX (k_X12_out l G a ha st (xs (nI j + nI 1).toNatClampNeg) (xs (nI j + nI 2).toNatClampNeg) hO) (cwV 2 hts gL_law_X12_out rfl rfl rfl (by decide +kernel) ⟨Nat.le_of_ble_eq_true rfl, Nat.le_of_ble_eq_true rfl⟩) (preV hK hNW ⟨th, hMW⟩ (mw_recv hK hMW)) rfl rfl hl.1 rfl (lv_room (Nat.le_of_ble_eq_true rfl)) dL_law_312 (rm_ok (by omega) (by omega))) hS (rng_ge hA) (fun y u9 H2 locs2 hq hMW hk2 hS => ?_)
  have hCW := CW_k ha hk2 (by omega) hCW
  have hOut : outP G a f1 H2 := kp hk2 hOut (dj_cons (rng_no ha (by omega)) dj_nil)
  refine lv_istore (lv' := [(6, .int y), (5, .int r), (0, .ref b), (1, .ref (a 0)), (2, .ref (a 93)), (3, .ref (a 115)), (4, .int (nI j))]) hx hb dL_law_315 hl (by decide) rfl (fun ls hl => ?_)
  refine lv_aload_n hx hb dL_law_317 rfl (lv_at hl 4 rfl) ?_
  obtain ⟨⟨cy, h0⟩, -⟩ := id hMW
  refine ro_i (va_runV (As := []) (rest := []) FX (c_X12_thrown l G a cy (nI (c2 (cOu st.1 (xs (nI j + nI 1).toNatClampNeg) (xs (nI j + nI 2).toNatClampNeg))))) (cwV 0 hts gL_law_X12_thrown rfl rfl rfl (by decide +kernel) ⟨Nat.le_of_ble_eq_true rfl, Nat.le_of_ble_eq_true rfl⟩) (preV hK hNW h0 (mw_recv hK hMW)) rfl rfl hl.1 rfl (lv_room (Nat.le_of_ble_eq_true rfl)) dL_law_318 (rm_ok (by omega) (by omega))) ?_
  refine lv_iload hx hb dL_law_321 (lv_at hl 1 rfl) ?_
  refine lv_icmp_eq (tgt := 328) hx hb dL_law_323 (by decide) (fun c1 => ?_) (fun c1 => absurd hp.1.symm c1)
  refine lv_iload hx hb dL_law_328 (lv_at hl 1 rfl) ?_
  have fin := fun (ls : Array Slot) (hl : lv_has ls 7 [(6, .int y), (5, .int r), (0, .ref b), (1, .ref (a 0)), (2, .ref (a 93)), (3, .ref (a 115)), (4, .int (nI j))]) => K _ (nI (c2 (cOu st.1 (xs (nI j + nI 1).toNatClampNeg) (xs (nI j + nI 2).toNatClampNeg)))) f1 H2 locs2 ls (ok_out hO) hCW hMW hOut hS (lv_sub hl [2, 3, 4, 5, 6] rfl)
  refine lv_if_ne (tgt := 345) hx hb dL_law_330 (by decide) (fun c2 => ?_) (fun c2 => ?_)
  · refine lv_goto (tgt := 1612) hx hb dL_law_345 (by decide) (wid (by omega) (by omega) (fin _ hl))
  · obtain ⟨x, e1, e2⟩ := hp.2 (z_out (st := st) (hp.1.symm.trans c2))
    have e3 := hq (z_out (st := st) (hp.1.symm.trans c2))
    have e4 : x = y := e2.trans e3.symm
    refine lv_aload_n hx hb dL_law_333 rfl (lv_at hl 5 rfl) ?_
    refine lv_iconst (v := nI 0) hx hb dL_law_334 (by decide) ?_
    refine pp_lald hx hb hK hOut 0 rfl (vp_in_nI (by omega) (by omega)) dL_law_335 ?_
    refine lv_iload hx hb dL_law_336 (lv_at hl 0 rfl) ?_
    refine lv_i2l (v := y.toInt64) hx hb dL_law_338 rfl ?_
    refine W.lcmp hx hb dL_law_339 ?_
    refine lv_if_eq (tgt := 345) hx hb dL_law_340 (by decide) (fun c3 => ?_) (fun c3 => absurd (an_eq e1 e4) c3)
    refine lv_goto (tgt := 1612) hx hb dL_law_345 (by decide) (wid (by omega) (by omega) (fin _ hl))
theorem z_adder {st : ST} {p9 m9 w9 : Int32} (h : nI (cAd st.1 p9 m9 w9) = nI 0) : cAd st.1 p9 m9 w9 = 0 := by
  revert h; unfold cAd; (repeat' split) <;> intro h <;> first | rfl | exact absurd h (by decide)
set_option maxHeartbeats 4000000 in
set_option maxRecDepth 100000 in
theorem b_adder {p : Program} {l : Launch} {e : Env} {s : State} {m : MethodId} {below : List Frame} {meth : Method} {c : Code} {b L : Nat} {xs : Nat → Int32} (hfl : l.stackTraces = false) {G : GG} {a : Nat → Nat} {t9 : Nat} (D0 : LC p s m meth c b L xs G a t9) (hL : L ≤ 2560) {st : ST} {th : Int32} {f0 : Nat → Int64} {j C9 S9 : Nat} (hO : OKS st) (hj : j + 4 < L) (hC9 : C9 ≤ 600000) (hS9 : S9 ≤ 7200000) {H : Heap} {locs : List Loc} {ls : Array Slot} (hS : va_S (fun q : Nat => s.heap.size ≤ q) s.heap H locs) (hCW : CW G a st H) (hMW : MW G a st th H) (hOut : outP G a f0 H) (hl : lv_has ls 7 [(0, .ref b), (1, .ref (a 0)), (2, .ref (a 93)), (3, .ref (a 115)), (4, .int (nI j))])
    (K : ∀ (st1 : ST) (th1 : Int32) (f1 : Nat → Int64) (H1 : Heap) (locs1 : List Loc) (ls1 : Array Slot), OKS st1 → CW G a st1 H1 → MW G a st1 th1 H1 → outP G a f1 H1 → va_S (fun q : Nat => s.heap.size ≤ q) s.heap H1 locs1 → lv_has ls1 7 [(0, .ref b), (1, .ref (a 0)), (2, .ref (a 93)), (3, .ref (a 115)), (4, .int (nI j))] → W p l e room_1 s m #[Value.ref b] below meth c H1 locs1 (C9 + 10) (S9 + 100) (lw_Z below #[Value.ref b] s) (F0 m 1612 ls1 [])) : W p l e room_1 s m #[Value.ref b] below meth c H locs C9 S9 (lw_Z below #[Value.ref b] s) (F0 m 348 ls []) := by
  obtain ⟨⟨hx, hb, hr, hml, hown, hts0, hX0, hbl, hlocks, hgv⟩, ha, hK, hNW, hLow, hX, hNC, hA⟩ := id D0
  have hts : ∀ w ∈ wsL_law, w.before #[Value.ref b] s = true := fun w h => hts0 w (wsL_law_in w h)
  have hbA : ¬ (fun q : Nat => s.heap.size ≤ q) b := Nat.not_le.mpr hbl
  have FX : CallFix p m c cL_law 7 s #[Value.ref b] wsL_law RL := ⟨hx, hb, hml, hown, hts⟩
  have hgC : ∀ q, orA (rng a 0 93) (rng a 115 1) q → s.heap.size ≤ q := fun q h => h.elim (rng_ge hA q) (rng_ge hA q)
  have i1 : vp_in (nI j + nI 1) L := by rw [nI_add]; exact vp_in_nI (by omega) (by omega)
  have i2 : vp_in (nI j + nI 2) L := by rw [nI_add]; exact vp_in_nI (by omega) (by omega)
  have i3 : vp_in (nI j + nI 3) L := by rw [nI_add]; exact vp_in_nI (by omega) (by omega)
  refine lv_aload_n hx hb dL_law_348 rfl (lv_at hl 1 rfl) ?_
  refine lv_aload_n hx hb dL_law_349 rfl (lv_at hl 0 rfl) ?_
  refine lv_iload hx hb dL_law_350 (lv_at hl 4 rfl) ?_
  refine lv_iconst (v := nI 1) hx hb dL_law_352 (by decide) ?_
  refine lv_iadd hx hb dL_law_353 ?_
  refine va_sld hx hb hX0 hbl hbA hS i1 dL_law_354 ?_
  refine lv_aload_n hx hb dL_law_355 rfl (lv_at hl 0 rfl) ?_
  refine lv_iload hx hb dL_law_356 (lv_at hl 4 rfl) ?_
  refine lv_iconst (v := nI 2) hx hb dL_law_358 (by decide) ?_
  refine lv_iadd hx hb dL_law_359 ?_
  refine va_sld hx hb hX0 hbl hbA hS i2 dL_law_360 ?_
  refine lv_aload_n hx hb dL_law_361 rfl (lv_at hl 0 rfl) ?_
  refine lv_iload hx hb dL_law_362 (lv_at hl 4 rfl) ?_
  refine lv_iconst (v := nI 3) hx hb dL_law_364 (by decide) ?_
  refine lv_iadd hx hb dL_law_365 ?_
  refine va_sld hx hb hX0 hbl hbA hS i3 dL_law_366 ?_
  refine lv_aload_n hx hb dL_law_367 rfl (lv_at hl 3 rfl) ?_
  refine wr_i (vx_run0 (vx_runSX (As := [.ref (a 0), .int (xs (nI j + nI 1).toNatClampNeg), .int (xs (nI j + nI 2).toNatClampNeg), .int (xs (nI j + nI 3).toNatClampNeg), .ref (a 115)]) (rest := []) FX (w_adder l hfl G a ha t9 st (xs (nI j + nI 1).toNatClampNeg) (xs (nI j + nI 2).toNatClampNeg) (xs (nI j + nI 3).toNatClampNeg) f0 hO) (vx_cwSW 5 hts gL_law_L_adder rfl rfl rfl (by decide +kernel) ⟨Nat.le_of_ble_eq_true rfl, Nat.le_of_ble_eq_true rfl⟩) (preW hK hNW ⟨hCW, hOut⟩ (hLow.at hS (fun q9 h8 h9 => absurd h8 (Nat.not_lt.mpr h9))) (hX.at hS (fun q9 h8 h9 => absurd h8 (Nat.not_lt.mpr h9))) hNC) rfl rfl hl.1 rfl (lv_room (Nat.le_of_ble_eq_true rfl)) dL_law_368 (rm_ok (by omega) (by omega)))) hS hgC (fun r f1 H1 locs1 hp hB hk hS => ?_)
  obtain ⟨hCW, hOut⟩ := hB
  have hMW := MW_k ha hk (mw_no ha) hMW
  refine lv_istore (lv' := [(5, .int r), (0, .ref b), (1, .ref (a 0)), (2, .ref (a 93)), (3, .ref (a 115)), (4, .int (nI j))]) hx hb dL_law_371 hl (by decide) rfl (fun ls hl => ?_)
  refine lv_aload_n hx hb dL_law_373 rfl (lv_at hl 3 rfl) ?_
  refine lv_aload_n hx hb dL_law_374 rfl (lv_at hl 1 rfl) ?_
  refine lv_iload hx hb dL_law_375 (lv_at hl 5 rfl) ?_
  refine lv_iconst (v := nI 1) hx hb dL_law_377 (by decide) ?_
  refine lv_iadd hx hb dL_law_378 ?_
  refine va_sld hx hb hX0 hbl hbA hS i1 dL_law_379 ?_
  refine lv_aload_n hx hb dL_law_380 rfl (lv_at hl 1 rfl) ?_
  refine lv_iload hx hb dL_law_381 (lv_at hl 5 rfl) ?_
  refine lv_iconst (v := nI 2) hx hb dL_law_383 (by decide) ?_
  refine lv_iadd hx hb dL_law_384 ?_
  refine va_sld hx hb hX0 hbl hbA hS i2 dL_law_385 ?_
  refine lv_aload_n hx hb dL_law_386 rfl (lv_at hl 1 rfl) ?_
  refine lv_iload hx hb dL_law_387 (lv_at hl 5 rfl) ?_
  refine lv_iconst (v := nI 3) hx hb dL_law_389 (by decide) ?_
  refine lv_iadd hx hb dL_law_390 ?_
  refine va_sld hx hb hX0 hbl hbA hS i3 dL_law_391 ?_
  refine wr_i (va_runV (As := [.int (xs (nI j + nI 1).toNatClampNeg), .int (xs (nI j + nI 2).toNatClampNeg), .int (xs (nI j + nI 3).toNatClampNeg)]) (rest := []) FX (k_X12_adder l G a ha st (xs (nI j + nI 1).toNatClampNeg) (xs (nI j + nI 2).toNatClampNeg) (xs (nI j + nI 3).toNatClampNeg) hO) (cwV 3 hts gL_law_X12_adder rfl rfl rfl (by decide +kernel) ⟨Nat.le_of_ble_eq_true rfl, Nat.le_of_ble_eq_true rfl⟩) (preV hK hNW ⟨th, hMW⟩ (mw_recv hK hMW)) rfl rfl hl.1 rfl (lv_room (Nat.le_of_ble_eq_true rfl)) dL_law_392 (rm_ok (by omega) (by omega))) hS (rng_ge hA) (fun y u9 H2 locs2 hq hMW hk2 hS => ?_)
  have hCW := CW_k ha hk2 (by omega) hCW
  have hOut : outP G a f1 H2 := kp hk2 hOut (dj_cons (rng_no ha (by omega)) dj_nil)
  refine lv_istore (lv' := [(6, .int y), (5, .int r), (0, .ref b), (1, .ref (a 0)), (2, .ref (a 93)), (3, .ref (a 115)), (4, .int (nI j))]) hx hb dL_law_395 hl (by decide) rfl (fun ls hl => ?_)
  refine lv_aload_n hx hb dL_law_397 rfl (lv_at hl 4 rfl) ?_
  obtain ⟨⟨cy, h0⟩, -⟩ := id hMW
  refine ro_i (va_runV (As := []) (rest := []) FX (c_X12_thrown l G a cy (nI (cAd st.1 (xs (nI j + nI 1).toNatClampNeg) (xs (nI j + nI 2).toNatClampNeg) (xs (nI j + nI 3).toNatClampNeg)))) (cwV 0 hts gL_law_X12_thrown rfl rfl rfl (by decide +kernel) ⟨Nat.le_of_ble_eq_true rfl, Nat.le_of_ble_eq_true rfl⟩) (preV hK hNW h0 (mw_recv hK hMW)) rfl rfl hl.1 rfl (lv_room (Nat.le_of_ble_eq_true rfl)) dL_law_398 (rm_ok (by omega) (by omega))) ?_
  refine lv_iload hx hb dL_law_401 (lv_at hl 1 rfl) ?_
  refine lv_icmp_eq (tgt := 408) hx hb dL_law_403 (by decide) (fun c1 => ?_) (fun c1 => absurd hp.1.symm c1)
  refine lv_iload hx hb dL_law_408 (lv_at hl 1 rfl) ?_
  have fin := fun (ls : Array Slot) (hl : lv_has ls 7 [(6, .int y), (5, .int r), (0, .ref b), (1, .ref (a 0)), (2, .ref (a 93)), (3, .ref (a 115)), (4, .int (nI j))]) => K _ (nI (cAd st.1 (xs (nI j + nI 1).toNatClampNeg) (xs (nI j + nI 2).toNatClampNeg) (xs (nI j + nI 3).toNatClampNeg))) f1 H2 locs2 ls (ok_adder hO) hCW hMW hOut hS (lv_sub hl [2, 3, 4, 5, 6] rfl)
  refine lv_if_ne (tgt := 425) hx hb dL_law_410 (by decide) (fun c2 => ?_) (fun c2 => ?_)
  · refine lv_goto (tgt := 1612) hx hb dL_law_425 (by decide) (wid (by omega) (by omega) (fin _ hl))
  · obtain ⟨x, e1, e2⟩ := hp.2 (z_adder (st := st) (hp.1.symm.trans c2))
    have e3 := hq (z_adder (st := st) (hp.1.symm.trans c2))
    have e4 : x = y := e2.trans e3.symm
    refine lv_aload_n hx hb dL_law_413 rfl (lv_at hl 5 rfl) ?_
    refine lv_iconst (v := nI 0) hx hb dL_law_414 (by decide) ?_
    refine pp_lald hx hb hK hOut 0 rfl (vp_in_nI (by omega) (by omega)) dL_law_415 ?_
    refine lv_iload hx hb dL_law_416 (lv_at hl 0 rfl) ?_
    refine lv_i2l (v := y.toInt64) hx hb dL_law_418 rfl ?_
    refine W.lcmp hx hb dL_law_419 ?_
    refine lv_if_eq (tgt := 425) hx hb dL_law_420 (by decide) (fun c3 => ?_) (fun c3 => absurd (an_eq e1 e4) c3)
    refine lv_goto (tgt := 1612) hx hb dL_law_425 (by decide) (wid (by omega) (by omega) (fin _ hl))
theorem z_multiplier {st : ST} {p9 w9 : Int32} (h : nI (cMu st.1 p9 w9) = nI 0) : cMu st.1 p9 w9 = 0 := by
  revert h; unfold cMu; (repeat' split) <;> intro h <;> first | rfl | exact absurd h (by decide)
set_option maxHeartbeats 4000000 in
set_option maxRecDepth 100000 in
theorem b_multiplier {p : Program} {l : Launch} {e : Env} {s : State} {m : MethodId} {below : List Frame} {meth : Method} {c : Code} {b L : Nat} {xs : Nat → Int32} (hfl : l.stackTraces = false) {G : GG} {a : Nat → Nat} {t9 : Nat} (D0 : LC p s m meth c b L xs G a t9) (hL : L ≤ 2560) {st : ST} {th : Int32} {f0 : Nat → Int64} {j C9 S9 : Nat} (hO : OKS st) (hj : j + 4 < L) (hC9 : C9 ≤ 600000) (hS9 : S9 ≤ 7200000) {H : Heap} {locs : List Loc} {ls : Array Slot} (hS : va_S (fun q : Nat => s.heap.size ≤ q) s.heap H locs) (hCW : CW G a st H) (hMW : MW G a st th H) (hOut : outP G a f0 H) (hl : lv_has ls 7 [(0, .ref b), (1, .ref (a 0)), (2, .ref (a 93)), (3, .ref (a 115)), (4, .int (nI j))])
    (K : ∀ (st1 : ST) (th1 : Int32) (f1 : Nat → Int64) (H1 : Heap) (locs1 : List Loc) (ls1 : Array Slot), OKS st1 → CW G a st1 H1 → MW G a st1 th1 H1 → outP G a f1 H1 → va_S (fun q : Nat => s.heap.size ≤ q) s.heap H1 locs1 → lv_has ls1 7 [(0, .ref b), (1, .ref (a 0)), (2, .ref (a 93)), (3, .ref (a 115)), (4, .int (nI j))] → W p l e room_1 s m #[Value.ref b] below meth c H1 locs1 (C9 + 10) (S9 + 100) (lw_Z below #[Value.ref b] s) (F0 m 1612 ls1 [])) : W p l e room_1 s m #[Value.ref b] below meth c H locs C9 S9 (lw_Z below #[Value.ref b] s) (F0 m 428 ls []) := by
  obtain ⟨⟨hx, hb, hr, hml, hown, hts0, hX0, hbl, hlocks, hgv⟩, ha, hK, hNW, hLow, hX, hNC, hA⟩ := id D0
  have hts : ∀ w ∈ wsL_law, w.before #[Value.ref b] s = true := fun w h => hts0 w (wsL_law_in w h)
  have hbA : ¬ (fun q : Nat => s.heap.size ≤ q) b := Nat.not_le.mpr hbl
  have FX : CallFix p m c cL_law 7 s #[Value.ref b] wsL_law RL := ⟨hx, hb, hml, hown, hts⟩
  have hgC : ∀ q, orA (rng a 0 93) (rng a 115 1) q → s.heap.size ≤ q := fun q h => h.elim (rng_ge hA q) (rng_ge hA q)
  have i1 : vp_in (nI j + nI 1) L := by rw [nI_add]; exact vp_in_nI (by omega) (by omega)
  have i2 : vp_in (nI j + nI 2) L := by rw [nI_add]; exact vp_in_nI (by omega) (by omega)
  refine lv_aload_n hx hb dL_law_428 rfl (lv_at hl 1 rfl) ?_
  refine lv_aload_n hx hb dL_law_429 rfl (lv_at hl 0 rfl) ?_
  refine lv_iload hx hb dL_law_430 (lv_at hl 4 rfl) ?_
  refine lv_iconst (v := nI 1) hx hb dL_law_432 (by decide) ?_
  refine lv_iadd hx hb dL_law_433 ?_
  refine va_sld hx hb hX0 hbl hbA hS i1 dL_law_434 ?_
  refine lv_aload_n hx hb dL_law_435 rfl (lv_at hl 0 rfl) ?_
  refine lv_iload hx hb dL_law_436 (lv_at hl 4 rfl) ?_
  refine lv_iconst (v := nI 2) hx hb dL_law_438 (by decide) ?_
  refine lv_iadd hx hb dL_law_439 ?_
  refine va_sld hx hb hX0 hbl hbA hS i2 dL_law_440 ?_
  refine lv_aload_n hx hb dL_law_441 rfl (lv_at hl 3 rfl) ?_
  refine wr_i (vx_run0 (vx_runSX (As := [.ref (a 0), .int (xs (nI j + nI 1).toNatClampNeg), .int (xs (nI j + nI 2).toNatClampNeg), .ref (a 115)]) (rest := []) FX (w_multiplier l hfl G a ha t9 st (xs (nI j + nI 1).toNatClampNeg) (xs (nI j + nI 2).toNatClampNeg) f0 hO) (vx_cwSW 4 hts gL_law_L_multiplier rfl rfl rfl (by decide +kernel) ⟨Nat.le_of_ble_eq_true rfl, Nat.le_of_ble_eq_true rfl⟩) (preW hK hNW ⟨hCW, hOut⟩ (hLow.at hS (fun q9 h8 h9 => absurd h8 (Nat.not_lt.mpr h9))) (hX.at hS (fun q9 h8 h9 => absurd h8 (Nat.not_lt.mpr h9))) hNC) rfl rfl hl.1 rfl (lv_room (Nat.le_of_ble_eq_true rfl)) dL_law_442 (rm_ok (by omega) (by omega)))) hS hgC (fun r f1 H1 locs1 hp hB hk hS => ?_)
  obtain ⟨hCW, hOut⟩ := hB
  have hMW := MW_k ha hk (mw_no ha) hMW
  refine lv_istore (lv' := [(5, .int r), (0, .ref b), (1, .ref (a 0)), (2, .ref (a 93)), (3, .ref (a 115)), (4, .int (nI j))]) hx hb dL_law_445 hl (by decide) rfl (fun ls hl => ?_)
  refine lv_aload_n hx hb dL_law_447 rfl (lv_at hl 3 rfl) ?_
  refine lv_aload_n hx hb dL_law_448 rfl (lv_at hl 1 rfl) ?_
  refine lv_iload hx hb dL_law_449 (lv_at hl 5 rfl) ?_
  refine lv_iconst (v := nI 1) hx hb dL_law_451 (by decide) ?_
  refine lv_iadd hx hb dL_law_452 ?_
  refine va_sld hx hb hX0 hbl hbA hS i1 dL_law_453 ?_
  refine lv_aload_n hx hb dL_law_454 rfl (lv_at hl 1 rfl) ?_
  refine lv_iload hx hb dL_law_455 (lv_at hl 5 rfl) ?_
  refine lv_iconst (v := nI 2) hx hb dL_law_457 (by decide) ?_
  refine lv_iadd hx hb dL_law_458 ?_
  refine va_sld hx hb hX0 hbl hbA hS i2 dL_law_459 ?_
  refine wr_i (va_runV (As := [.int (xs (nI j + nI 1).toNatClampNeg), .int (xs (nI j + nI 2).toNatClampNeg)]) (rest := []) FX (k_X12_multiplier l G a ha st (xs (nI j + nI 1).toNatClampNeg) (xs (nI j + nI 2).toNatClampNeg) hO) (cwV 2 hts gL_law_X12_multiplier rfl rfl rfl (by decide +kernel) ⟨Nat.le_of_ble_eq_true rfl, Nat.le_of_ble_eq_true rfl⟩) (preV hK hNW ⟨th, hMW⟩ (mw_recv hK hMW)) rfl rfl hl.1 rfl (lv_room (Nat.le_of_ble_eq_true rfl)) dL_law_460 (rm_ok (by omega) (by omega))) hS (rng_ge hA) (fun y u9 H2 locs2 hq hMW hk2 hS => ?_)
  have hCW := CW_k ha hk2 (by omega) hCW
  have hOut : outP G a f1 H2 := kp hk2 hOut (dj_cons (rng_no ha (by omega)) dj_nil)
  refine lv_istore (lv' := [(6, .int y), (5, .int r), (0, .ref b), (1, .ref (a 0)), (2, .ref (a 93)), (3, .ref (a 115)), (4, .int (nI j))]) hx hb dL_law_463 hl (by decide) rfl (fun ls hl => ?_)
  refine lv_aload_n hx hb dL_law_465 rfl (lv_at hl 4 rfl) ?_
  obtain ⟨⟨cy, h0⟩, -⟩ := id hMW
  refine ro_i (va_runV (As := []) (rest := []) FX (c_X12_thrown l G a cy (nI (cMu st.1 (xs (nI j + nI 1).toNatClampNeg) (xs (nI j + nI 2).toNatClampNeg)))) (cwV 0 hts gL_law_X12_thrown rfl rfl rfl (by decide +kernel) ⟨Nat.le_of_ble_eq_true rfl, Nat.le_of_ble_eq_true rfl⟩) (preV hK hNW h0 (mw_recv hK hMW)) rfl rfl hl.1 rfl (lv_room (Nat.le_of_ble_eq_true rfl)) dL_law_466 (rm_ok (by omega) (by omega))) ?_
  refine lv_iload hx hb dL_law_469 (lv_at hl 1 rfl) ?_
  refine lv_icmp_eq (tgt := 476) hx hb dL_law_471 (by decide) (fun c1 => ?_) (fun c1 => absurd hp.1.symm c1)
  refine lv_iload hx hb dL_law_476 (lv_at hl 1 rfl) ?_
  have fin := fun (ls : Array Slot) (hl : lv_has ls 7 [(6, .int y), (5, .int r), (0, .ref b), (1, .ref (a 0)), (2, .ref (a 93)), (3, .ref (a 115)), (4, .int (nI j))]) => K _ (nI (cMu st.1 (xs (nI j + nI 1).toNatClampNeg) (xs (nI j + nI 2).toNatClampNeg))) f1 H2 locs2 ls (ok_multiplier hO) hCW hMW hOut hS (lv_sub hl [2, 3, 4, 5, 6] rfl)
  refine lv_if_ne (tgt := 493) hx hb dL_law_478 (by decide) (fun c2 => ?_) (fun c2 => ?_)
  · refine lv_goto (tgt := 1612) hx hb dL_law_493 (by decide) (wid (by omega) (by omega) (fin _ hl))
  · obtain ⟨x, e1, e2⟩ := hp.2 (z_multiplier (st := st) (hp.1.symm.trans c2))
    have e3 := hq (z_multiplier (st := st) (hp.1.symm.trans c2))
    have e4 : x = y := e2.trans e3.symm
    refine lv_aload_n hx hb dL_law_481 rfl (lv_at hl 5 rfl) ?_
    refine lv_iconst (v := nI 0) hx hb dL_law_482 (by decide) ?_
    refine pp_lald hx hb hK hOut 0 rfl (vp_in_nI (by omega) (by omega)) dL_law_483 ?_
    refine lv_iload hx hb dL_law_484 (lv_at hl 0 rfl) ?_
    refine lv_i2l (v := y.toInt64) hx hb dL_law_486 rfl ?_
    refine W.lcmp hx hb dL_law_487 ?_
    refine lv_if_eq (tgt := 493) hx hb dL_law_488 (by decide) (fun c3 => ?_) (fun c3 => absurd (an_eq e1 e4) c3)
    refine lv_goto (tgt := 1612) hx hb dL_law_493 (by decide) (wid (by omega) (by omega) (fin _ hl))
