/-! the law's cases: both are called, both answer alike -/
theorem z_changesAnew {st : ST} {p9 f9 v9 w9 : Int32} (h : nI (cCh p9 f9 v9 w9) = nI 0) : cCh p9 f9 v9 w9 = 0 := by
  revert h; unfold cCh; (repeat' split) <;> intro h <;> first | rfl | exact absurd h (by decide)
set_option maxHeartbeats 4000000 in
set_option maxRecDepth 100000 in
theorem b_changesAnew {p : Program} {l : Launch} {e : Env} {s : State} {m : MethodId} {below : List Frame} {meth : Method} {c : Code} {b L : Nat} {xs : Nat → Int32} (hfl : l.stackTraces = false) {G : GG} {a : Nat → Nat} {t9 : Nat} (D0 : LC p s m meth c b L xs G a t9) (hL : L ≤ 2560) {st : ST} {th : Int32} {f0 : Nat → Int64} {j C9 S9 : Nat} (hO : OKS st) (hj : j + 4 < L) (hC9 : C9 ≤ 600000) (hS9 : S9 ≤ 7200000) {H : Heap} {locs : List Loc} {ls : Array Slot} (hS : va_S (fun q : Nat => s.heap.size ≤ q) s.heap H locs) (hCW : CW G a st H) (hMW : MW G a st th H) (hOut : outP G a f0 H) (hl : lv_has ls 7 [(0, .ref b), (1, .ref (a 0)), (2, .ref (a 93)), (3, .ref (a 115)), (4, .int (nI j))])
    (K : ∀ (st1 : ST) (th1 : Int32) (f1 : Nat → Int64) (H1 : Heap) (locs1 : List Loc) (ls1 : Array Slot), OKS st1 → CW G a st1 H1 → MW G a st1 th1 H1 → outP G a f1 H1 → va_S (fun q : Nat => s.heap.size ≤ q) s.heap H1 locs1 → lv_has ls1 7 [(0, .ref b), (1, .ref (a 0)), (2, .ref (a 93)), (3, .ref (a 115)), (4, .int (nI j))] → W p l e room_1 s m #[Value.ref b] below meth c H1 locs1 (C9 + 10) (S9 + 100) (lw_Z below #[Value.ref b] s) (F0 m 1612 ls1 [])) : W p l e room_1 s m #[Value.ref b] below meth c H locs C9 S9 (lw_Z below #[Value.ref b] s) (F0 m 1224 ls []) := by
  obtain ⟨⟨hx, hb, hr, hml, hown, hts0, hX0, hbl, hlocks, hgv⟩, ha, hK, hNW, hLow, hX, hNC, hA⟩ := id D0
  have hts : ∀ w ∈ wsL_law, w.before #[Value.ref b] s = true := fun w h => hts0 w (wsL_law_in w h)
  have hbA : ¬ (fun q : Nat => s.heap.size ≤ q) b := Nat.not_le.mpr hbl
  have FX : CallFix p m c cL_law 7 s #[Value.ref b] wsL_law RL := ⟨hx, hb, hml, hown, hts⟩
  have hgC : ∀ q, orA (rng a 0 93) (rng a 115 1) q → s.heap.size ≤ q := fun q h => h.elim (rng_ge hA q) (rng_ge hA q)
  have i1 : vp_in (nI j + nI 1) L := by rw [nI_add]; exact vp_in_nI (by omega) (by omega)
  have i2 : vp_in (nI j + nI 2) L := by rw [nI_add]; exact vp_in_nI (by omega) (by omega)
  have i3 : vp_in (nI j + nI 3) L := by rw [nI_add]; exact vp_in_nI (by omega) (by omega)
  have i4 : vp_in (nI j + nI 4) L := by rw [nI_add]; exact vp_in_nI (by omega) (by omega)
  refine lv_aload_n hx hb dL_law_1224 rfl (lv_at hl 1 rfl) ?_
  refine lv_aload_n hx hb dL_law_1225 rfl (lv_at hl 0 rfl) ?_
  refine lv_iload hx hb dL_law_1226 (lv_at hl 4 rfl) ?_
  refine lv_iconst (v := nI 1) hx hb dL_law_1228 (by decide) ?_
  refine lv_iadd hx hb dL_law_1229 ?_
  refine va_sld hx hb hX0 hbl hbA hS i1 dL_law_1230 ?_
  refine lv_aload_n hx hb dL_law_1231 rfl (lv_at hl 0 rfl) ?_
  refine lv_iload hx hb dL_law_1232 (lv_at hl 4 rfl) ?_
  refine lv_iconst (v := nI 2) hx hb dL_law_1234 (by decide) ?_
  refine lv_iadd hx hb dL_law_1235 ?_
  refine va_sld hx hb hX0 hbl hbA hS i2 dL_law_1236 ?_
  refine lv_aload_n hx hb dL_law_1237 rfl (lv_at hl 0 rfl) ?_
  refine lv_iload hx hb dL_law_1238 (lv_at hl 4 rfl) ?_
  refine lv_iconst (v := nI 3) hx hb dL_law_1240 (by decide) ?_
  refine lv_iadd hx hb dL_law_1241 ?_
  refine va_sld hx hb hX0 hbl hbA hS i3 dL_law_1242 ?_
  refine lv_aload_n hx hb dL_law_1243 rfl (lv_at hl 0 rfl) ?_
  refine lv_iload hx hb dL_law_1244 (lv_at hl 4 rfl) ?_
  refine lv_iconst (v := nI 4) hx hb dL_law_1246 (by decide) ?_
  refine lv_iadd hx hb dL_law_1247 ?_
  refine va_sld hx hb hX0 hbl hbA hS i4 dL_law_1248 ?_
  refine lv_aload_n hx hb dL_law_1249 rfl (lv_at hl 3 rfl) ?_
  refine wr_i (vx_run0 (vx_runSX (As := [.ref (a 0), .int (xs (nI j + nI 1).toNatClampNeg), .int (xs (nI j + nI 2).toNatClampNeg), .int (xs (nI j + nI 3).toNatClampNeg), .int (xs (nI j + nI 4).toNatClampNeg), .ref (a 115)]) (rest := []) FX (w_changesAnew l hfl G a ha t9 st (xs (nI j + nI 1).toNatClampNeg) (xs (nI j + nI 2).toNatClampNeg) (xs (nI j + nI 3).toNatClampNeg) (xs (nI j + nI 4).toNatClampNeg) f0 hO) (vx_cwSW 6 hts gL_law_L_changesAnew rfl rfl rfl (by decide +kernel) ⟨Nat.le_of_ble_eq_true rfl, Nat.le_of_ble_eq_true rfl⟩) (preW hK hNW ⟨hCW, hOut⟩ (hLow.at hS (fun q9 h8 h9 => absurd h8 (Nat.not_lt.mpr h9))) (hX.at hS (fun q9 h8 h9 => absurd h8 (Nat.not_lt.mpr h9))) hNC) rfl rfl hl.1 rfl (lv_room (Nat.le_of_ble_eq_true rfl)) dL_law_1250 (rm_ok (by omega) (by omega)))) hS hgC (fun r f1 H1 locs1 hp hB hk hS => ?_)
  obtain ⟨hCW, hOut⟩ := hB
  have hMW := MW_k ha hk (mw_no ha) hMW
  refine lv_istore (lv' := [(5, .int r), (0, .ref b), (1, .ref (a 0)), (2, .ref (a 93)), (3, .ref (a 115)), (4, .int (nI j))]) hx hb dL_law_1253 hl (by decide) rfl (fun ls hl => ?_)
  refine lv_aload_n hx hb dL_law_1255 rfl (lv_at hl 3 rfl) ?_
  refine lv_aload_n hx hb dL_law_1256 rfl (lv_at hl 1 rfl) ?_
  refine lv_iload hx hb dL_law_1257 (lv_at hl 5 rfl) ?_
  refine lv_iconst (v := nI 1) hx hb dL_law_1259 (by decide) ?_
  refine lv_iadd hx hb dL_law_1260 ?_
  refine va_sld hx hb hX0 hbl hbA hS i1 dL_law_1261 ?_
  refine lv_aload_n hx hb dL_law_1262 rfl (lv_at hl 1 rfl) ?_
  refine lv_iload hx hb dL_law_1263 (lv_at hl 5 rfl) ?_
  refine lv_iconst (v := nI 2) hx hb dL_law_1265 (by decide) ?_
  refine lv_iadd hx hb dL_law_1266 ?_
  refine va_sld hx hb hX0 hbl hbA hS i2 dL_law_1267 ?_
  refine lv_aload_n hx hb dL_law_1268 rfl (lv_at hl 1 rfl) ?_
  refine lv_iload hx hb dL_law_1269 (lv_at hl 5 rfl) ?_
  refine lv_iconst (v := nI 3) hx hb dL_law_1271 (by decide) ?_
  refine lv_iadd hx hb dL_law_1272 ?_
  refine va_sld hx hb hX0 hbl hbA hS i3 dL_law_1273 ?_
  refine lv_aload_n hx hb dL_law_1274 rfl (lv_at hl 1 rfl) ?_
  refine lv_iload hx hb dL_law_1275 (lv_at hl 5 rfl) ?_
  refine lv_iconst (v := nI 4) hx hb dL_law_1277 (by decide) ?_
  refine lv_iadd hx hb dL_law_1278 ?_
  refine va_sld hx hb hX0 hbl hbA hS i4 dL_law_1279 ?_
  refine wr_i (va_runV (As := [.int (xs (nI j + nI 1).toNatClampNeg), .int (xs (nI j + nI 2).toNatClampNeg), .int (xs (nI j + nI 3).toNatClampNeg), .int (xs (nI j + nI 4).toNatClampNeg)]) (rest := []) FX (k_X12_changesAnew l G a ha st (xs (nI j + nI 1).toNatClampNeg) (xs (nI j + nI 2).toNatClampNeg) (xs (nI j + nI 3).toNatClampNeg) (xs (nI j + nI 4).toNatClampNeg) hO) (cwV 4 hts gL_law_X12_changesAnew rfl rfl rfl (by decide +kernel) ⟨Nat.le_of_ble_eq_true rfl, Nat.le_of_ble_eq_true rfl⟩) (preV hK hNW ⟨th, hMW⟩ (mw_recv hK hMW)) rfl rfl hl.1 rfl (lv_room (Nat.le_of_ble_eq_true rfl)) dL_law_1280 (rm_ok (by omega) (by omega))) hS (rng_ge hA) (fun y u9 H2 locs2 hq hMW hk2 hS => ?_)
  have hCW := CW_k ha hk2 (by omega) hCW
  have hOut : outP G a f1 H2 := kp hk2 hOut (dj_cons (rng_no ha (by omega)) dj_nil)
  refine lv_istore (lv' := [(6, .int y), (5, .int r), (0, .ref b), (1, .ref (a 0)), (2, .ref (a 93)), (3, .ref (a 115)), (4, .int (nI j))]) hx hb dL_law_1283 hl (by decide) rfl (fun ls hl => ?_)
  refine lv_aload_n hx hb dL_law_1285 rfl (lv_at hl 4 rfl) ?_
  obtain ⟨⟨cy, h0⟩, -⟩ := id hMW
  refine ro_i (va_runV (As := []) (rest := []) FX (c_X12_thrown l G a cy (nI (cCh (xs (nI j + nI 1).toNatClampNeg) (xs (nI j + nI 2).toNatClampNeg) (xs (nI j + nI 3).toNatClampNeg) (xs (nI j + nI 4).toNatClampNeg)))) (cwV 0 hts gL_law_X12_thrown rfl rfl rfl (by decide +kernel) ⟨Nat.le_of_ble_eq_true rfl, Nat.le_of_ble_eq_true rfl⟩) (preV hK hNW h0 (mw_recv hK hMW)) rfl rfl hl.1 rfl (lv_room (Nat.le_of_ble_eq_true rfl)) dL_law_1286 (rm_ok (by omega) (by omega))) ?_
  refine lv_iload hx hb dL_law_1289 (lv_at hl 1 rfl) ?_
  refine lv_icmp_eq (tgt := 1296) hx hb dL_law_1291 (by decide) (fun c1 => ?_) (fun c1 => absurd hp.1.symm c1)
  refine lv_iload hx hb dL_law_1296 (lv_at hl 1 rfl) ?_
  have fin := fun (ls : Array Slot) (hl : lv_has ls 7 [(6, .int y), (5, .int r), (0, .ref b), (1, .ref (a 0)), (2, .ref (a 93)), (3, .ref (a 115)), (4, .int (nI j))]) => K _ (nI (cCh (xs (nI j + nI 1).toNatClampNeg) (xs (nI j + nI 2).toNatClampNeg) (xs (nI j + nI 3).toNatClampNeg) (xs (nI j + nI 4).toNatClampNeg))) f1 H2 locs2 ls hO hCW hMW hOut hS (lv_sub hl [2, 3, 4, 5, 6] rfl)
  refine lv_if_ne (tgt := 1313) hx hb dL_law_1298 (by decide) (fun c2 => ?_) (fun c2 => ?_)
  · refine lv_goto (tgt := 1612) hx hb dL_law_1313 (by decide) (wid (by omega) (by omega) (fin _ hl))
  · obtain ⟨x, e1, e2⟩ := hp.2 (z_changesAnew (st := st) (hp.1.symm.trans c2))
    have e3 := hq (z_changesAnew (st := st) (hp.1.symm.trans c2))
    have e4 : x = y := e2.trans e3.symm
    refine lv_aload_n hx hb dL_law_1301 rfl (lv_at hl 5 rfl) ?_
    refine lv_iconst (v := nI 0) hx hb dL_law_1302 (by decide) ?_
    refine pp_lald hx hb hK hOut 0 rfl (vp_in_nI (by omega) (by omega)) dL_law_1303 ?_
    refine lv_iload hx hb dL_law_1304 (lv_at hl 0 rfl) ?_
    refine lv_i2l (v := y.toInt64) hx hb dL_law_1306 rfl ?_
    refine W.lcmp hx hb dL_law_1307 ?_
    refine lv_if_eq (tgt := 1313) hx hb dL_law_1308 (by decide) (fun c3 => ?_) (fun c3 => absurd (an_eq e1 e4) c3)
    refine lv_goto (tgt := 1612) hx hb dL_law_1313 (by decide) (wid (by omega) (by omega) (fin _ hl))
theorem z_off {st : ST} {p9 op9 w9 : Int32} (h : nI (cOff st.1 p9 op9 w9) = nI 0) : cOff st.1 p9 op9 w9 = 0 := by
  revert h; unfold cOff; (repeat' split) <;> intro h <;> first | rfl | exact absurd h (by decide)
set_option maxHeartbeats 4000000 in
set_option maxRecDepth 100000 in
theorem b_off {p : Program} {l : Launch} {e : Env} {s : State} {m : MethodId} {below : List Frame} {meth : Method} {c : Code} {b L : Nat} {xs : Nat → Int32} (hfl : l.stackTraces = false) {G : GG} {a : Nat → Nat} {t9 : Nat} (D0 : LC p s m meth c b L xs G a t9) (hL : L ≤ 2560) {st : ST} {th : Int32} {f0 : Nat → Int64} {j C9 S9 : Nat} (hO : OKS st) (hj : j + 4 < L) (hC9 : C9 ≤ 600000) (hS9 : S9 ≤ 7200000) {H : Heap} {locs : List Loc} {ls : Array Slot} (hS : va_S (fun q : Nat => s.heap.size ≤ q) s.heap H locs) (hCW : CW G a st H) (hMW : MW G a st th H) (hOut : outP G a f0 H) (hl : lv_has ls 7 [(0, .ref b), (1, .ref (a 0)), (2, .ref (a 93)), (3, .ref (a 115)), (4, .int (nI j))])
    (K : ∀ (st1 : ST) (th1 : Int32) (f1 : Nat → Int64) (H1 : Heap) (locs1 : List Loc) (ls1 : Array Slot), OKS st1 → CW G a st1 H1 → MW G a st1 th1 H1 → outP G a f1 H1 → va_S (fun q : Nat => s.heap.size ≤ q) s.heap H1 locs1 → lv_has ls1 7 [(0, .ref b), (1, .ref (a 0)), (2, .ref (a 93)), (3, .ref (a 115)), (4, .int (nI j))] → W p l e room_1 s m #[Value.ref b] below meth c H1 locs1 (C9 + 10) (S9 + 100) (lw_Z below #[Value.ref b] s) (F0 m 1612 ls1 [])) : W p l e room_1 s m #[Value.ref b] below meth c H locs C9 S9 (lw_Z below #[Value.ref b] s) (F0 m 1316 ls []) := by
  obtain ⟨⟨hx, hb, hr, hml, hown, hts0, hX0, hbl, hlocks, hgv⟩, ha, hK, hNW, hLow, hX, hNC, hA⟩ := id D0
  have hts : ∀ w ∈ wsL_law, w.before #[Value.ref b] s = true := fun w h => hts0 w (wsL_law_in w h)
  have hbA : ¬ (fun q : Nat => s.heap.size ≤ q) b := Nat.not_le.mpr hbl
  have FX : CallFix p m c cL_law 7 s #[Value.ref b] wsL_law RL := ⟨hx, hb, hml, hown, hts⟩
  have hgC : ∀ q, orA (rng a 0 93) (rng a 115 1) q → s.heap.size ≤ q := fun q h => h.elim (rng_ge hA q) (rng_ge hA q)
  have i1 : vp_in (nI j + nI 1) L := by rw [nI_add]; exact vp_in_nI (by omega) (by omega)
  have i2 : vp_in (nI j + nI 2) L := by rw [nI_add]; exact vp_in_nI (by omega) (by omega)
  have i3 : vp_in (nI j + nI 3) L := by rw [nI_add]; exact vp_in_nI (by omega) (by omega)
  refine lv_aload_n hx hb dL_law_1316 rfl (lv_at hl 1 rfl) ?_
  refine lv_aload_n hx hb dL_law_1317 rfl (lv_at hl 0 rfl) ?_
  refine lv_iload hx hb dL_law_1318 (lv_at hl 4 rfl) ?_
  refine lv_iconst (v := nI 1) hx hb dL_law_1320 (by decide) ?_
  refine lv_iadd hx hb dL_law_1321 ?_
  refine va_sld hx hb hX0 hbl hbA hS i1 dL_law_1322 ?_
  refine lv_aload_n hx hb dL_law_1323 rfl (lv_at hl 0 rfl) ?_
  refine lv_iload hx hb dL_law_1324 (lv_at hl 4 rfl) ?_
  refine lv_iconst (v := nI 2) hx hb dL_law_1326 (by decide) ?_
  refine lv_iadd hx hb dL_law_1327 ?_
  refine va_sld hx hb hX0 hbl hbA hS i2 dL_law_1328 ?_
  refine lv_aload_n hx hb dL_law_1329 rfl (lv_at hl 0 rfl) ?_
  refine lv_iload hx hb dL_law_1330 (lv_at hl 4 rfl) ?_
  refine lv_iconst (v := nI 3) hx hb dL_law_1332 (by decide) ?_
  refine lv_iadd hx hb dL_law_1333 ?_
  refine va_sld hx hb hX0 hbl hbA hS i3 dL_law_1334 ?_
  refine lv_aload_n hx hb dL_law_1335 rfl (lv_at hl 3 rfl) ?_
  refine wr_i (vx_run0 (vx_runSX (As := [.ref (a 0), .int (xs (nI j + nI 1).toNatClampNeg), .int (xs (nI j + nI 2).toNatClampNeg), .int (xs (nI j + nI 3).toNatClampNeg), .ref (a 115)]) (rest := []) FX (w_off l hfl G a ha t9 st (xs (nI j + nI 1).toNatClampNeg) (xs (nI j + nI 2).toNatClampNeg) (xs (nI j + nI 3).toNatClampNeg) f0 hO) (vx_cwSW 5 hts gL_law_L_off rfl rfl rfl (by decide +kernel) ⟨Nat.le_of_ble_eq_true rfl, Nat.le_of_ble_eq_true rfl⟩) (preW hK hNW ⟨hCW, hOut⟩ (hLow.at hS (fun q9 h8 h9 => absurd h8 (Nat.not_lt.mpr h9))) (hX.at hS (fun q9 h8 h9 => absurd h8 (Nat.not_lt.mpr h9))) hNC) rfl rfl hl.1 rfl (lv_room (Nat.le_of_ble_eq_true rfl)) dL_law_1336 (rm_ok (by omega) (by omega)))) hS hgC (fun r f1 H1 locs1 hp hB hk hS => ?_)
  obtain ⟨hCW, hOut⟩ := hB
  have hMW := MW_k ha hk (mw_no ha) hMW
  refine lv_istore (lv' := [(5, .int r), (0, .ref b), (1, .ref (a 0)), (2, .ref (a 93)), (3, .ref (a 115)), (4, .int (nI j))]) hx hb dL_law_1339 hl (by decide) rfl (fun ls hl => ?_)
  refine lv_aload_n hx hb dL_law_1341 rfl (lv_at hl 3 rfl) ?_
  refine lv_aload_n hx hb dL_law_1342 rfl (lv_at hl 1 rfl) ?_
  refine lv_iload hx hb dL_law_1343 (lv_at hl 5 rfl) ?_
  refine lv_iconst (v := nI 1) hx hb dL_law_1345 (by decide) ?_
  refine lv_iadd hx hb dL_law_1346 ?_
  refine va_sld hx hb hX0 hbl hbA hS i1 dL_law_1347 ?_
  refine lv_aload_n hx hb dL_law_1348 rfl (lv_at hl 1 rfl) ?_
  refine lv_iload hx hb dL_law_1349 (lv_at hl 5 rfl) ?_
  refine lv_iconst (v := nI 2) hx hb dL_law_1351 (by decide) ?_
  refine lv_iadd hx hb dL_law_1352 ?_
  refine va_sld hx hb hX0 hbl hbA hS i2 dL_law_1353 ?_
  refine lv_aload_n hx hb dL_law_1354 rfl (lv_at hl 1 rfl) ?_
  refine lv_iload hx hb dL_law_1355 (lv_at hl 5 rfl) ?_
  refine lv_iconst (v := nI 3) hx hb dL_law_1357 (by decide) ?_
  refine lv_iadd hx hb dL_law_1358 ?_
  refine va_sld hx hb hX0 hbl hbA hS i3 dL_law_1359 ?_
  refine wr_i (va_runV (As := [.int (xs (nI j + nI 1).toNatClampNeg), .int (xs (nI j + nI 2).toNatClampNeg), .int (xs (nI j + nI 3).toNatClampNeg)]) (rest := []) FX (k_X12_off l G a ha st (xs (nI j + nI 1).toNatClampNeg) (xs (nI j + nI 2).toNatClampNeg) (xs (nI j + nI 3).toNatClampNeg) hO) (cwV 3 hts gL_law_X12_off rfl rfl rfl (by decide +kernel) ⟨Nat.le_of_ble_eq_true rfl, Nat.le_of_ble_eq_true rfl⟩) (preV hK hNW ⟨th, hMW⟩ (mw_recv hK hMW)) rfl rfl hl.1 rfl (lv_room (Nat.le_of_ble_eq_true rfl)) dL_law_1360 (rm_ok (by omega) (by omega))) hS (rng_ge hA) (fun y u9 H2 locs2 hq hMW hk2 hS => ?_)
  have hCW := CW_k ha hk2 (by omega) hCW
  have hOut : outP G a f1 H2 := kp hk2 hOut (dj_cons (rng_no ha (by omega)) dj_nil)
  refine lv_istore (lv' := [(6, .int y), (5, .int r), (0, .ref b), (1, .ref (a 0)), (2, .ref (a 93)), (3, .ref (a 115)), (4, .int (nI j))]) hx hb dL_law_1363 hl (by decide) rfl (fun ls hl => ?_)
  refine lv_aload_n hx hb dL_law_1365 rfl (lv_at hl 4 rfl) ?_
  obtain ⟨⟨cy, h0⟩, -⟩ := id hMW
  refine ro_i (va_runV (As := []) (rest := []) FX (c_X12_thrown l G a cy (nI (cOff st.1 (xs (nI j + nI 1).toNatClampNeg) (xs (nI j + nI 2).toNatClampNeg) (xs (nI j + nI 3).toNatClampNeg)))) (cwV 0 hts gL_law_X12_thrown rfl rfl rfl (by decide +kernel) ⟨Nat.le_of_ble_eq_true rfl, Nat.le_of_ble_eq_true rfl⟩) (preV hK hNW h0 (mw_recv hK hMW)) rfl rfl hl.1 rfl (lv_room (Nat.le_of_ble_eq_true rfl)) dL_law_1366 (rm_ok (by omega) (by omega))) ?_
  refine lv_iload hx hb dL_law_1369 (lv_at hl 1 rfl) ?_
  refine lv_icmp_eq (tgt := 1376) hx hb dL_law_1371 (by decide) (fun c1 => ?_) (fun c1 => absurd hp.1.symm c1)
  refine lv_iload hx hb dL_law_1376 (lv_at hl 1 rfl) ?_
  have fin := fun (ls : Array Slot) (hl : lv_has ls 7 [(6, .int y), (5, .int r), (0, .ref b), (1, .ref (a 0)), (2, .ref (a 93)), (3, .ref (a 115)), (4, .int (nI j))]) => K _ (nI (cOff st.1 (xs (nI j + nI 1).toNatClampNeg) (xs (nI j + nI 2).toNatClampNeg) (xs (nI j + nI 3).toNatClampNeg))) f1 H2 locs2 ls hO hCW hMW hOut hS (lv_sub hl [2, 3, 4, 5, 6] rfl)
  refine lv_if_ne (tgt := 1393) hx hb dL_law_1378 (by decide) (fun c2 => ?_) (fun c2 => ?_)
  · refine lv_goto (tgt := 1612) hx hb dL_law_1393 (by decide) (wid (by omega) (by omega) (fin _ hl))
  · obtain ⟨x, e1, e2⟩ := hp.2 (z_off (st := st) (hp.1.symm.trans c2))
    have e3 := hq (z_off (st := st) (hp.1.symm.trans c2))
    have e4 : x = y := e2.trans e3.symm
    refine lv_aload_n hx hb dL_law_1381 rfl (lv_at hl 5 rfl) ?_
    refine lv_iconst (v := nI 0) hx hb dL_law_1382 (by decide) ?_
    refine pp_lald hx hb hK hOut 0 rfl (vp_in_nI (by omega) (by omega)) dL_law_1383 ?_
    refine lv_iload hx hb dL_law_1384 (lv_at hl 0 rfl) ?_
    refine lv_i2l (v := y.toInt64) hx hb dL_law_1386 rfl ?_
    refine W.lcmp hx hb dL_law_1387 ?_
    refine lv_if_eq (tgt := 1393) hx hb dL_law_1388 (by decide) (fun c3 => ?_) (fun c3 => absurd (an_eq e1 e4) c3)
    refine lv_goto (tgt := 1612) hx hb dL_law_1393 (by decide) (wid (by omega) (by omega) (fin _ hl))
theorem z_unseen {st : ST} {p9 op9 w9 : Int32} (h : nI (cUns st.1 p9 op9 w9) = nI 0) : cUns st.1 p9 op9 w9 = 0 := by
  revert h; unfold cUns; (repeat' split) <;> intro h <;> first | rfl | exact absurd h (by decide)
set_option maxHeartbeats 4000000 in
set_option maxRecDepth 100000 in
theorem b_unseen {p : Program} {l : Launch} {e : Env} {s : State} {m : MethodId} {below : List Frame} {meth : Method} {c : Code} {b L : Nat} {xs : Nat → Int32} (hfl : l.stackTraces = false) {G : GG} {a : Nat → Nat} {t9 : Nat} (D0 : LC p s m meth c b L xs G a t9) (hL : L ≤ 2560) {st : ST} {th : Int32} {f0 : Nat → Int64} {j C9 S9 : Nat} (hO : OKS st) (hj : j + 4 < L) (hC9 : C9 ≤ 600000) (hS9 : S9 ≤ 7200000) {H : Heap} {locs : List Loc} {ls : Array Slot} (hS : va_S (fun q : Nat => s.heap.size ≤ q) s.heap H locs) (hCW : CW G a st H) (hMW : MW G a st th H) (hOut : outP G a f0 H) (hl : lv_has ls 7 [(0, .ref b), (1, .ref (a 0)), (2, .ref (a 93)), (3, .ref (a 115)), (4, .int (nI j))])
    (K : ∀ (st1 : ST) (th1 : Int32) (f1 : Nat → Int64) (H1 : Heap) (locs1 : List Loc) (ls1 : Array Slot), OKS st1 → CW G a st1 H1 → MW G a st1 th1 H1 → outP G a f1 H1 → va_S (fun q : Nat => s.heap.size ≤ q) s.heap H1 locs1 → lv_has ls1 7 [(0, .ref b), (1, .ref (a 0)), (2, .ref (a 93)), (3, .ref (a 115)), (4, .int (nI j))] → W p l e room_1 s m #[Value.ref b] below meth c H1 locs1 (C9 + 10) (S9 + 100) (lw_Z below #[Value.ref b] s) (F0 m 1612 ls1 [])) : W p l e room_1 s m #[Value.ref b] below meth c H locs C9 S9 (lw_Z below #[Value.ref b] s) (F0 m 1396 ls []) := by
  obtain ⟨⟨hx, hb, hr, hml, hown, hts0, hX0, hbl, hlocks, hgv⟩, ha, hK, hNW, hLow, hX, hNC, hA⟩ := id D0
  have hts : ∀ w ∈ wsL_law, w.before #[Value.ref b] s = true := fun w h => hts0 w (wsL_law_in w h)
  have hbA : ¬ (fun q : Nat => s.heap.size ≤ q) b := Nat.not_le.mpr hbl
  have FX : CallFix p m c cL_law 7 s #[Value.ref b] wsL_law RL := ⟨hx, hb, hml, hown, hts⟩
  have hgC : ∀ q, orA (rng a 0 93) (rng a 115 1) q → s.heap.size ≤ q := fun q h => h.elim (rng_ge hA q) (rng_ge hA q)
  have i1 : vp_in (nI j + nI 1) L := by rw [nI_add]; exact vp_in_nI (by omega) (by omega)
  have i2 : vp_in (nI j + nI 2) L := by rw [nI_add]; exact vp_in_nI (by omega) (by omega)
  have i3 : vp_in (nI j + nI 3) L := by rw [nI_add]; exact vp_in_nI (by omega) (by omega)
  refine lv_aload_n hx hb dL_law_1396 rfl (lv_at hl 1 rfl) ?_
  refine lv_aload_n hx hb dL_law_1397 rfl (lv_at hl 0 rfl) ?_
  refine lv_iload hx hb dL_law_1398 (lv_at hl 4 rfl) ?_
  refine lv_iconst (v := nI 1) hx hb dL_law_1400 (by decide) ?_
  refine lv_iadd hx hb dL_law_1401 ?_
  refine va_sld hx hb hX0 hbl hbA hS i1 dL_law_1402 ?_
  refine lv_aload_n hx hb dL_law_1403 rfl (lv_at hl 0 rfl) ?_
  refine lv_iload hx hb dL_law_1404 (lv_at hl 4 rfl) ?_
  refine lv_iconst (v := nI 2) hx hb dL_law_1406 (by decide) ?_
  refine lv_iadd hx hb dL_law_1407 ?_
  refine va_sld hx hb hX0 hbl hbA hS i2 dL_law_1408 ?_
  refine lv_aload_n hx hb dL_law_1409 rfl (lv_at hl 0 rfl) ?_
  refine lv_iload hx hb dL_law_1410 (lv_at hl 4 rfl) ?_
  refine lv_iconst (v := nI 3) hx hb dL_law_1412 (by decide) ?_
  refine lv_iadd hx hb dL_law_1413 ?_
  refine va_sld hx hb hX0 hbl hbA hS i3 dL_law_1414 ?_
  refine lv_aload_n hx hb dL_law_1415 rfl (lv_at hl 3 rfl) ?_
  refine wr_i (vx_run0 (vx_runSX (As := [.ref (a 0), .int (xs (nI j + nI 1).toNatClampNeg), .int (xs (nI j + nI 2).toNatClampNeg), .int (xs (nI j + nI 3).toNatClampNeg), .ref (a 115)]) (rest := []) FX (w_unseen l hfl G a ha t9 st (xs (nI j + nI 1).toNatClampNeg) (xs (nI j + nI 2).toNatClampNeg) (xs (nI j + nI 3).toNatClampNeg) f0 hO) (vx_cwSW 5 hts gL_law_L_unseen rfl rfl rfl (by decide +kernel) ⟨Nat.le_of_ble_eq_true rfl, Nat.le_of_ble_eq_true rfl⟩) (preW hK hNW ⟨hCW, hOut⟩ (hLow.at hS (fun q9 h8 h9 => absurd h8 (Nat.not_lt.mpr h9))) (hX.at hS (fun q9 h8 h9 => absurd h8 (Nat.not_lt.mpr h9))) hNC) rfl rfl hl.1 rfl (lv_room (Nat.le_of_ble_eq_true rfl)) dL_law_1416 (rm_ok (by omega) (by omega)))) hS hgC (fun r f1 H1 locs1 hp hB hk hS => ?_)
  obtain ⟨hCW, hOut⟩ := hB
  have hMW := MW_k ha hk (mw_no ha) hMW
  refine lv_istore (lv' := [(5, .int r), (0, .ref b), (1, .ref (a 0)), (2, .ref (a 93)), (3, .ref (a 115)), (4, .int (nI j))]) hx hb dL_law_1419 hl (by decide) rfl (fun ls hl => ?_)
  refine lv_aload_n hx hb dL_law_1421 rfl (lv_at hl 3 rfl) ?_
  refine lv_aload_n hx hb dL_law_1422 rfl (lv_at hl 1 rfl) ?_
  refine lv_iload hx hb dL_law_1423 (lv_at hl 5 rfl) ?_
  refine lv_iconst (v := nI 1) hx hb dL_law_1425 (by decide) ?_
  refine lv_iadd hx hb dL_law_1426 ?_
  refine va_sld hx hb hX0 hbl hbA hS i1 dL_law_1427 ?_
  refine lv_aload_n hx hb dL_law_1428 rfl (lv_at hl 1 rfl) ?_
  refine lv_iload hx hb dL_law_1429 (lv_at hl 5 rfl) ?_
  refine lv_iconst (v := nI 2) hx hb dL_law_1431 (by decide) ?_
  refine lv_iadd hx hb dL_law_1432 ?_
  refine va_sld hx hb hX0 hbl hbA hS i2 dL_law_1433 ?_
  refine lv_aload_n hx hb dL_law_1434 rfl (lv_at hl 1 rfl) ?_
  refine lv_iload hx hb dL_law_1435 (lv_at hl 5 rfl) ?_
  refine lv_iconst (v := nI 3) hx hb dL_law_1437 (by decide) ?_
  refine lv_iadd hx hb dL_law_1438 ?_
  refine va_sld hx hb hX0 hbl hbA hS i3 dL_law_1439 ?_
  refine wr_i (va_runV (As := [.int (xs (nI j + nI 1).toNatClampNeg), .int (xs (nI j + nI 2).toNatClampNeg), .int (xs (nI j + nI 3).toNatClampNeg)]) (rest := []) FX (k_X12_unseen l G a ha st (xs (nI j + nI 1).toNatClampNeg) (xs (nI j + nI 2).toNatClampNeg) (xs (nI j + nI 3).toNatClampNeg) hO) (cwV 3 hts gL_law_X12_unseen rfl rfl rfl (by decide +kernel) ⟨Nat.le_of_ble_eq_true rfl, Nat.le_of_ble_eq_true rfl⟩) (preV hK hNW ⟨th, hMW⟩ (mw_recv hK hMW)) rfl rfl hl.1 rfl (lv_room (Nat.le_of_ble_eq_true rfl)) dL_law_1440 (rm_ok (by omega) (by omega))) hS (rng_ge hA) (fun y u9 H2 locs2 hq hMW hk2 hS => ?_)
  have hCW := CW_k ha hk2 (by omega) hCW
  have hOut : outP G a f1 H2 := kp hk2 hOut (dj_cons (rng_no ha (by omega)) dj_nil)
  refine lv_istore (lv' := [(6, .int y), (5, .int r), (0, .ref b), (1, .ref (a 0)), (2, .ref (a 93)), (3, .ref (a 115)), (4, .int (nI j))]) hx hb dL_law_1443 hl (by decide) rfl (fun ls hl => ?_)
  refine lv_aload_n hx hb dL_law_1445 rfl (lv_at hl 4 rfl) ?_
  obtain ⟨⟨cy, h0⟩, -⟩ := id hMW
  refine ro_i (va_runV (As := []) (rest := []) FX (c_X12_thrown l G a cy (nI (cUns st.1 (xs (nI j + nI 1).toNatClampNeg) (xs (nI j + nI 2).toNatClampNeg) (xs (nI j + nI 3).toNatClampNeg)))) (cwV 0 hts gL_law_X12_thrown rfl rfl rfl (by decide +kernel) ⟨Nat.le_of_ble_eq_true rfl, Nat.le_of_ble_eq_true rfl⟩) (preV hK hNW h0 (mw_recv hK hMW)) rfl rfl hl.1 rfl (lv_room (Nat.le_of_ble_eq_true rfl)) dL_law_1446 (rm_ok (by omega) (by omega))) ?_
  refine lv_iload hx hb dL_law_1449 (lv_at hl 1 rfl) ?_
  refine lv_icmp_eq (tgt := 1456) hx hb dL_law_1451 (by decide) (fun c1 => ?_) (fun c1 => absurd hp.1.symm c1)
  refine lv_iload hx hb dL_law_1456 (lv_at hl 1 rfl) ?_
  have fin := fun (ls : Array Slot) (hl : lv_has ls 7 [(6, .int y), (5, .int r), (0, .ref b), (1, .ref (a 0)), (2, .ref (a 93)), (3, .ref (a 115)), (4, .int (nI j))]) => K _ (nI (cUns st.1 (xs (nI j + nI 1).toNatClampNeg) (xs (nI j + nI 2).toNatClampNeg) (xs (nI j + nI 3).toNatClampNeg))) f1 H2 locs2 ls hO hCW hMW hOut hS (lv_sub hl [2, 3, 4, 5, 6] rfl)
  refine lv_if_ne (tgt := 1473) hx hb dL_law_1458 (by decide) (fun c2 => ?_) (fun c2 => ?_)
  · refine lv_goto (tgt := 1612) hx hb dL_law_1473 (by decide) (wid (by omega) (by omega) (fin _ hl))
  · obtain ⟨x, e1, e2⟩ := hp.2 (z_unseen (st := st) (hp.1.symm.trans c2))
    have e3 := hq (z_unseen (st := st) (hp.1.symm.trans c2))
    have e4 : x = y := e2.trans e3.symm
    refine lv_aload_n hx hb dL_law_1461 rfl (lv_at hl 5 rfl) ?_
    refine lv_iconst (v := nI 0) hx hb dL_law_1462 (by decide) ?_
    refine pp_lald hx hb hK hOut 0 rfl (vp_in_nI (by omega) (by omega)) dL_law_1463 ?_
    refine lv_iload hx hb dL_law_1464 (lv_at hl 0 rfl) ?_
    refine lv_i2l (v := y.toInt64) hx hb dL_law_1466 rfl ?_
    refine W.lcmp hx hb dL_law_1467 ?_
    refine lv_if_eq (tgt := 1473) hx hb dL_law_1468 (by decide) (fun c3 => ?_) (fun c3 => absurd (an_eq e1 e4) c3)
    refine lv_goto (tgt := 1612) hx hb dL_law_1473 (by decide) (wid (by omega) (by omega) (fin _ hl))
theorem z_unlike {st : ST} {p9 v9 : Int32} (h : nI (c2 (cUn st.1 p9 v9)) = nI 0) : cUn st.1 p9 v9 = 0 := by
  revert h; unfold cUn; (repeat' split) <;> intro h <;> first | rfl | exact absurd h (by decide)
set_option maxHeartbeats 4000000 in
set_option maxRecDepth 100000 in
theorem b_unlike {p : Program} {l : Launch} {e : Env} {s : State} {m : MethodId} {below : List Frame} {meth : Method} {c : Code} {b L : Nat} {xs : Nat → Int32} (hfl : l.stackTraces = false) {G : GG} {a : Nat → Nat} {t9 : Nat} (D0 : LC p s m meth c b L xs G a t9) (hL : L ≤ 2560) {st : ST} {th : Int32} {f0 : Nat → Int64} {j C9 S9 : Nat} (hO : OKS st) (hj : j + 4 < L) (hC9 : C9 ≤ 600000) (hS9 : S9 ≤ 7200000) {H : Heap} {locs : List Loc} {ls : Array Slot} (hS : va_S (fun q : Nat => s.heap.size ≤ q) s.heap H locs) (hCW : CW G a st H) (hMW : MW G a st th H) (hOut : outP G a f0 H) (hl : lv_has ls 7 [(0, .ref b), (1, .ref (a 0)), (2, .ref (a 93)), (3, .ref (a 115)), (4, .int (nI j))])
    (K : ∀ (st1 : ST) (th1 : Int32) (f1 : Nat → Int64) (H1 : Heap) (locs1 : List Loc) (ls1 : Array Slot), OKS st1 → CW G a st1 H1 → MW G a st1 th1 H1 → outP G a f1 H1 → va_S (fun q : Nat => s.heap.size ≤ q) s.heap H1 locs1 → lv_has ls1 7 [(0, .ref b), (1, .ref (a 0)), (2, .ref (a 93)), (3, .ref (a 115)), (4, .int (nI j))] → W p l e room_1 s m #[Value.ref b] below meth c H1 locs1 (C9 + 10) (S9 + 100) (lw_Z below #[Value.ref b] s) (F0 m 1612 ls1 [])) : W p l e room_1 s m #[Value.ref b] below meth c H locs C9 S9 (lw_Z below #[Value.ref b] s) (F0 m 1476 ls []) := by
  obtain ⟨⟨hx, hb, hr, hml, hown, hts0, hX0, hbl, hlocks, hgv⟩, ha, hK, hNW, hLow, hX, hNC, hA⟩ := id D0
  have hts : ∀ w ∈ wsL_law, w.before #[Value.ref b] s = true := fun w h => hts0 w (wsL_law_in w h)
  have hbA : ¬ (fun q : Nat => s.heap.size ≤ q) b := Nat.not_le.mpr hbl
  have FX : CallFix p m c cL_law 7 s #[Value.ref b] wsL_law RL := ⟨hx, hb, hml, hown, hts⟩
  have hgC : ∀ q, orA (rng a 0 93) (rng a 115 1) q → s.heap.size ≤ q := fun q h => h.elim (rng_ge hA q) (rng_ge hA q)
  have i1 : vp_in (nI j + nI 1) L := by rw [nI_add]; exact vp_in_nI (by omega) (by omega)
  have i2 : vp_in (nI j + nI 2) L := by rw [nI_add]; exact vp_in_nI (by omega) (by omega)
  refine lv_aload_n hx hb dL_law_1476 rfl (lv_at hl 1 rfl) ?_
  refine lv_aload_n hx hb dL_law_1477 rfl (lv_at hl 0 rfl) ?_
  refine lv_iload hx hb dL_law_1478 (lv_at hl 4 rfl) ?_
  refine lv_iconst (v := nI 1) hx hb dL_law_1480 (by decide) ?_
  refine lv_iadd hx hb dL_law_1481 ?_
  refine va_sld hx hb hX0 hbl hbA hS i1 dL_law_1482 ?_
  refine lv_aload_n hx hb dL_law_1483 rfl (lv_at hl 0 rfl) ?_
  refine lv_iload hx hb dL_law_1484 (lv_at hl 4 rfl) ?_
  refine lv_iconst (v := nI 2) hx hb dL_law_1486 (by decide) ?_
  refine lv_iadd hx hb dL_law_1487 ?_
  refine va_sld hx hb hX0 hbl hbA hS i2 dL_law_1488 ?_
  refine lv_aload_n hx hb dL_law_1489 rfl (lv_at hl 3 rfl) ?_
  refine wr_i (vx_run0 (vx_runSX (As := [.ref (a 0), .int (xs (nI j + nI 1).toNatClampNeg), .int (xs (nI j + nI 2).toNatClampNeg), .ref (a 115)]) (rest := []) FX (w_unlike l hfl G a ha t9 st (xs (nI j + nI 1).toNatClampNeg) (xs (nI j + nI 2).toNatClampNeg) f0 hO) (vx_cwSW 4 hts gL_law_L_unlike rfl rfl rfl (by decide +kernel) ⟨Nat.le_of_ble_eq_true rfl, Nat.le_of_ble_eq_true rfl⟩) (preW hK hNW ⟨hCW, hOut⟩ (hLow.at hS (fun q9 h8 h9 => absurd h8 (Nat.not_lt.mpr h9))) (hX.at hS (fun q9 h8 h9 => absurd h8 (Nat.not_lt.mpr h9))) hNC) rfl rfl hl.1 rfl (lv_room (Nat.le_of_ble_eq_true rfl)) dL_law_1490 (rm_ok (by omega) (by omega)))) hS hgC (fun r f1 H1 locs1 hp hB hk hS => ?_)
  obtain ⟨hCW, hOut⟩ := hB
  have hMW := MW_k ha hk (mw_no ha) hMW
  refine lv_istore (lv' := [(5, .int r), (0, .ref b), (1, .ref (a 0)), (2, .ref (a 93)), (3, .ref (a 115)), (4, .int (nI j))]) hx hb dL_law_1493 hl (by decide) rfl (fun ls hl => ?_)
  refine lv_aload_n hx hb dL_law_1495 rfl (lv_at hl 3 rfl) ?_
  refine lv_aload_n hx hb dL_law_1496 rfl (lv_at hl 1 rfl) ?_
  refine lv_iload hx hb dL_law_1497 (lv_at hl 5 rfl) ?_
  refine lv_iconst (v := nI 1) hx hb dL_law_1499 (by decide) ?_
  refine lv_iadd hx hb dL_law_1500 ?_
  refine va_sld hx hb hX0 hbl hbA hS i1 dL_law_1501 ?_
  refine lv_aload_n hx hb dL_law_1502 rfl (lv_at hl 1 rfl) ?_
  refine lv_iload hx hb dL_law_1503 (lv_at hl 5 rfl) ?_
  refine lv_iconst (v := nI 2) hx hb dL_law_1505 (by decide) ?_
  refine lv_iadd hx hb dL_law_1506 ?_
  refine va_sld hx hb hX0 hbl hbA hS i2 dL_law_1507 ?_
  refine wr_i (va_runV (As := [.int (xs (nI j + nI 1).toNatClampNeg), .int (xs (nI j + nI 2).toNatClampNeg)]) (rest := []) FX (k_X12_unlike l G a ha st (xs (nI j + nI 1).toNatClampNeg) (xs (nI j + nI 2).toNatClampNeg) hO) (cwV 2 hts gL_law_X12_unlike rfl rfl rfl (by decide +kernel) ⟨Nat.le_of_ble_eq_true rfl, Nat.le_of_ble_eq_true rfl⟩) (preV hK hNW ⟨th, hMW⟩ (mw_recv hK hMW)) rfl rfl hl.1 rfl (lv_room (Nat.le_of_ble_eq_true rfl)) dL_law_1508 (rm_ok (by omega) (by omega))) hS (rng_ge hA) (fun y u9 H2 locs2 hq hMW hk2 hS => ?_)
  have hCW := CW_k ha hk2 (by omega) hCW
  have hOut : outP G a f1 H2 := kp hk2 hOut (dj_cons (rng_no ha (by omega)) dj_nil)
  refine lv_istore (lv' := [(6, .int y), (5, .int r), (0, .ref b), (1, .ref (a 0)), (2, .ref (a 93)), (3, .ref (a 115)), (4, .int (nI j))]) hx hb dL_law_1511 hl (by decide) rfl (fun ls hl => ?_)
  refine lv_aload_n hx hb dL_law_1513 rfl (lv_at hl 4 rfl) ?_
  obtain ⟨⟨cy, h0⟩, -⟩ := id hMW
  refine ro_i (va_runV (As := []) (rest := []) FX (c_X12_thrown l G a cy (nI (c2 (cUn st.1 (xs (nI j + nI 1).toNatClampNeg) (xs (nI j + nI 2).toNatClampNeg))))) (cwV 0 hts gL_law_X12_thrown rfl rfl rfl (by decide +kernel) ⟨Nat.le_of_ble_eq_true rfl, Nat.le_of_ble_eq_true rfl⟩) (preV hK hNW h0 (mw_recv hK hMW)) rfl rfl hl.1 rfl (lv_room (Nat.le_of_ble_eq_true rfl)) dL_law_1514 (rm_ok (by omega) (by omega))) ?_
  refine lv_iload hx hb dL_law_1517 (lv_at hl 1 rfl) ?_
  refine lv_icmp_eq (tgt := 1524) hx hb dL_law_1519 (by decide) (fun c1 => ?_) (fun c1 => absurd hp.1.symm c1)
  refine lv_iload hx hb dL_law_1524 (lv_at hl 1 rfl) ?_
  have fin := fun (ls : Array Slot) (hl : lv_has ls 7 [(6, .int y), (5, .int r), (0, .ref b), (1, .ref (a 0)), (2, .ref (a 93)), (3, .ref (a 115)), (4, .int (nI j))]) => K _ (nI (c2 (cUn st.1 (xs (nI j + nI 1).toNatClampNeg) (xs (nI j + nI 2).toNatClampNeg)))) f1 H2 locs2 ls hO hCW hMW hOut hS (lv_sub hl [2, 3, 4, 5, 6] rfl)
  refine lv_if_ne (tgt := 1541) hx hb dL_law_1526 (by decide) (fun c2 => ?_) (fun c2 => ?_)
  · refine lv_goto (tgt := 1612) hx hb dL_law_1541 (by decide) (wid (by omega) (by omega) (fin _ hl))
  · obtain ⟨x, e1, e2⟩ := hp.2 (z_unlike (st := st) (hp.1.symm.trans c2))
    have e3 := hq (z_unlike (st := st) (hp.1.symm.trans c2))
    have e4 : x = y := unS_eq (z_unB hO (z_unlike (st := st) (hp.1.symm.trans c2))) e2 e3
    refine lv_aload_n hx hb dL_law_1529 rfl (lv_at hl 5 rfl) ?_
    refine lv_iconst (v := nI 0) hx hb dL_law_1530 (by decide) ?_
    refine pp_lald hx hb hK hOut 0 rfl (vp_in_nI (by omega) (by omega)) dL_law_1531 ?_
    refine lv_iload hx hb dL_law_1532 (lv_at hl 0 rfl) ?_
    refine lv_i2l (v := y.toInt64) hx hb dL_law_1534 rfl ?_
    refine W.lcmp hx hb dL_law_1535 ?_
    refine lv_if_eq (tgt := 1541) hx hb dL_law_1536 (by decide) (fun c3 => ?_) (fun c3 => absurd (an_eq e1 e4) c3)
    refine lv_goto (tgt := 1612) hx hb dL_law_1541 (by decide) (wid (by omega) (by omega) (fin _ hl))
theorem z_digit {st : ST} {x9 k9 : Int32} (h : nI (cDi x9 k9) = nI 0) : cDi x9 k9 = 0 := by
  revert h; unfold cDi; (repeat' split) <;> intro h <;> first | rfl | exact absurd h (by decide)
set_option maxHeartbeats 4000000 in
set_option maxRecDepth 100000 in
theorem b_digit {p : Program} {l : Launch} {e : Env} {s : State} {m : MethodId} {below : List Frame} {meth : Method} {c : Code} {b L : Nat} {xs : Nat → Int32} (hfl : l.stackTraces = false) {G : GG} {a : Nat → Nat} {t9 : Nat} (D0 : LC p s m meth c b L xs G a t9) (hL : L ≤ 2560) {st : ST} {th : Int32} {f0 : Nat → Int64} {j C9 S9 : Nat} (hO : OKS st) (hj : j + 4 < L) (hC9 : C9 ≤ 600000) (hS9 : S9 ≤ 7200000) {H : Heap} {locs : List Loc} {ls : Array Slot} (hS : va_S (fun q : Nat => s.heap.size ≤ q) s.heap H locs) (hCW : CW G a st H) (hMW : MW G a st th H) (hOut : outP G a f0 H) (hl : lv_has ls 7 [(0, .ref b), (1, .ref (a 0)), (2, .ref (a 93)), (3, .ref (a 115)), (4, .int (nI j))])
    (K : ∀ (st1 : ST) (th1 : Int32) (f1 : Nat → Int64) (H1 : Heap) (locs1 : List Loc) (ls1 : Array Slot), OKS st1 → CW G a st1 H1 → MW G a st1 th1 H1 → outP G a f1 H1 → va_S (fun q : Nat => s.heap.size ≤ q) s.heap H1 locs1 → lv_has ls1 7 [(0, .ref b), (1, .ref (a 0)), (2, .ref (a 93)), (3, .ref (a 115)), (4, .int (nI j))] → W p l e room_1 s m #[Value.ref b] below meth c H1 locs1 (C9 + 10) (S9 + 100) (lw_Z below #[Value.ref b] s) (F0 m 1612 ls1 [])) : W p l e room_1 s m #[Value.ref b] below meth c H locs C9 S9 (lw_Z below #[Value.ref b] s) (F0 m 1544 ls []) := by
  obtain ⟨⟨hx, hb, hr, hml, hown, hts0, hX0, hbl, hlocks, hgv⟩, ha, hK, hNW, hLow, hX, hNC, hA⟩ := id D0
  have hts : ∀ w ∈ wsL_law, w.before #[Value.ref b] s = true := fun w h => hts0 w (wsL_law_in w h)
  have hbA : ¬ (fun q : Nat => s.heap.size ≤ q) b := Nat.not_le.mpr hbl
  have FX : CallFix p m c cL_law 7 s #[Value.ref b] wsL_law RL := ⟨hx, hb, hml, hown, hts⟩
  have hgC : ∀ q, orA (rng a 0 93) (rng a 115 1) q → s.heap.size ≤ q := fun q h => h.elim (rng_ge hA q) (rng_ge hA q)
  have i1 : vp_in (nI j + nI 1) L := by rw [nI_add]; exact vp_in_nI (by omega) (by omega)
  have i2 : vp_in (nI j + nI 2) L := by rw [nI_add]; exact vp_in_nI (by omega) (by omega)
  refine lv_aload_n hx hb dL_law_1544 rfl (lv_at hl 1 rfl) ?_
  refine lv_aload_n hx hb dL_law_1545 rfl (lv_at hl 0 rfl) ?_
  refine lv_iload hx hb dL_law_1546 (lv_at hl 4 rfl) ?_
  refine lv_iconst (v := nI 1) hx hb dL_law_1548 (by decide) ?_
  refine lv_iadd hx hb dL_law_1549 ?_
  refine va_sld hx hb hX0 hbl hbA hS i1 dL_law_1550 ?_
  refine lv_aload_n hx hb dL_law_1551 rfl (lv_at hl 0 rfl) ?_
  refine lv_iload hx hb dL_law_1552 (lv_at hl 4 rfl) ?_
  refine lv_iconst (v := nI 2) hx hb dL_law_1554 (by decide) ?_
  refine lv_iadd hx hb dL_law_1555 ?_
  refine va_sld hx hb hX0 hbl hbA hS i2 dL_law_1556 ?_
  refine lv_aload_n hx hb dL_law_1557 rfl (lv_at hl 3 rfl) ?_
  refine wr_i (vx_run0 (vx_runSX (As := [.ref (a 0), .int (xs (nI j + nI 1).toNatClampNeg), .int (xs (nI j + nI 2).toNatClampNeg), .ref (a 115)]) (rest := []) FX (w_digit l hfl G a ha t9 st (xs (nI j + nI 1).toNatClampNeg) (xs (nI j + nI 2).toNatClampNeg) f0 hO) (vx_cwSW 4 hts gL_law_L_digit rfl rfl rfl (by decide +kernel) ⟨Nat.le_of_ble_eq_true rfl, Nat.le_of_ble_eq_true rfl⟩) (preW hK hNW ⟨hCW, hOut⟩ (hLow.at hS (fun q9 h8 h9 => absurd h8 (Nat.not_lt.mpr h9))) (hX.at hS (fun q9 h8 h9 => absurd h8 (Nat.not_lt.mpr h9))) hNC) rfl rfl hl.1 rfl (lv_room (Nat.le_of_ble_eq_true rfl)) dL_law_1558 (rm_ok (by omega) (by omega)))) hS hgC (fun r f1 H1 locs1 hp hB hk hS => ?_)
  obtain ⟨hCW, hOut⟩ := hB
  have hMW := MW_k ha hk (mw_no ha) hMW
  refine lv_istore (lv' := [(5, .int r), (0, .ref b), (1, .ref (a 0)), (2, .ref (a 93)), (3, .ref (a 115)), (4, .int (nI j))]) hx hb dL_law_1561 hl (by decide) rfl (fun ls hl => ?_)
  refine lv_aload_n hx hb dL_law_1563 rfl (lv_at hl 3 rfl) ?_
  refine lv_aload_n hx hb dL_law_1564 rfl (lv_at hl 1 rfl) ?_
  refine lv_iload hx hb dL_law_1565 (lv_at hl 5 rfl) ?_
  refine lv_iconst (v := nI 1) hx hb dL_law_1567 (by decide) ?_
  refine lv_iadd hx hb dL_law_1568 ?_
  refine va_sld hx hb hX0 hbl hbA hS i1 dL_law_1569 ?_
  refine lv_aload_n hx hb dL_law_1570 rfl (lv_at hl 1 rfl) ?_
  refine lv_iload hx hb dL_law_1571 (lv_at hl 5 rfl) ?_
  refine lv_iconst (v := nI 2) hx hb dL_law_1573 (by decide) ?_
  refine lv_iadd hx hb dL_law_1574 ?_
  refine va_sld hx hb hX0 hbl hbA hS i2 dL_law_1575 ?_
  refine wr_i (va_runV (As := [.int (xs (nI j + nI 1).toNatClampNeg), .int (xs (nI j + nI 2).toNatClampNeg)]) (rest := []) FX (k_X12_digit l G a ha st (xs (nI j + nI 1).toNatClampNeg) (xs (nI j + nI 2).toNatClampNeg) hO) (cwV 2 hts gL_law_X12_digit rfl rfl rfl (by decide +kernel) ⟨Nat.le_of_ble_eq_true rfl, Nat.le_of_ble_eq_true rfl⟩) (preV hK hNW ⟨th, hMW⟩ (mw_recv hK hMW)) rfl rfl hl.1 rfl (lv_room (Nat.le_of_ble_eq_true rfl)) dL_law_1576 (rm_ok (by omega) (by omega))) hS (rng_ge hA) (fun y u9 H2 locs2 hq hMW hk2 hS => ?_)
  have hCW := CW_k ha hk2 (by omega) hCW
  have hOut : outP G a f1 H2 := kp hk2 hOut (dj_cons (rng_no ha (by omega)) dj_nil)
  refine lv_istore (lv' := [(6, .int y), (5, .int r), (0, .ref b), (1, .ref (a 0)), (2, .ref (a 93)), (3, .ref (a 115)), (4, .int (nI j))]) hx hb dL_law_1579 hl (by decide) rfl (fun ls hl => ?_)
  refine lv_aload_n hx hb dL_law_1581 rfl (lv_at hl 4 rfl) ?_
  obtain ⟨⟨cy, h0⟩, -⟩ := id hMW
  refine ro_i (va_runV (As := []) (rest := []) FX (c_X12_thrown l G a cy (nI (cDi (xs (nI j + nI 1).toNatClampNeg) (xs (nI j + nI 2).toNatClampNeg)))) (cwV 0 hts gL_law_X12_thrown rfl rfl rfl (by decide +kernel) ⟨Nat.le_of_ble_eq_true rfl, Nat.le_of_ble_eq_true rfl⟩) (preV hK hNW h0 (mw_recv hK hMW)) rfl rfl hl.1 rfl (lv_room (Nat.le_of_ble_eq_true rfl)) dL_law_1582 (rm_ok (by omega) (by omega))) ?_
  refine lv_iload hx hb dL_law_1585 (lv_at hl 1 rfl) ?_
  refine lv_icmp_eq (tgt := 1592) hx hb dL_law_1587 (by decide) (fun c1 => ?_) (fun c1 => absurd hp.1.symm c1)
  refine lv_iload hx hb dL_law_1592 (lv_at hl 1 rfl) ?_
  have fin := fun (ls : Array Slot) (hl : lv_has ls 7 [(6, .int y), (5, .int r), (0, .ref b), (1, .ref (a 0)), (2, .ref (a 93)), (3, .ref (a 115)), (4, .int (nI j))]) => K _ (nI (cDi (xs (nI j + nI 1).toNatClampNeg) (xs (nI j + nI 2).toNatClampNeg))) f1 H2 locs2 ls hO hCW hMW hOut hS (lv_sub hl [2, 3, 4, 5, 6] rfl)
  refine lv_if_ne (tgt := 1609) hx hb dL_law_1594 (by decide) (fun c2 => ?_) (fun c2 => ?_)
  · refine lv_goto (tgt := 1612) hx hb dL_law_1609 (by decide) (wid (by omega) (by omega) (fin _ hl))
  · obtain ⟨x, e1, e2⟩ := hp.2 (z_digit (st := st) (hp.1.symm.trans c2))
    have e3 := hq (z_digit (st := st) (hp.1.symm.trans c2))
    have e4 : x = y := e2.trans e3.symm
    refine lv_aload_n hx hb dL_law_1597 rfl (lv_at hl 5 rfl) ?_
    refine lv_iconst (v := nI 0) hx hb dL_law_1598 (by decide) ?_
    refine pp_lald hx hb hK hOut 0 rfl (vp_in_nI (by omega) (by omega)) dL_law_1599 ?_
    refine lv_iload hx hb dL_law_1600 (lv_at hl 0 rfl) ?_
    refine lv_i2l (v := y.toInt64) hx hb dL_law_1602 rfl ?_
    refine W.lcmp hx hb dL_law_1603 ?_
    refine lv_if_eq (tgt := 1609) hx hb dL_law_1604 (by decide) (fun c3 => ?_) (fun c3 => absurd (an_eq e1 e4) c3)
    refine lv_goto (tgt := 1612) hx hb dL_law_1609 (by decide) (wid (by omega) (by omega) (fin _ hl))
