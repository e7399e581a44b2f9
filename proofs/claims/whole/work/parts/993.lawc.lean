/-! the law's cases: both are called, both answer alike -/
theorem z_valueAnew {st : ST} {p9 x9 : Int32} (h : nI (cVa p9 x9) = nI 0) : cVa p9 x9 = 0 := by
  revert h; unfold cVa; (repeat' split) <;> intro h <;> first | rfl | exact absurd h (by decide)
set_option maxHeartbeats 4000000 in
set_option maxRecDepth 100000 in
theorem b_valueAnew {p : Program} {l : Launch} {e : Env} {s : State} {m : MethodId} {below : List Frame} {meth : Method} {c : Code} {b L : Nat} {xs : Nat → Int32} (hfl : l.stackTraces = false) {G : GG} {a : Nat → Nat} {t9 : Nat} (D0 : LC p s m meth c b L xs G a t9) (hL : L ≤ 2560) {st : ST} {th : Int32} {f0 : Nat → Int64} {j C9 S9 : Nat} (hO : OKS st) (hj : j + 4 < L) (hC9 : C9 ≤ 600000) (hS9 : S9 ≤ 7200000) {H : Heap} {locs : List Loc} {ls : Array Slot} (hS : va_S (fun q : Nat => s.heap.size ≤ q) s.heap H locs) (hCW : CW G a st H) (hMW : MW G a st th H) (hOut : outP G a f0 H) (hl : lv_has ls 7 [(0, .ref b), (1, .ref (a 0)), (2, .ref (a 93)), (3, .ref (a 115)), (4, .int (nI j))])
    (K : ∀ (st1 : ST) (th1 : Int32) (f1 : Nat → Int64) (H1 : Heap) (locs1 : List Loc) (ls1 : Array Slot), OKS st1 → CW G a st1 H1 → MW G a st1 th1 H1 → outP G a f1 H1 → va_S (fun q : Nat => s.heap.size ≤ q) s.heap H1 locs1 → lv_has ls1 7 [(0, .ref b), (1, .ref (a 0)), (2, .ref (a 93)), (3, .ref (a 115)), (4, .int (nI j))] → W p l e room_1 s m #[Value.ref b] below meth c H1 locs1 (C9 + 10) (S9 + 100) (lw_Z below #[Value.ref b] s) (F0 m 1612 ls1 [])) : W p l e room_1 s m #[Value.ref b] below meth c H locs C9 S9 (lw_Z below #[Value.ref b] s) (F0 m 860 ls []) := by
  obtain ⟨⟨hx, hb, hr, hml, hown, hts0, hX0, hbl, hlocks, hgv⟩, ha, hK, hNW, hLow, hX, hNC, hA⟩ := id D0
  have hts : ∀ w ∈ wsL_law, w.before #[Value.ref b] s = true := fun w h => hts0 w (wsL_law_in w h)
  have hbA : ¬ (fun q : Nat => s.heap.size ≤ q) b := Nat.not_le.mpr hbl
  have FX : CallFix p m c cL_law 7 s #[Value.ref b] wsL_law RL := ⟨hx, hb, hml, hown, hts⟩
  have hgC : ∀ q, orA (rng a 0 93) (rng a 115 1) q → s.heap.size ≤ q := fun q h => h.elim (rng_ge hA q) (rng_ge hA q)
  have i1 : vp_in (nI j + nI 1) L := by rw [nI_add]; exact vp_in_nI (by omega) (by omega)
  have i2 : vp_in (nI j + nI 2) L := by rw [nI_add]; exact vp_in_nI (by omega) (by omega)
  refine lv_aload_n hx hb dL_law_860 rfl (lv_at hl 1 rfl) ?_
  refine lv_aload_n hx hb dL_law_861 rfl (lv_at hl 0 rfl) ?_
  refine lv_iload hx hb dL_law_862 (lv_at hl 4 rfl) ?_
  refine lv_iconst (v := nI 1) hx hb dL_law_864 (by decide) ?_
  refine lv_iadd hx hb dL_law_865 ?_
  refine va_sld hx hb hX0 hbl hbA hS i1 dL_law_866 ?_
  refine lv_aload_n hx hb dL_law_867 rfl (lv_at hl 0 rfl) ?_
  refine lv_iload hx hb dL_law_868 (lv_at hl 4 rfl) ?_
  refine lv_iconst (v := nI 2) hx hb dL_law_870 (by decide) ?_
  refine lv_iadd hx hb dL_law_871 ?_
  refine va_sld hx hb hX0 hbl hbA hS i2 dL_law_872 ?_
  refine lv_aload_n hx hb dL_law_873 rfl (lv_at hl 3 rfl) ?_
  refine wr_i (vx_run0 (vx_runSX (As := [.ref (a 0), .int (xs (nI j + nI 1).toNatClampNeg), .int (xs (nI j + nI 2).toNatClampNeg), .ref (a 115)]) (rest := []) FX (w_valueAnew l hfl G a ha t9 st (xs (nI j + nI 1).toNatClampNeg) (xs (nI j + nI 2).toNatClampNeg) f0 hO) (vx_cwSW 4 hts gL_law_L_valueAnew rfl rfl rfl (by decide +kernel) ⟨Nat.le_of_ble_eq_true rfl, Nat.le_of_ble_eq_true rfl⟩) (preW hK hNW ⟨hCW, hOut⟩ (hLow.at hS (fun q9 h8 h9 => absurd h8 (Nat.not_lt.mpr h9))) (hX.at hS (fun q9 h8 h9 => absurd h8 (Nat.not_lt.mpr h9))) hNC) rfl rfl hl.1 rfl (lv_room (Nat.le_of_ble_eq_true rfl)) dL_law_874 (rm_ok (by omega) (by omega)))) hS hgC (fun r f1 H1 locs1 hp hB hk hS => ?_)
  obtain ⟨hCW, hOut⟩ := hB
  have hMW := MW_k ha hk (mw_no ha) hMW
  refine lv_istore (lv' := [(5, .int r), (0, .ref b), (1, .ref (a 0)), (2, .ref (a 93)), (3, .ref (a 115)), (4, .int (nI j))]) hx hb dL_law_877 hl (by decide) rfl (fun ls hl => ?_)
  refine lv_aload_n hx hb dL_law_879 rfl (lv_at hl 3 rfl) ?_
  refine lv_aload_n hx hb dL_law_880 rfl (lv_at hl 1 rfl) ?_
  refine lv_iload hx hb dL_law_881 (lv_at hl 5 rfl) ?_
  refine lv_iconst (v := nI 1) hx hb dL_law_883 (by decide) ?_
  refine lv_iadd hx hb dL_law_884 ?_
  refine va_sld hx hb hX0 hbl hbA hS i1 dL_law_885 ?_
  refine lv_aload_n hx hb dL_law_886 rfl (lv_at hl 1 rfl) ?_
  refine lv_iload hx hb dL_law_887 (lv_at hl 5 rfl) ?_
  refine lv_iconst (v := nI 2) hx hb dL_law_889 (by decide) ?_
  refine lv_iadd hx hb dL_law_890 ?_
  refine va_sld hx hb hX0 hbl hbA hS i2 dL_law_891 ?_
  refine wr_i (va_runV (As := [.int (xs (nI j + nI 1).toNatClampNeg), .int (xs (nI j + nI 2).toNatClampNeg)]) (rest := []) FX (k_X12_valueAnew l G a ha st (xs (nI j + nI 1).toNatClampNeg) (xs (nI j + nI 2).toNatClampNeg) hO) (cwV 2 hts gL_law_X12_valueAnew rfl rfl rfl (by decide +kernel) ⟨Nat.le_of_ble_eq_true rfl, Nat.le_of_ble_eq_true rfl⟩) (preV hK hNW ⟨th, hMW⟩ (mw_recv hK hMW)) rfl rfl hl.1 rfl (lv_room (Nat.le_of_ble_eq_true rfl)) dL_law_892 (rm_ok (by omega) (by omega))) hS (rng_ge hA) (fun y u9 H2 locs2 hq hMW hk2 hS => ?_)
  have hCW := CW_k ha hk2 (by omega) hCW
  have hOut : outP G a f1 H2 := kp hk2 hOut (dj_cons (rng_no ha (by omega)) dj_nil)
  refine lv_istore (lv' := [(6, .int y), (5, .int r), (0, .ref b), (1, .ref (a 0)), (2, .ref (a 93)), (3, .ref (a 115)), (4, .int (nI j))]) hx hb dL_law_895 hl (by decide) rfl (fun ls hl => ?_)
  refine lv_aload_n hx hb dL_law_897 rfl (lv_at hl 4 rfl) ?_
  obtain ⟨⟨cy, h0⟩, -⟩ := id hMW
  refine ro_i (va_runV (As := []) (rest := []) FX (c_X12_thrown l G a cy (nI (cVa (xs (nI j + nI 1).toNatClampNeg) (xs (nI j + nI 2).toNatClampNeg)))) (cwV 0 hts gL_law_X12_thrown rfl rfl rfl (by decide +kernel) ⟨Nat.le_of_ble_eq_true rfl, Nat.le_of_ble_eq_true rfl⟩) (preV hK hNW h0 (mw_recv hK hMW)) rfl rfl hl.1 rfl (lv_room (Nat.le_of_ble_eq_true rfl)) dL_law_898 (rm_ok (by omega) (by omega))) ?_
  refine lv_iload hx hb dL_law_901 (lv_at hl 1 rfl) ?_
  refine lv_icmp_eq (tgt := 908) hx hb dL_law_903 (by decide) (fun c1 => ?_) (fun c1 => absurd hp.1.symm c1)
  refine lv_iload hx hb dL_law_908 (lv_at hl 1 rfl) ?_
  have fin := fun (ls : Array Slot) (hl : lv_has ls 7 [(6, .int y), (5, .int r), (0, .ref b), (1, .ref (a 0)), (2, .ref (a 93)), (3, .ref (a 115)), (4, .int (nI j))]) => K _ (nI (cVa (xs (nI j + nI 1).toNatClampNeg) (xs (nI j + nI 2).toNatClampNeg))) f1 H2 locs2 ls hO hCW hMW hOut hS (lv_sub hl [2, 3, 4, 5, 6] rfl)
  refine lv_if_ne (tgt := 925) hx hb dL_law_910 (by decide) (fun c2 => ?_) (fun c2 => ?_)
  · refine lv_goto (tgt := 1612) hx hb dL_law_925 (by decide) (wid (by omega) (by omega) (fin _ hl))
  · obtain ⟨x, e1, e2⟩ := hp.2 (z_valueAnew (st := st) (hp.1.symm.trans c2))
    have e3 := hq (z_valueAnew (st := st) (hp.1.symm.trans c2))
    have e4 : x = y := e2.trans e3.symm
    refine lv_aload_n hx hb dL_law_913 rfl (lv_at hl 5 rfl) ?_
    refine lv_iconst (v := nI 0) hx hb dL_law_914 (by decide) ?_
    refine pp_lald hx hb hK hOut 0 rfl (vp_in_nI (by omega) (by omega)) dL_law_915 ?_
    refine lv_iload hx hb dL_law_916 (lv_at hl 0 rfl) ?_
    refine lv_i2l (v := y.toInt64) hx hb dL_law_918 rfl ?_
    refine W.lcmp hx hb dL_law_919 ?_
    refine lv_if_eq (tgt := 925) hx hb dL_law_920 (by decide) (fun c3 => ?_) (fun c3 => absurd (an_eq e1 e4) c3)
    refine lv_goto (tgt := 1612) hx hb dL_law_925 (by decide) (wid (by omega) (by omega) (fin _ hl))
theorem z_ofNet {st : ST} {p9 w9 : Int32} (h : nI (cOf p9 w9) = nI 0) : cOf p9 w9 = 0 := by
  revert h; unfold cOf; (repeat' split) <;> intro h <;> first | rfl | exact absurd h (by decide)
set_option maxHeartbeats 4000000 in
set_option maxRecDepth 100000 in
theorem b_ofNet {p : Program} {l : Launch} {e : Env} {s : State} {m : MethodId} {below : List Frame} {meth : Method} {c : Code} {b L : Nat} {xs : Nat → Int32} (hfl : l.stackTraces = false) {G : GG} {a : Nat → Nat} {t9 : Nat} (D0 : LC p s m meth c b L xs G a t9) (hL : L ≤ 2560) {st : ST} {th : Int32} {f0 : Nat → Int64} {j C9 S9 : Nat} (hO : OKS st) (hj : j + 4 < L) (hC9 : C9 ≤ 600000) (hS9 : S9 ≤ 7200000) {H : Heap} {locs : List Loc} {ls : Array Slot} (hS : va_S (fun q : Nat => s.heap.size ≤ q) s.heap H locs) (hCW : CW G a st H) (hMW : MW G a st th H) (hOut : outP G a f0 H) (hl : lv_has ls 7 [(0, .ref b), (1, .ref (a 0)), (2, .ref (a 93)), (3, .ref (a 115)), (4, .int (nI j))])
    (K : ∀ (st1 : ST) (th1 : Int32) (f1 : Nat → Int64) (H1 : Heap) (locs1 : List Loc) (ls1 : Array Slot), OKS st1 → CW G a st1 H1 → MW G a st1 th1 H1 → outP G a f1 H1 → va_S (fun q : Nat => s.heap.size ≤ q) s.heap H1 locs1 → lv_has ls1 7 [(0, .ref b), (1, .ref (a 0)), (2, .ref (a 93)), (3, .ref (a 115)), (4, .int (nI j))] → W p l e room_1 s m #[Value.ref b] below meth c H1 locs1 (C9 + 10) (S9 + 100) (lw_Z below #[Value.ref b] s) (F0 m 1612 ls1 [])) : W p l e room_1 s m #[Value.ref b] below meth c H locs C9 S9 (lw_Z below #[Value.ref b] s) (F0 m 928 ls []) := by
  obtain ⟨⟨hx, hb, hr, hml, hown, hts0, hX0, hbl, hlocks, hgv⟩, ha, hK, hNW, hLow, hX, hNC, hA⟩ := id D0
  have hts : ∀ w ∈ wsL_law, w.before #[Value.ref b] s = true := fun w h => hts0 w (wsL_law_in w h)
  have hbA : ¬ (fun q : Nat => s.heap.size ≤ q) b := Nat.not_le.mpr hbl
  have FX : CallFix p m c cL_law 7 s #[Value.ref b] wsL_law RL := ⟨hx, hb, hml, hown, hts⟩
  have hgC : ∀ q, orA (rng a 0 93) (rng a 115 1) q → s.heap.size ≤ q := fun q h => h.elim (rng_ge hA q) (rng_ge hA q)
  have i1 : vp_in (nI j + nI 1) L := by rw [nI_add]; exact vp_in_nI (by omega) (by omega)
  have i2 : vp_in (nI j + nI 2) L := by rw [nI_add]; exact vp_in_nI (by omega) (by omega)
  refine lv_aload_n hx hb dL_law_928 rfl (lv_at hl 1 rfl) ?_
  refine lv_aload_n hx hb dL_law_929 rfl (lv_at hl 0 rfl) ?_
  refine lv_iload hx hb dL_law_930 (lv_at hl 4 rfl) ?_
  refine lv_iconst (v := nI 1) hx hb dL_law_932 (by decide) ?_
  refine lv_iadd hx hb dL_law_933 ?_
  refine va_sld hx hb hX0 hbl hbA hS i1 dL_law_934 ?_
  refine lv_aload_n hx hb dL_law_935 rfl (lv_at hl 0 rfl) ?_
  refine lv_iload hx hb dL_law_936 (lv_at hl 4 rfl) ?_
  refine lv_iconst (v := nI 2) hx hb dL_law_938 (by decide) ?_
  refine lv_iadd hx hb dL_law_939 ?_
  refine va_sld hx hb hX0 hbl hbA hS i2 dL_law_940 ?_
  refine lv_aload_n hx hb dL_law_941 rfl (lv_at hl 3 rfl) ?_
  refine wr_i (vx_run0 (vx_runSX (As := [.ref (a 0), .int (xs (nI j + nI 1).toNatClampNeg), .int (xs (nI j + nI 2).toNatClampNeg), .ref (a 115)]) (rest := []) FX (w_ofNet l hfl G a ha t9 st (xs (nI j + nI 1).toNatClampNeg) (xs (nI j + nI 2).toNatClampNeg) f0 hO) (vx_cwSW 4 hts gL_law_L_ofNet rfl rfl rfl (by decide +kernel) ⟨Nat.le_of_ble_eq_true rfl, Nat.le_of_ble_eq_true rfl⟩) (preW hK hNW ⟨hCW, hOut⟩ (hLow.at hS (fun q9 h8 h9 => absurd h8 (Nat.not_lt.mpr h9))) (hX.at hS (fun q9 h8 h9 => absurd h8 (Nat.not_lt.mpr h9))) hNC) rfl rfl hl.1 rfl (lv_room (Nat.le_of_ble_eq_true rfl)) dL_law_942 (rm_ok (by omega) (by omega)))) hS hgC (fun r f1 H1 locs1 hp hB hk hS => ?_)
  obtain ⟨hCW, hOut⟩ := hB
  have hMW := MW_k ha hk (mw_no ha) hMW
  refine lv_istore (lv' := [(5, .int r), (0, .ref b), (1, .ref (a 0)), (2, .ref (a 93)), (3, .ref (a 115)), (4, .int (nI j))]) hx hb dL_law_945 hl (by decide) rfl (fun ls hl => ?_)
  refine lv_aload_n hx hb dL_law_947 rfl (lv_at hl 3 rfl) ?_
  refine lv_aload_n hx hb dL_law_948 rfl (lv_at hl 1 rfl) ?_
  refine lv_iload hx hb dL_law_949 (lv_at hl 5 rfl) ?_
  refine lv_iconst (v := nI 1) hx hb dL_law_951 (by decide) ?_
  refine lv_iadd hx hb dL_law_952 ?_
  refine va_sld hx hb hX0 hbl hbA hS i1 dL_law_953 ?_
  refine lv_aload_n hx hb dL_law_954 rfl (lv_at hl 1 rfl) ?_
  refine lv_iload hx hb dL_law_955 (lv_at hl 5 rfl) ?_
  refine lv_iconst (v := nI 2) hx hb dL_law_957 (by decide) ?_
  refine lv_iadd hx hb dL_law_958 ?_
  refine va_sld hx hb hX0 hbl hbA hS i2 dL_law_959 ?_
  refine wr_i (va_runV (As := [.int (xs (nI j + nI 1).toNatClampNeg), .int (xs (nI j + nI 2).toNatClampNeg)]) (rest := []) FX (k_X12_ofNet l G a ha st (xs (nI j + nI 1).toNatClampNeg) (xs (nI j + nI 2).toNatClampNeg) hO) (cwV 2 hts gL_law_X12_ofNet rfl rfl rfl (by decide +kernel) ⟨Nat.le_of_ble_eq_true rfl, Nat.le_of_ble_eq_true rfl⟩) (preV hK hNW ⟨th, hMW⟩ (mw_recv hK hMW)) rfl rfl hl.1 rfl (lv_room (Nat.le_of_ble_eq_true rfl)) dL_law_960 (rm_ok (by omega) (by omega))) hS (rng_ge hA) (fun y u9 H2 locs2 hq hMW hk2 hS => ?_)
  have hCW := CW_k ha hk2 (by omega) hCW
  have hOut : outP G a f1 H2 := kp hk2 hOut (dj_cons (rng_no ha (by omega)) dj_nil)
  refine lv_istore (lv' := [(6, .int y), (5, .int r), (0, .ref b), (1, .ref (a 0)), (2, .ref (a 93)), (3, .ref (a 115)), (4, .int (nI j))]) hx hb dL_law_963 hl (by decide) rfl (fun ls hl => ?_)
  refine lv_aload_n hx hb dL_law_965 rfl (lv_at hl 4 rfl) ?_
  obtain ⟨⟨cy, h0⟩, -⟩ := id hMW
  refine ro_i (va_runV (As := []) (rest := []) FX (c_X12_thrown l G a cy (nI (cOf (xs (nI j + nI 1).toNatClampNeg) (xs (nI j + nI 2).toNatClampNeg)))) (cwV 0 hts gL_law_X12_thrown rfl rfl rfl (by decide +kernel) ⟨Nat.le_of_ble_eq_true rfl, Nat.le_of_ble_eq_true rfl⟩) (preV hK hNW h0 (mw_recv hK hMW)) rfl rfl hl.1 rfl (lv_room (Nat.le_of_ble_eq_true rfl)) dL_law_966 (rm_ok (by omega) (by omega))) ?_
  refine lv_iload hx hb dL_law_969 (lv_at hl 1 rfl) ?_
  refine lv_icmp_eq (tgt := 976) hx hb dL_law_971 (by decide) (fun c1 => ?_) (fun c1 => absurd hp.1.symm c1)
  refine lv_iload hx hb dL_law_976 (lv_at hl 1 rfl) ?_
  have fin := fun (ls : Array Slot) (hl : lv_has ls 7 [(6, .int y), (5, .int r), (0, .ref b), (1, .ref (a 0)), (2, .ref (a 93)), (3, .ref (a 115)), (4, .int (nI j))]) => K _ (nI (cOf (xs (nI j + nI 1).toNatClampNeg) (xs (nI j + nI 2).toNatClampNeg))) f1 H2 locs2 ls hO hCW hMW hOut hS (lv_sub hl [2, 3, 4, 5, 6] rfl)
  refine lv_if_ne (tgt := 993) hx hb dL_law_978 (by decide) (fun c2 => ?_) (fun c2 => ?_)
  · refine lv_goto (tgt := 1612) hx hb dL_law_993 (by decide) (wid (by omega) (by omega) (fin _ hl))
  · obtain ⟨x, e1, e2⟩ := hp.2 (z_ofNet (st := st) (hp.1.symm.trans c2))
    have e3 := hq (z_ofNet (st := st) (hp.1.symm.trans c2))
    have e4 : x = y := e2.trans e3.symm
    refine lv_aload_n hx hb dL_law_981 rfl (lv_at hl 5 rfl) ?_
    refine lv_iconst (v := nI 0) hx hb dL_law_982 (by decide) ?_
    refine pp_lald hx hb hK hOut 0 rfl (vp_in_nI (by omega) (by omega)) dL_law_983 ?_
    refine lv_iload hx hb dL_law_984 (lv_at hl 0 rfl) ?_
    refine lv_i2l (v := y.toInt64) hx hb dL_law_986 rfl ?_
    refine W.lcmp hx hb dL_law_987 ?_
    refine lv_if_eq (tgt := 993) hx hb dL_law_988 (by decide) (fun c3 => ?_) (fun c3 => absurd (an_eq e1 e4) c3)
    refine lv_goto (tgt := 1612) hx hb dL_law_993 (by decide) (wid (by omega) (by omega) (fin _ hl))
theorem z_time {st : ST} {p9 g9 : Int32} (h : nI (cTi st.1 p9 g9) = nI 0) : cTi st.1 p9 g9 = 0 := by
  revert h; unfold cTi; (repeat' split) <;> intro h <;> first | rfl | exact absurd h (by decide)
set_option maxHeartbeats 4000000 in
set_option maxRecDepth 100000 in
theorem b_time {p : Program} {l : Launch} {e : Env} {s : State} {m : MethodId} {below : List Frame} {meth : Method} {c : Code} {b L : Nat} {xs : Nat → Int32} (hfl : l.stackTraces = false) {G : GG} {a : Nat → Nat} {t9 : Nat} (D0 : LC p s m meth c b L xs G a t9) (hL : L ≤ 2560) {st : ST} {th : Int32} {f0 : Nat → Int64} {j C9 S9 : Nat} (hO : OKS st) (hj : j + 4 < L) (hC9 : C9 ≤ 600000) (hS9 : S9 ≤ 7200000) {H : Heap} {locs : List Loc} {ls : Array Slot} (hS : va_S (fun q : Nat => s.heap.size ≤ q) s.heap H locs) (hCW : CW G a st H) (hMW : MW G a st th H) (hOut : outP G a f0 H) (hl : lv_has ls 7 [(0, .ref b), (1, .ref (a 0)), (2, .ref (a 93)), (3, .ref (a 115)), (4, .int (nI j))])
    (K : ∀ (st1 : ST) (th1 : Int32) (f1 : Nat → Int64) (H1 : Heap) (locs1 : List Loc) (ls1 : Array Slot), OKS st1 → CW G a st1 H1 → MW G a st1 th1 H1 → outP G a f1 H1 → va_S (fun q : Nat => s.heap.size ≤ q) s.heap H1 locs1 → lv_has ls1 7 [(0, .ref b), (1, .ref (a 0)), (2, .ref (a 93)), (3, .ref (a 115)), (4, .int (nI j))] → W p l e room_1 s m #[Value.ref b] below meth c H1 locs1 (C9 + 10) (S9 + 100) (lw_Z below #[Value.ref b] s) (F0 m 1612 ls1 [])) : W p l e room_1 s m #[Value.ref b] below meth c H locs C9 S9 (lw_Z below #[Value.ref b] s) (F0 m 996 ls []) := by
  obtain ⟨⟨hx, hb, hr, hml, hown, hts0, hX0, hbl, hlocks, hgv⟩, ha, hK, hNW, hLow, hX, hNC, hA⟩ := id D0
  have hts : ∀ w ∈ wsL_law, w.before #[Value.ref b] s = true := fun w h => hts0 w (wsL_law_in w h)
  have hbA : ¬ (fun q : Nat => s.heap.size ≤ q) b := Nat.not_le.mpr hbl
  have FX : CallFix p m c cL_law 7 s #[Value.ref b] wsL_law RL := ⟨hx, hb, hml, hown, hts⟩
  have hgC : ∀ q, orA (rng a 0 93) (rng a 115 1) q → s.heap.size ≤ q := fun q h => h.elim (rng_ge hA q) (rng_ge hA q)
  have i1 : vp_in (nI j + nI 1) L := by rw [nI_add]; exact vp_in_nI (by omega) (by omega)
  have i2 : vp_in (nI j + nI 2) L := by rw [nI_add]; exact vp_in_nI (by omega) (by omega)
  refine lv_aload_n hx hb dL_law_996 rfl (lv_at hl 1 rfl) ?_
  refine lv_aload_n hx hb dL_law_997 rfl (lv_at hl 0 rfl) ?_
  refine lv_iload hx hb dL_law_998 (lv_at hl 4 rfl) ?_
  refine lv_iconst (v := nI 1) hx hb dL_law_1000 (by decide) ?_
  refine lv_iadd hx hb dL_law_1001 ?_
  refine va_sld hx hb hX0 hbl hbA hS i1 dL_law_1002 ?_
  refine lv_aload_n hx hb dL_law_1003 rfl (lv_at hl 0 rfl) ?_
  refine lv_iload hx hb dL_law_1004 (lv_at hl 4 rfl) ?_
  refine lv_iconst (v := nI 2) hx hb dL_law_1006 (by decide) ?_
  refine lv_iadd hx hb dL_law_1007 ?_
  refine va_sld hx hb hX0 hbl hbA hS i2 dL_law_1008 ?_
  refine lv_aload_n hx hb dL_law_1009 rfl (lv_at hl 3 rfl) ?_
  refine wr_i (vx_run0 (vx_runSX (As := [.ref (a 0), .int (xs (nI j + nI 1).toNatClampNeg), .int (xs (nI j + nI 2).toNatClampNeg), .ref (a 115)]) (rest := []) FX (w_time l hfl G a ha t9 st (xs (nI j + nI 1).toNatClampNeg) (xs (nI j + nI 2).toNatClampNeg) f0 hO) (vx_cwSW 4 hts gL_law_L_time rfl rfl rfl (by decide +kernel) ⟨Nat.le_of_ble_eq_true rfl, Nat.le_of_ble_eq_true rfl⟩) (preW hK hNW ⟨hCW, hOut⟩ (hLow.at hS (fun q9 h8 h9 => absurd h8 (Nat.not_lt.mpr h9))) (hX.at hS (fun q9 h8 h9 => absurd h8 (Nat.not_lt.mpr h9))) hNC) rfl rfl hl.1 rfl (lv_room (Nat.le_of_ble_eq_true rfl)) dL_law_1010 (rm_ok (by omega) (by omega)))) hS hgC (fun r f1 H1 locs1 hp hB hk hS => ?_)
  obtain ⟨hCW, hOut⟩ := hB
  have hMW := MW_k ha hk (mw_no ha) hMW
  refine lv_istore (lv' := [(5, .int r), (0, .ref b), (1, .ref (a 0)), (2, .ref (a 93)), (3, .ref (a 115)), (4, .int (nI j))]) hx hb dL_law_1013 hl (by decide) rfl (fun ls hl => ?_)
  refine lv_aload_n hx hb dL_law_1015 rfl (lv_at hl 3 rfl) ?_
  refine lv_aload_n hx hb dL_law_1016 rfl (lv_at hl 1 rfl) ?_
  refine lv_iload hx hb dL_law_1017 (lv_at hl 5 rfl) ?_
  refine lv_iconst (v := nI 1) hx hb dL_law_1019 (by decide) ?_
  refine lv_iadd hx hb dL_law_1020 ?_
  refine va_sld hx hb hX0 hbl hbA hS i1 dL_law_1021 ?_
  refine lv_aload_n hx hb dL_law_1022 rfl (lv_at hl 1 rfl) ?_
  refine lv_iload hx hb dL_law_1023 (lv_at hl 5 rfl) ?_
  refine lv_iconst (v := nI 2) hx hb dL_law_1025 (by decide) ?_
  refine lv_iadd hx hb dL_law_1026 ?_
  refine va_sld hx hb hX0 hbl hbA hS i2 dL_law_1027 ?_
  refine wr_i (va_runV (As := [.int (xs (nI j + nI 1).toNatClampNeg), .int (xs (nI j + nI 2).toNatClampNeg)]) (rest := []) FX (k_X12_time l G a ha st (xs (nI j + nI 1).toNatClampNeg) (xs (nI j + nI 2).toNatClampNeg) hO) (cwV 2 hts gL_law_X12_time rfl rfl rfl (by decide +kernel) ⟨Nat.le_of_ble_eq_true rfl, Nat.le_of_ble_eq_true rfl⟩) (preV hK hNW ⟨th, hMW⟩ (mw_recv hK hMW)) rfl rfl hl.1 rfl (lv_room (Nat.le_of_ble_eq_true rfl)) dL_law_1028 (rm_ok (by omega) (by omega))) hS (rng_ge hA) (fun y u9 H2 locs2 hq hMW hk2 hS => ?_)
  have hCW := CW_k ha hk2 (by omega) hCW
  have hOut : outP G a f1 H2 := kp hk2 hOut (dj_cons (rng_no ha (by omega)) dj_nil)
  refine lv_istore (lv' := [(6, .int y), (5, .int r), (0, .ref b), (1, .ref (a 0)), (2, .ref (a 93)), (3, .ref (a 115)), (4, .int (nI j))]) hx hb dL_law_1031 hl (by decide) rfl (fun ls hl => ?_)
  refine lv_aload_n hx hb dL_law_1033 rfl (lv_at hl 4 rfl) ?_
  obtain ⟨⟨cy, h0⟩, -⟩ := id hMW
  refine ro_i (va_runV (As := []) (rest := []) FX (c_X12_thrown l G a cy (nI (cTi st.1 (xs (nI j + nI 1).toNatClampNeg) (xs (nI j + nI 2).toNatClampNeg)))) (cwV 0 hts gL_law_X12_thrown rfl rfl rfl (by decide +kernel) ⟨Nat.le_of_ble_eq_true rfl, Nat.le_of_ble_eq_true rfl⟩) (preV hK hNW h0 (mw_recv hK hMW)) rfl rfl hl.1 rfl (lv_room (Nat.le_of_ble_eq_true rfl)) dL_law_1034 (rm_ok (by omega) (by omega))) ?_
  refine lv_iload hx hb dL_law_1037 (lv_at hl 1 rfl) ?_
  refine lv_icmp_eq (tgt := 1044) hx hb dL_law_1039 (by decide) (fun c1 => ?_) (fun c1 => absurd hp.1.symm c1)
  refine lv_iload hx hb dL_law_1044 (lv_at hl 1 rfl) ?_
  have fin := fun (ls : Array Slot) (hl : lv_has ls 7 [(6, .int y), (5, .int r), (0, .ref b), (1, .ref (a 0)), (2, .ref (a 93)), (3, .ref (a 115)), (4, .int (nI j))]) => K _ (nI (cTi st.1 (xs (nI j + nI 1).toNatClampNeg) (xs (nI j + nI 2).toNatClampNeg))) f1 H2 locs2 ls hO hCW hMW hOut hS (lv_sub hl [2, 3, 4, 5, 6] rfl)
  refine lv_if_ne (tgt := 1061) hx hb dL_law_1046 (by decide) (fun c2 => ?_) (fun c2 => ?_)
  · refine lv_goto (tgt := 1612) hx hb dL_law_1061 (by decide) (wid (by omega) (by omega) (fin _ hl))
  · obtain ⟨x, e1, e2⟩ := hp.2 (z_time (st := st) (hp.1.symm.trans c2))
    have e3 := hq (z_time (st := st) (hp.1.symm.trans c2))
    have e4 : x = y := e2.trans e3.symm
    refine lv_aload_n hx hb dL_law_1049 rfl (lv_at hl 5 rfl) ?_
    refine lv_iconst (v := nI 0) hx hb dL_law_1050 (by decide) ?_
    refine pp_lald hx hb hK hOut 0 rfl (vp_in_nI (by omega) (by omega)) dL_law_1051 ?_
    refine lv_iload hx hb dL_law_1052 (lv_at hl 0 rfl) ?_
    refine lv_i2l (v := y.toInt64) hx hb dL_law_1054 rfl ?_
    refine W.lcmp hx hb dL_law_1055 ?_
    refine lv_if_eq (tgt := 1061) hx hb dL_law_1056 (by decide) (fun c3 => ?_) (fun c3 => absurd (an_eq e1 e4) c3)
    refine lv_goto (tgt := 1612) hx hb dL_law_1061 (by decide) (wid (by omega) (by omega) (fin _ hl))
theorem z_path {st : ST} {p9 x9 : Int32} (h : nI (cPa p9 x9) = nI 0) : cPa p9 x9 = 0 := by
  revert h; unfold cPa; (repeat' split) <;> intro h <;> first | rfl | exact absurd h (by decide)
set_option maxHeartbeats 4000000 in
set_option maxRecDepth 100000 in
theorem b_path {p : Program} {l : Launch} {e : Env} {s : State} {m : MethodId} {below : List Frame} {meth : Method} {c : Code} {b L : Nat} {xs : Nat → Int32} (hfl : l.stackTraces = false) {G : GG} {a : Nat → Nat} {t9 : Nat} (D0 : LC p s m meth c b L xs G a t9) (hL : L ≤ 2560) {st : ST} {th : Int32} {f0 : Nat → Int64} {j C9 S9 : Nat} (hO : OKS st) (hj : j + 4 < L) (hC9 : C9 ≤ 600000) (hS9 : S9 ≤ 7200000) {H : Heap} {locs : List Loc} {ls : Array Slot} (hS : va_S (fun q : Nat => s.heap.size ≤ q) s.heap H locs) (hCW : CW G a st H) (hMW : MW G a st th H) (hOut : outP G a f0 H) (hl : lv_has ls 7 [(0, .ref b), (1, .ref (a 0)), (2, .ref (a 93)), (3, .ref (a 115)), (4, .int (nI j))])
    (K : ∀ (st1 : ST) (th1 : Int32) (f1 : Nat → Int64) (H1 : Heap) (locs1 : List Loc) (ls1 : Array Slot), OKS st1 → CW G a st1 H1 → MW G a st1 th1 H1 → outP G a f1 H1 → va_S (fun q : Nat => s.heap.size ≤ q) s.heap H1 locs1 → lv_has ls1 7 [(0, .ref b), (1, .ref (a 0)), (2, .ref (a 93)), (3, .ref (a 115)), (4, .int (nI j))] → W p l e room_1 s m #[Value.ref b] below meth c H1 locs1 (C9 + 10) (S9 + 100) (lw_Z below #[Value.ref b] s) (F0 m 1612 ls1 [])) : W p l e room_1 s m #[Value.ref b] below meth c H locs C9 S9 (lw_Z below #[Value.ref b] s) (F0 m 1064 ls []) := by
  obtain ⟨⟨hx, hb, hr, hml, hown, hts0, hX0, hbl, hlocks, hgv⟩, ha, hK, hNW, hLow, hX, hNC, hA⟩ := id D0
  have hts : ∀ w ∈ wsL_law, w.before #[Value.ref b] s = true := fun w h => hts0 w (wsL_law_in w h)
  have hbA : ¬ (fun q : Nat => s.heap.size ≤ q) b := Nat.not_le.mpr hbl
  have FX : CallFix p m c cL_law 7 s #[Value.ref b] wsL_law RL := ⟨hx, hb, hml, hown, hts⟩
  have hgC : ∀ q, orA (rng a 0 93) (rng a 115 1) q → s.heap.size ≤ q := fun q h => h.elim (rng_ge hA q) (rng_ge hA q)
  have i1 : vp_in (nI j + nI 1) L := by rw [nI_add]; exact vp_in_nI (by omega) (by omega)
  have i2 : vp_in (nI j + nI 2) L := by rw [nI_add]; exact vp_in_nI (by omega) (by omega)
  refine lv_aload_n hx hb dL_law_1064 rfl (lv_at hl 1 rfl) ?_
  refine lv_aload_n hx hb dL_law_1065 rfl (lv_at hl 0 rfl) ?_
  refine lv_iload hx hb dL_law_1066 (lv_at hl 4 rfl) ?_
  refine lv_iconst (v := nI 1) hx hb dL_law_1068 (by decide) ?_
  refine lv_iadd hx hb dL_law_1069 ?_
  refine va_sld hx hb hX0 hbl hbA hS i1 dL_law_1070 ?_
  refine lv_aload_n hx hb dL_law_1071 rfl (lv_at hl 0 rfl) ?_
  refine lv_iload hx hb dL_law_1072 (lv_at hl 4 rfl) ?_
  refine lv_iconst (v := nI 2) hx hb dL_law_1074 (by decide) ?_
  refine lv_iadd hx hb dL_law_1075 ?_
  refine va_sld hx hb hX0 hbl hbA hS i2 dL_law_1076 ?_
  refine lv_aload_n hx hb dL_law_1077 rfl (lv_at hl 3 rfl) ?_
  refine wr_i (vx_run0 (vx_runSX (As := [.ref (a 0), .int (xs (nI j + nI 1).toNatClampNeg), .int (xs (nI j + nI 2).toNatClampNeg), .ref (a 115)]) (rest := []) FX (w_path l hfl G a ha t9 st (xs (nI j + nI 1).toNatClampNeg) (xs (nI j + nI 2).toNatClampNeg) f0 hO) (vx_cwSW 4 hts gL_law_L_path rfl rfl rfl (by decide +kernel) ⟨Nat.le_of_ble_eq_true rfl, Nat.le_of_ble_eq_true rfl⟩) (preW hK hNW ⟨hCW, hOut⟩ (hLow.at hS (fun q9 h8 h9 => absurd h8 (Nat.not_lt.mpr h9))) (hX.at hS (fun q9 h8 h9 => absurd h8 (Nat.not_lt.mpr h9))) hNC) rfl rfl hl.1 rfl (lv_room (Nat.le_of_ble_eq_true rfl)) dL_law_1078 (rm_ok (by omega) (by omega)))) hS hgC (fun r f1 H1 locs1 hp hB hk hS => ?_)
  obtain ⟨hCW, hOut⟩ := hB
  have hMW := MW_k ha hk (mw_no ha) hMW
  refine lv_istore (lv' := [(5, .int r), (0, .ref b), (1, .ref (a 0)), (2, .ref (a 93)), (3, .ref (a 115)), (4, .int (nI j))]) hx hb dL_law_1081 hl (by decide) rfl (fun ls hl => ?_)
  refine lv_aload_n hx hb dL_law_1083 rfl (lv_at hl 3 rfl) ?_
  refine lv_aload_n hx hb dL_law_1084 rfl (lv_at hl 1 rfl) ?_
  refine lv_iload hx hb dL_law_1085 (lv_at hl 5 rfl) ?_
  refine lv_iconst (v := nI 1) hx hb dL_law_1087 (by decide) ?_
  refine lv_iadd hx hb dL_law_1088 ?_
  refine va_sld hx hb hX0 hbl hbA hS i1 dL_law_1089 ?_
  refine lv_aload_n hx hb dL_law_1090 rfl (lv_at hl 1 rfl) ?_
  refine lv_iload hx hb dL_law_1091 (lv_at hl 5 rfl) ?_
  refine lv_iconst (v := nI 2) hx hb dL_law_1093 (by decide) ?_
  refine lv_iadd hx hb dL_law_1094 ?_
  refine va_sld hx hb hX0 hbl hbA hS i2 dL_law_1095 ?_
  refine wr_i (va_runV (As := [.int (xs (nI j + nI 1).toNatClampNeg), .int (xs (nI j + nI 2).toNatClampNeg)]) (rest := []) FX (k_X12_path l G a ha st (xs (nI j + nI 1).toNatClampNeg) (xs (nI j + nI 2).toNatClampNeg) hO) (cwV 2 hts gL_law_X12_path rfl rfl rfl (by decide +kernel) ⟨Nat.le_of_ble_eq_true rfl, Nat.le_of_ble_eq_true rfl⟩) (preV hK hNW ⟨th, hMW⟩ (mw_recv hK hMW)) rfl rfl hl.1 rfl (lv_room (Nat.le_of_ble_eq_true rfl)) dL_law_1096 (rm_ok (by omega) (by omega))) hS (rng_ge hA) (fun y u9 H2 locs2 hq hMW hk2 hS => ?_)
  have hCW := CW_k ha hk2 (by omega) hCW
  have hOut : outP G a f1 H2 := kp hk2 hOut (dj_cons (rng_no ha (by omega)) dj_nil)
  refine lv_istore (lv' := [(6, .int y), (5, .int r), (0, .ref b), (1, .ref (a 0)), (2, .ref (a 93)), (3, .ref (a 115)), (4, .int (nI j))]) hx hb dL_law_1099 hl (by decide) rfl (fun ls hl => ?_)
  refine lv_aload_n hx hb dL_law_1101 rfl (lv_at hl 4 rfl) ?_
  obtain ⟨⟨cy, h0⟩, -⟩ := id hMW
  refine ro_i (va_runV (As := []) (rest := []) FX (c_X12_thrown l G a cy (nI (cPa (xs (nI j + nI 1).toNatClampNeg) (xs (nI j + nI 2).toNatClampNeg)))) (cwV 0 hts gL_law_X12_thrown rfl rfl rfl (by decide +kernel) ⟨Nat.le_of_ble_eq_true rfl, Nat.le_of_ble_eq_true rfl⟩) (preV hK hNW h0 (mw_recv hK hMW)) rfl rfl hl.1 rfl (lv_room (Nat.le_of_ble_eq_true rfl)) dL_law_1102 (rm_ok (by omega) (by omega))) ?_
  refine lv_iload hx hb dL_law_1105 (lv_at hl 1 rfl) ?_
  refine lv_icmp_eq (tgt := 1112) hx hb dL_law_1107 (by decide) (fun c1 => ?_) (fun c1 => absurd hp.1.symm c1)
  refine lv_iload hx hb dL_law_1112 (lv_at hl 1 rfl) ?_
  have fin := fun (ls : Array Slot) (hl : lv_has ls 7 [(6, .int y), (5, .int r), (0, .ref b), (1, .ref (a 0)), (2, .ref (a 93)), (3, .ref (a 115)), (4, .int (nI j))]) => K _ (nI (cPa (xs (nI j + nI 1).toNatClampNeg) (xs (nI j + nI 2).toNatClampNeg))) f1 H2 locs2 ls hO hCW hMW hOut hS (lv_sub hl [2, 3, 4, 5, 6] rfl)
  refine lv_if_ne (tgt := 1129) hx hb dL_law_1114 (by decide) (fun c2 => ?_) (fun c2 => ?_)
  · refine lv_goto (tgt := 1612) hx hb dL_law_1129 (by decide) (wid (by omega) (by omega) (fin _ hl))
  · obtain ⟨x, e1, e2⟩ := hp.2 (z_path (st := st) (hp.1.symm.trans c2))
    have e3 := hq (z_path (st := st) (hp.1.symm.trans c2))
    have e4 : x = y := e2.trans e3.symm
    refine lv_aload_n hx hb dL_law_1117 rfl (lv_at hl 5 rfl) ?_
    refine lv_iconst (v := nI 0) hx hb dL_law_1118 (by decide) ?_
    refine pp_lald hx hb hK hOut 0 rfl (vp_in_nI (by omega) (by omega)) dL_law_1119 ?_
    refine lv_iload hx hb dL_law_1120 (lv_at hl 0 rfl) ?_
    refine lv_i2l (v := y.toInt64) hx hb dL_law_1122 rfl ?_
    refine W.lcmp hx hb dL_law_1123 ?_
    refine lv_if_eq (tgt := 1129) hx hb dL_law_1124 (by decide) (fun c3 => ?_) (fun c3 => absurd (an_eq e1 e4) c3)
    refine lv_goto (tgt := 1612) hx hb dL_law_1129 (by decide) (wid (by omega) (by omega) (fin _ hl))
theorem z_changes {st : ST} {p9 f9 v9 w9 : Int32} (h : nI (cCh p9 f9 v9 w9) = nI 0) : cCh p9 f9 v9 w9 = 0 := by
  revert h; unfold cCh; (repeat' split) <;> intro h <;> first | rfl | exact absurd h (by decide)
set_option maxHeartbeats 4000000 in
set_option maxRecDepth 100000 in
theorem b_changes {p : Program} {l : Launch} {e : Env} {s : State} {m : MethodId} {below : List Frame} {meth : Method} {c : Code} {b L : Nat} {xs : Nat → Int32} (hfl : l.stackTraces = false) {G : GG} {a : Nat → Nat} {t9 : Nat} (D0 : LC p s m meth c b L xs G a t9) (hL : L ≤ 2560) {st : ST} {th : Int32} {f0 : Nat → Int64} {j C9 S9 : Nat} (hO : OKS st) (hj : j + 4 < L) (hC9 : C9 ≤ 600000) (hS9 : S9 ≤ 7200000) {H : Heap} {locs : List Loc} {ls : Array Slot} (hS : va_S (fun q : Nat => s.heap.size ≤ q) s.heap H locs) (hCW : CW G a st H) (hMW : MW G a st th H) (hOut : outP G a f0 H) (hl : lv_has ls 7 [(0, .ref b), (1, .ref (a 0)), (2, .ref (a 93)), (3, .ref (a 115)), (4, .int (nI j))])
    (K : ∀ (st1 : ST) (th1 : Int32) (f1 : Nat → Int64) (H1 : Heap) (locs1 : List Loc) (ls1 : Array Slot), OKS st1 → CW G a st1 H1 → MW G a st1 th1 H1 → outP G a f1 H1 → va_S (fun q : Nat => s.heap.size ≤ q) s.heap H1 locs1 → lv_has ls1 7 [(0, .ref b), (1, .ref (a 0)), (2, .ref (a 93)), (3, .ref (a 115)), (4, .int (nI j))] → W p l e room_1 s m #[Value.ref b] below meth c H1 locs1 (C9 + 10) (S9 + 100) (lw_Z below #[Value.ref b] s) (F0 m 1612 ls1 [])) : W p l e room_1 s m #[Value.ref b] below meth c H locs C9 S9 (lw_Z below #[Value.ref b] s) (F0 m 1132 ls []) := by
  obtain ⟨⟨hx, hb, hr, hml, hown, hts0, hX0, hbl, hlocks, hgv⟩, ha, hK, hNW, hLow, hX, hNC, hA⟩ := id D0
  have hts : ∀ w ∈ wsL_law, w.before #[Value.ref b] s = true := fun w h => hts0 w (wsL_law_in w h)
  have hbA : ¬ (fun q : Nat => s.heap.size ≤ q) b := Nat.not_le.mpr hbl
  have FX : CallFix p m c cL_law 7 s #[Value.ref b] wsL_law RL := ⟨hx, hb, hml, hown, hts⟩
  have hgC : ∀ q, orA (rng a 0 93) (rng a 115 1) q → s.heap.size ≤ q := fun q h => h.elim (rng_ge hA q) (rng_ge hA q)
  have i1 : vp_in (nI j + nI 1) L := by rw [nI_add]; exact vp_in_nI (by omega) (by omega)
  have i2 : vp_in (nI j + nI 2) L := by rw [nI_add]; exact vp_in_nI (by omega) (by omega)
  have i3 : vp_in (nI j + nI 3) L := by rw [nI_add]; exact vp_in_nI (by omega) (by omega)
  have i4 : vp_in (nI j + nI 4) L := by rw [nI_add]; exact vp_in_nI (by omega) (by omega)
  refine lv_aload_n hx hb dL_law_1132 rfl (lv_at hl 1 rfl) ?_
  refine lv_aload_n hx hb dL_law_1133 rfl (lv_at hl 0 rfl) ?_
  refine lv_iload hx hb dL_law_1134 (lv_at hl 4 rfl) ?_
  refine lv_iconst (v := nI 1) hx hb dL_law_1136 (by decide) ?_
  refine lv_iadd hx hb dL_law_1137 ?_
  refine va_sld hx hb hX0 hbl hbA hS i1 dL_law_1138 ?_
  refine lv_aload_n hx hb dL_law_1139 rfl (lv_at hl 0 rfl) ?_
  refine lv_iload hx hb dL_law_1140 (lv_at hl 4 rfl) ?_
  refine lv_iconst (v := nI 2) hx hb dL_law_1142 (by decide) ?_
  refine lv_iadd hx hb dL_law_1143 ?_
  refine va_sld hx hb hX0 hbl hbA hS i2 dL_law_1144 ?_
  refine lv_aload_n hx hb dL_law_1145 rfl (lv_at hl 0 rfl) ?_
  refine lv_iload hx hb dL_law_1146 (lv_at hl 4 rfl) ?_
  refine lv_iconst (v := nI 3) hx hb dL_law_1148 (by decide) ?_
  refine lv_iadd hx hb dL_law_1149 ?_
  refine va_sld hx hb hX0 hbl hbA hS i3 dL_law_1150 ?_
  refine lv_aload_n hx hb dL_law_1151 rfl (lv_at hl 0 rfl) ?_
  refine lv_iload hx hb dL_law_1152 (lv_at hl 4 rfl) ?_
  refine lv_iconst (v := nI 4) hx hb dL_law_1154 (by decide) ?_
  refine lv_iadd hx hb dL_law_1155 ?_
  refine va_sld hx hb hX0 hbl hbA hS i4 dL_law_1156 ?_
  refine lv_aload_n hx hb dL_law_1157 rfl (lv_at hl 3 rfl) ?_
  refine wr_i (vx_run0 (vx_runSX (As := [.ref (a 0), .int (xs (nI j + nI 1).toNatClampNeg), .int (xs (nI j + nI 2).toNatClampNeg), .int (xs (nI j + nI 3).toNatClampNeg), .int (xs (nI j + nI 4).toNatClampNeg), .ref (a 115)]) (rest := []) FX (w_changes l hfl G a ha t9 st (xs (nI j + nI 1).toNatClampNeg) (xs (nI j + nI 2).toNatClampNeg) (xs (nI j + nI 3).toNatClampNeg) (xs (nI j + nI 4).toNatClampNeg) f0 hO) (vx_cwSW 6 hts gL_law_L_changes rfl rfl rfl (by decide +kernel) ⟨Nat.le_of_ble_eq_true rfl, Nat.le_of_ble_eq_true rfl⟩) (preW hK hNW ⟨hCW, hOut⟩ (hLow.at hS (fun q9 h8 h9 => absurd h8 (Nat.not_lt.mpr h9))) (hX.at hS (fun q9 h8 h9 => absurd h8 (Nat.not_lt.mpr h9))) hNC) rfl rfl hl.1 rfl (lv_room (Nat.le_of_ble_eq_true rfl)) dL_law_1158 (rm_ok (by omega) (by omega)))) hS hgC (fun r f1 H1 locs1 hp hB hk hS => ?_)
  obtain ⟨hCW, hOut⟩ := hB
  have hMW := MW_k ha hk (mw_no ha) hMW
  refine lv_istore (lv' := [(5, .int r), (0, .ref b), (1, .ref (a 0)), (2, .ref (a 93)), (3, .ref (a 115)), (4, .int (nI j))]) hx hb dL_law_1161 hl (by decide) rfl (fun ls hl => ?_)
  refine lv_aload_n hx hb dL_law_1163 rfl (lv_at hl 3 rfl) ?_
  refine lv_aload_n hx hb dL_law_1164 rfl (lv_at hl 1 rfl) ?_
  refine lv_iload hx hb dL_law_1165 (lv_at hl 5 rfl) ?_
  refine lv_iconst (v := nI 1) hx hb dL_law_1167 (by decide) ?_
  refine lv_iadd hx hb dL_law_1168 ?_
  refine va_sld hx hb hX0 hbl hbA hS i1 dL_law_1169 ?_
  refine lv_aload_n hx hb dL_law_1170 rfl (lv_at hl 1 rfl) ?_
  refine lv_iload hx hb dL_law_1171 (lv_at hl 5 rfl) ?_
  refine lv_iconst (v := nI 2) hx hb dL_law_1173 (by decide) ?_
  refine lv_iadd hx hb dL_law_1174 ?_
  refine va_sld hx hb hX0 hbl hbA hS i2 dL_law_1175 ?_
  refine lv_aload_n hx hb dL_law_1176 rfl (lv_at hl 1 rfl) ?_
  refine lv_iload hx hb dL_law_1177 (lv_at hl 5 rfl) ?_
  refine lv_iconst (v := nI 3) hx hb dL_law_1179 (by decide) ?_
  refine lv_iadd hx hb dL_law_1180 ?_
  refine va_sld hx hb hX0 hbl hbA hS i3 dL_law_1181 ?_
  refine lv_aload_n hx hb dL_law_1182 rfl (lv_at hl 1 rfl) ?_
  refine lv_iload hx hb dL_law_1183 (lv_at hl 5 rfl) ?_
  refine lv_iconst (v := nI 4) hx hb dL_law_1185 (by decide) ?_
  refine lv_iadd hx hb dL_law_1186 ?_
  refine va_sld hx hb hX0 hbl hbA hS i4 dL_law_1187 ?_
  refine wr_i (va_runV (As := [.int (xs (nI j + nI 1).toNatClampNeg), .int (xs (nI j + nI 2).toNatClampNeg), .int (xs (nI j + nI 3).toNatClampNeg), .int (xs (nI j + nI 4).toNatClampNeg)]) (rest := []) FX (k_X12_changes l G a ha st (xs (nI j + nI 1).toNatClampNeg) (xs (nI j + nI 2).toNatClampNeg) (xs (nI j + nI 3).toNatClampNeg) (xs (nI j + nI 4).toNatClampNeg) hO) (cwV 4 hts gL_law_X12_changes rfl rfl rfl (by decide +kernel) ⟨Nat.le_of_ble_eq_true rfl, Nat.le_of_ble_eq_true rfl⟩) (preV hK hNW ⟨th, hMW⟩ (mw_recv hK hMW)) rfl rfl hl.1 rfl (lv_room (Nat.le_of_ble_eq_true rfl)) dL_law_1188 (rm_ok (by omega) (by omega))) hS (rng_ge hA) (fun y u9 H2 locs2 hq hMW hk2 hS => ?_)
  have hCW := CW_k ha hk2 (by omega) hCW
  have hOut : outP G a f1 H2 := kp hk2 hOut (dj_cons (rng_no ha (by omega)) dj_nil)
  refine lv_istore (lv' := [(6, .int y), (5, .int r), (0, .ref b), (1, .ref (a 0)), (2, .ref (a 93)), (3, .ref (a 115)), (4, .int (nI j))]) hx hb dL_law_1191 hl (by decide) rfl (fun ls hl => ?_)
  refine lv_aload_n hx hb dL_law_1193 rfl (lv_at hl 4 rfl) ?_
  obtain ⟨⟨cy, h0⟩, -⟩ := id hMW
  refine ro_i (va_runV (As := []) (rest := []) FX (c_X12_thrown l G a cy (nI (cCh (xs (nI j + nI 1).toNatClampNeg) (xs (nI j + nI 2).toNatClampNeg) (xs (nI j + nI 3).toNatClampNeg) (xs (nI j + nI 4).toNatClampNeg)))) (cwV 0 hts gL_law_X12_thrown rfl rfl rfl (by decide +kernel) ⟨Nat.le_of_ble_eq_true rfl, Nat.le_of_ble_eq_true rfl⟩) (preV hK hNW h0 (mw_recv hK hMW)) rfl rfl hl.1 rfl (lv_room (Nat.le_of_ble_eq_true rfl)) dL_law_1194 (rm_ok (by omega) (by omega))) ?_
  refine lv_iload hx hb dL_law_1197 (lv_at hl 1 rfl) ?_
  refine lv_icmp_eq (tgt := 1204) hx hb dL_law_1199 (by decide) (fun c1 => ?_) (fun c1 => absurd hp.1.symm c1)
  refine lv_iload hx hb dL_law_1204 (lv_at hl 1 rfl) ?_
  have fin := fun (ls : Array Slot) (hl : lv_has ls 7 [(6, .int y), (5, .int r), (0, .ref b), (1, .ref (a 0)), (2, .ref (a 93)), (3, .ref (a 115)), (4, .int (nI j))]) => K _ (nI (cCh (xs (nI j + nI 1).toNatClampNeg) (xs (nI j + nI 2).toNatClampNeg) (xs (nI j + nI 3).toNatClampNeg) (xs (nI j + nI 4).toNatClampNeg))) f1 H2 locs2 ls hO hCW hMW hOut hS (lv_sub hl [2, 3, 4, 5, 6] rfl)
  refine lv_if_ne (tgt := 1221) hx hb dL_law_1206 (by decide) (fun c2 => ?_) (fun c2 => ?_)
  · refine lv_goto (tgt := 1612) hx hb dL_law_1221 (by decide) (wid (by omega) (by omega) (fin _ hl))
  · obtain ⟨x, e1, e2⟩ := hp.2 (z_changes (st := st) (hp.1.symm.trans c2))
    have e3 := hq (z_changes (st := st) (hp.1.symm.trans c2))
    have e4 : x = y := e2.trans e3.symm
    refine lv_aload_n hx hb dL_law_1209 rfl (lv_at hl 5 rfl) ?_
    refine lv_iconst (v := nI 0) hx hb dL_law_1210 (by decide) ?_
    refine pp_lald hx hb hK hOut 0 rfl (vp_in_nI (by omega) (by omega)) dL_law_1211 ?_
    refine lv_iload hx hb dL_law_1212 (lv_at hl 0 rfl) ?_
    refine lv_i2l (v := y.toInt64) hx hb dL_law_1214 rfl ?_
    refine W.lcmp hx hb dL_law_1215 ?_
    refine lv_if_eq (tgt := 1221) hx hb dL_law_1216 (by decide) (fun c3 => ?_) (fun c3 => absurd (an_eq e1 e4) c3)
    refine lv_goto (tgt := 1612) hx hb dL_law_1221 (by decide) (wid (by omega) (by omega) (fin _ hl))
