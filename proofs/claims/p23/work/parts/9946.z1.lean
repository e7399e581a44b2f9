/-! closed states and what is so of them -/
def z0 : ST := st0
theorem oz0 : OKS z0 := ok_st0
def Kz0 : KN := ([], [])
theorem rp_z0_2 : Rp (z0.1 2) Kz0 0 0 := rp_ct (by decide +kernel)
theorem of_z0_2_0 : ofV (z0.1 2) z0.2.1 z0.2.2 0 = nI 0 := of_0 rp_z0_2.1
theorem ni_z0_2 : nIn (z0.1 2) = 0 := by decide +kernel
theorem of_z0_2_1 : ofV (z0.1 2) z0.2.1 z0.2.2 1 = nI 0 := of_1 ni_z0_2
theorem of_z0_2_2 : ofV (z0.1 2) z0.2.1 z0.2.2 2 = nI 0 := of_2 rp_z0_2.2.1
theorem of_z0_2_3 : ofV (z0.1 2) z0.2.1 z0.2.2 3 = nI 0 := of_3 (area_ct rp_z0_2 (by decide +kernel))
def Tz0 : List Nat := []
theorem tm_z0_2B : tmB Kz0 0 z0.2.1 Tz0 = true := by decide +kernel
theorem tm_z0_2 : ∀ k, k < nG (z0.1 2) → tm (z0.1 2) z0.2.1 k = Tz0.getD k 0 := fun k hk => tm_ct (oz0.1 2 (by decide)) rp_z0_2 tm_z0_2B (k + 1) k (Nat.lt_succ_self k) hk
theorem of_z0_2_4 : ofV (z0.1 2) z0.2.1 z0.2.2 4 = nI 0 := of_4 (dly_ct (oz0.1 2 (by decide)) rp_z0_2 tm_z0_2 (by decide +kernel))
theorem of_z0_2_6 : ofV (z0.1 2) z0.2.1 z0.2.2 6 = nI 0 := of_6 (idle_ct rp_z0_2 (by decide +kernel))
theorem of_z0_2_5 : ofV (z0.1 2) z0.2.1 z0.2.2 5 = nI 0 := of_5 (load_ct (oz0.1 2 (by decide)) rp_z0_2 (by decide +kernel))
theorem vl_z0_2_1073741823 : vl (z0.1 2) 1073741823 = nI 0 := vl1_ct (B := 0) (oz0.1 2 (by decide)) rp_z0_2 (by decide +kernel) (by decide +kernel)
def Pz1 : List Nat := []
theorem pt_z0_2 : ∀ m, pt (z0.1 2) z0.2.1 m = Pz1[m]? := pt_ct (oz0.1 2 (by decide)) rp_z0_2 tm_z0_2 (show pthB Kz0 0 0 z0.2.1 Tz0 Pz1 0 = true by decide +kernel)
theorem pa_z0_2_0 : paV (z0.1 2) z0.2.1 (nI 0) = -1 := (pa_ct pt_z0_2 (by decide)).trans (by decide)
theorem pa_z0_2_1 : paV (z0.1 2) z0.2.1 (nI 1) = -1 := (pa_ct pt_z0_2 (by decide)).trans (by decide)
theorem pa_z0_2_2 : paV (z0.1 2) z0.2.1 (nI 2) = -1 := (pa_ct pt_z0_2 (by decide)).trans (by decide)
theorem pa_z0_2_3 : paV (z0.1 2) z0.2.1 (nI 3) = -1 := (pa_ct pt_z0_2 (by decide)).trans (by decide)
theorem pa_z0_2_4 : paV (z0.1 2) z0.2.1 (nI 4) = -1 := (pa_ct pt_z0_2 (by decide)).trans (by decide)
def Vz2 : List Nat := []
theorem ch_z0_2_0_9 : tkV (z0.1 2) z0.2.1 0 9 (mxT (z0.1 2) z0.2.1 (nG (z0.1 2)) + 1) 0 = 0 ∧ tkV (z0.1 2) z0.2.1 0 9 (mxT (z0.1 2) z0.2.1 (nG (z0.1 2)) + 1) 1 = 0 ∧ tkV (z0.1 2) z0.2.1 0 9 (mxT (z0.1 2) z0.2.1 (nG (z0.1 2)) + 1) 2 = 0 := chg_ct (B0 := 0) (B1 := 0) (q := 1) (mask := 1) (T := Tz0) (V := Vz2) (oz0.1 2 (by decide)) rp_z0_2 tm_z0_2B (by decide +kernel) (by decide +kernel) (by decide +kernel) (by decide +kernel) (by decide +kernel) (by decide +kernel) (by decide +kernel) (by decide +kernel)
theorem rp_z0_1 : Rp (z0.1 1) Kz0 0 0 := rp_ct (by decide +kernel)
def PATz0 : List Nat := []
theorem pat_PATz0 : paB 0 1 PATz0 = true := by decide +kernel
def Bz3 : List Nat := []
theorem tt_z0_1 : ∀ num, num < 1 → ∀ m k, k < m → k < nG (z0.1 1) → bt (z0.1 1) num k = (Bz3.getD k 0).testBit num := fun num hn => tt_ct (i := 0) (q := 1) (mask := 1) (Pt := PATz0) (T := Bz3) (oz0.1 1 (by decide)) rp_z0_1 (by decide +kernel) pat_PATz0 (by decide +kernel) hn
theorem tt_z0_2 : ∀ num, num < 1 → ∀ m k, k < m → k < nG (z0.1 2) → bt (z0.1 2) num k = (Bz3.getD k 0).testBit num := fun num hn => tt_ct (i := 0) (q := 1) (mask := 1) (Pt := PATz0) (T := Bz3) (oz0.1 2 (by decide)) rp_z0_2 (by decide +kernel) pat_PATz0 (by decide +kernel) hn
theorem ni_z0_1 : nIn (z0.1 1) = 0 := by decide +kernel
theorem ul_z0_1_2_d : ∀ x, x < 1 → dfT (z0.1 1) (z0.1 2) x 16 = dfK (obK Kz0 0 Bz3 x) (obK Kz0 0 Bz3 x) 16 := fun x hx => (df_c (f := obK Kz0 0 Bz3 x) (g := obK Kz0 0 Bz3 x) (ob_ct (oz0.1 1 (by decide)) rp_z0_1 tt_z0_1 hx) (ob_ct (oz0.1 2 (by decide)) rp_z0_2 tt_z0_2 hx) 16)
theorem ul_z0_1_2_c : allU (fun x => !dfK (obK Kz0 0 Bz3 x) (obK Kz0 0 Bz3 x) 16) 1 = true := by decide +kernel
theorem ul_z0_1_2 {r : Int32} (h : unS (z0.1 1) (z0.1 2) (2 ^ nIn (z0.1 1)) r) : r = -1 := uns_m h (fun x hx => by
  rw [ni_z0_1] at hx
  have hx : x < 1 := hx
  rw [ul_z0_1_2_d x hx]
  exact notT (allU_at ul_z0_1_2_c hx))
def z1 : ST := adS z0 0 0 2
theorem oz1 : OKS z1 := okn_adder oz0 (by decide) (by decide) (by decide) (by decide +kernel)
def Kz1 : KN := ([(4, 0, 0, 0), (4, 0, 0, 0), (4, 0, 0, 0), (4, 0, 0, 0), (2, 0, 2, 0), (0, 0, 2, 0), (2, 1, 3, 0), (2, 6, 5, 0), (0, 1, 3, 0), (0, 6, 5, 0), (1, 8, 9, 0)], [4, 7, 10])
theorem rp_z1_0 : Rp (z1.1 0) Kz1 11 3 := rp_ct (by decide +kernel)
theorem of_z1_0_0 : ofV (z1.1 0) z1.2.1 z1.2.2 0 = nI 11 := of_0 rp_z1_0.1
theorem ni_z1_0 : nIn (z1.1 0) = 4 := by decide +kernel
theorem of_z1_0_1 : ofV (z1.1 0) z1.2.1 z1.2.2 1 = nI 4 := of_1 ni_z1_0
theorem of_z1_0_2 : ofV (z1.1 0) z1.2.1 z1.2.2 2 = nI 3 := of_2 rp_z1_0.2.1
theorem of_z1_0_3 : ofV (z1.1 0) z1.2.1 z1.2.2 3 = nI 7 := of_3 (area_ct rp_z1_0 (by decide +kernel))
def Tz4 : List Nat := [0, 0, 0, 0, 1, 1, 1, 2, 1, 2, 3]
theorem tm_z1_0B : tmB Kz1 11 z1.2.1 Tz4 = true := by decide +kernel
theorem tm_z1_0 : ∀ k, k < nG (z1.1 0) → tm (z1.1 0) z1.2.1 k = Tz4.getD k 0 := fun k hk => tm_ct (oz1.1 0 (by decide)) rp_z1_0 tm_z1_0B (k + 1) k (Nat.lt_succ_self k) hk
theorem of_z1_0_4 : ofV (z1.1 0) z1.2.1 z1.2.2 4 = nI 3 := of_4 (dly_ct (oz1.1 0 (by decide)) rp_z1_0 tm_z1_0 (by decide +kernel))
theorem of_z1_0_6 : ofV (z1.1 0) z1.2.1 z1.2.2 6 = nI 0 := of_6 (idle_ct rp_z1_0 (by decide +kernel))
theorem of_z1_0_5 : ofV (z1.1 0) z1.2.1 z1.2.2 5 = nI 2 := of_5 (load_ct (oz1.1 0 (by decide)) rp_z1_0 (by decide +kernel))
theorem vl_z1_0_7 : vl (z1.1 0) 7 = nI 4 := vl1_ct (B := 1639) (oz1.1 0 (by decide)) rp_z1_0 (by decide +kernel) (by decide +kernel)
theorem vl_z1_0_15 : vl (z1.1 0) 15 = nI 6 := vl1_ct (B := 1455) (oz1.1 0 (by decide)) rp_z1_0 (by decide +kernel) (by decide +kernel)
theorem vl_z1_0_1073741808 : vl (z1.1 0) 1073741808 = nI 0 := vl1_ct (B := 0) (oz1.1 0 (by decide)) rp_z1_0 (by decide +kernel) (by decide +kernel)
theorem ti_z1_0_10 : nI (tm (z1.1 0) z1.2.1 10) = nI 3 := congrArg nI ((tm_z1_0 10 (by rw [rp_z1_0.1]; decide)).trans (by decide))
theorem ti_z1_0_7 : nI (tm (z1.1 0) z1.2.1 7) = nI 2 := congrArg nI ((tm_z1_0 7 (by rw [rp_z1_0.1]; decide)).trans (by decide))
theorem ti_z1_0_3 : nI (tm (z1.1 0) z1.2.1 3) = nI 0 := congrArg nI ((tm_z1_0 3 (by rw [rp_z1_0.1]; decide)).trans (by decide))
def Pz5 : List Nat := [10, 9, 6, 1]
theorem pt_z1_0 : ∀ m, pt (z1.1 0) z1.2.1 m = Pz5[m]? := pt_ct (oz1.1 0 (by decide)) rp_z1_0 tm_z1_0 (show pthB Kz1 11 3 z1.2.1 Tz4 Pz5 4 = true by decide +kernel)
theorem pa_z1_0_0 : paV (z1.1 0) z1.2.1 (nI 0) = nI 10 := (pa_ct pt_z1_0 (by decide)).trans (by decide)
theorem pa_z1_0_1 : paV (z1.1 0) z1.2.1 (nI 1) = nI 9 := (pa_ct pt_z1_0 (by decide)).trans (by decide)
theorem pa_z1_0_2 : paV (z1.1 0) z1.2.1 (nI 2) = nI 6 := (pa_ct pt_z1_0 (by decide)).trans (by decide)
theorem pa_z1_0_3 : paV (z1.1 0) z1.2.1 (nI 3) = nI 1 := (pa_ct pt_z1_0 (by decide)).trans (by decide)
theorem pa_z1_0_4 : paV (z1.1 0) z1.2.1 (nI 4) = -1 := (pa_ct pt_z1_0 (by decide)).trans (by decide)
theorem bt_z1_0_5_5 : bi (bt (z1.1 0) 5 5) = nI 1 := bit_ct (B := 165) (b := true) (oz1.1 0 (by decide)) rp_z1_0 (by decide +kernel) (by rw [rp_z1_0.1]; decide) (by decide +kernel)
theorem bt_z1_0_7_5 : bi (bt (z1.1 0) 5 7) = nI 1 := bit_ct (B := 165) (b := true) (oz1.1 0 (by decide)) rp_z1_0 (by decide +kernel) (by rw [rp_z1_0.1]; decide) (by decide +kernel)
theorem bt_z1_0_6_5 : bi (bt (z1.1 0) 5 6) = nI 0 := bit_ct (B := 165) (b := false) (oz1.1 0 (by decide)) rp_z1_0 (by decide +kernel) (by rw [rp_z1_0.1]; decide) (by decide +kernel)
theorem bt_z1_0_2_4 : bi (bt (z1.1 0) 4 2) = nI 1 := bit_ct (B := 20) (b := true) (oz1.1 0 (by decide)) rp_z1_0 (by decide +kernel) (by rw [rp_z1_0.1]; decide) (by decide +kernel)
def PATz4 : List Nat := [43690, 52428, 61680, 65280]
theorem pat_PATz4 : paB 4 16 PATz4 = true := by decide +kernel
def Bz6 : List Nat := [43690, 52428, 61680, 65280, 23130, 41120, 13260, 37740, 52224, 8320, 60544]
theorem tt_z1_0 : ∀ num, num < 16 → ∀ m k, k < m → k < nG (z1.1 0) → bt (z1.1 0) num k = (Bz6.getD k 0).testBit num := fun num hn => tt_ct (i := 4) (q := 16) (mask := 65535) (Pt := PATz4) (T := Bz6) (oz1.1 0 (by decide)) rp_z1_0 (by decide +kernel) pat_PATz4 (by decide +kernel) hn
theorem of0_z1_0_0 : (∀ w, offV (z1.1 0) 0 w = if w = 0 then nI 0 else if w = 1 then nI 0 else if w = 2 then nI 0 else -1) ∧ ∀ mo, AU (z1.1 0) 0 mo (2 ^ nIn (z1.1 0)) = nI 0 := off0_ct (i := 4) (q := 16) (T := Bz6) (oz1.1 0 (by decide)) rp_z1_0 ni_z1_0 (by decide +kernel) tt_z1_0 (by decide +kernel)
theorem off_z1_0_0_0 : offV (z1.1 0) 0 0 = nI 0 := (of0_z1_0_0.1 0).trans (by decide +kernel)
theorem off_z1_0_0_1 : offV (z1.1 0) 0 1 = nI 0 := (of0_z1_0_0.1 1).trans (by decide +kernel)
theorem off_z1_0_0_2 : offV (z1.1 0) 0 2 = nI 0 := (of0_z1_0_0.1 2).trans (by decide +kernel)
theorem off_z1_0_0_3 : offV (z1.1 0) 0 3 = -1 := (of0_z1_0_0.1 3).trans (by decide +kernel)
theorem of0_z1_0_1 : (∀ w, offV (z1.1 0) 1 w = ofK (gaK Kz1 3 Bz6 1 (4 / 2)) 16 w) ∧ ∀ mo, AU (z1.1 0) 1 mo (2 ^ nIn (z1.1 0)) = gU (gaK Kz1 3 Bz6 1 (4 / 2)) mo 16 := off_ct (i := 4) (q := 16) (T := Bz6) (oz1.1 0 (by decide)) rp_z1_0 ni_z1_0 (by decide +kernel) tt_z1_0
theorem off_z1_0_1_0 : offV (z1.1 0) 1 0 = nI 14 := (of0_z1_0_1.1 0).trans (by decide +kernel)
theorem off_z1_0_1_1 : offV (z1.1 0) 1 1 = nI 3 := (of0_z1_0_1.1 1).trans (by decide +kernel)
theorem off_z1_0_1_2 : offV (z1.1 0) 1 2 = nI 22 := (of0_z1_0_1.1 2).trans (by decide +kernel)
theorem off_z1_0_1_3 : offV (z1.1 0) 1 3 = nI 1 := (of0_z1_0_1.1 3).trans (by decide +kernel)
theorem un_z1_0_1_2 : AU (z1.1 0) 1 2 (2 ^ nIn (z1.1 0)) = nI 2 := (of0_z1_0_1.2 2).trans (by decide +kernel)
theorem un_z1_0_1_3 : AU (z1.1 0) 1 3 (2 ^ nIn (z1.1 0)) = nI 3 := (of0_z1_0_1.2 3).trans (by decide +kernel)
theorem un_z1_0_0_5 : AU (z1.1 0) 0 5 (2 ^ nIn (z1.1 0)) = nI 0 := (of0_z1_0_0.2 5).trans (by decide +kernel)
def Vz7 : List Nat := [15, 0, 15, 0, 0, 14, 0, 12, 0, 0, 0]
theorem ch_z1_0_0_5 : tkV (z1.1 0) z1.2.1 0 5 (mxT (z1.1 0) z1.2.1 (nG (z1.1 0)) + 1) 0 = 2 ∧ tkV (z1.1 0) z1.2.1 0 5 (mxT (z1.1 0) z1.2.1 (nG (z1.1 0)) + 1) 1 = 2 ∧ tkV (z1.1 0) z1.2.1 0 5 (mxT (z1.1 0) z1.2.1 (nG (z1.1 0)) + 1) 2 = 1 := chg_ct (B0 := 0) (B1 := 165) (q := 4) (mask := 15) (T := Tz4) (V := Vz7) (oz1.1 0 (by decide)) rp_z1_0 tm_z1_0B (by decide +kernel) (by decide +kernel) (by decide +kernel) (by decide +kernel) (by decide +kernel) (by decide +kernel) (by decide +kernel) (by decide +kernel)
def Vz8 : List Nat := [15, 15, 15, 0, 1, 14, 15, 3, 0, 12, 8]
theorem ch_z1_0_3_7 : tkV (z1.1 0) z1.2.1 3 7 (mxT (z1.1 0) z1.2.1 (nG (z1.1 0)) + 1) 0 = 5 ∧ tkV (z1.1 0) z1.2.1 3 7 (mxT (z1.1 0) z1.2.1 (nG (z1.1 0)) + 1) 1 = 3 ∧ tkV (z1.1 0) z1.2.1 3 7 (mxT (z1.1 0) z1.2.1 (nG (z1.1 0)) + 1) 2 = 3 := chg_ct (B0 := 211) (B1 := 1639) (q := 4) (mask := 15) (T := Tz4) (V := Vz8) (oz1.1 0 (by decide)) rp_z1_0 tm_z1_0B (by decide +kernel) (by decide +kernel) (by decide +kernel) (by decide +kernel) (by decide +kernel) (by decide +kernel) (by decide +kernel) (by decide +kernel)
def Vz9 : List Nat := [0, 0, 15, 0, 15, 0, 0, 0, 0, 0, 0]
theorem ch_z1_0_1_4 : tkV (z1.1 0) z1.2.1 1 4 (mxT (z1.1 0) z1.2.1 (nG (z1.1 0)) + 1) 0 = 0 ∧ tkV (z1.1 0) z1.2.1 1 4 (mxT (z1.1 0) z1.2.1 (nG (z1.1 0)) + 1) 1 = 0 ∧ tkV (z1.1 0) z1.2.1 1 4 (mxT (z1.1 0) z1.2.1 (nG (z1.1 0)) + 1) 2 = 0 := chg_ct (B0 := 17) (B1 := 20) (q := 4) (mask := 15) (T := Tz4) (V := Vz9) (oz1.1 0 (by decide)) rp_z1_0 tm_z1_0B (by decide +kernel) (by decide +kernel) (by decide +kernel) (by decide +kernel) (by decide +kernel) (by decide +kernel) (by decide +kernel) (by decide +kernel)
def Vz10 : List Nat := [0, 15, 15, 0, 15, 0, 15, 15, 0, 0, 0]
theorem ch_z1_0_6_6 : tkV (z1.1 0) z1.2.1 6 6 (mxT (z1.1 0) z1.2.1 (nG (z1.1 0)) + 1) 0 = 0 ∧ tkV (z1.1 0) z1.2.1 6 6 (mxT (z1.1 0) z1.2.1 (nG (z1.1 0)) + 1) 1 = 0 ∧ tkV (z1.1 0) z1.2.1 6 6 (mxT (z1.1 0) z1.2.1 (nG (z1.1 0)) + 1) 2 = 0 := chg_ct (B0 := 214) (B1 := 214) (q := 4) (mask := 15) (T := Tz4) (V := Vz10) (oz1.1 0 (by decide)) rp_z1_0 tm_z1_0B (by decide +kernel) (by decide +kernel) (by decide +kernel) (by decide +kernel) (by decide +kernel) (by decide +kernel) (by decide +kernel) (by decide +kernel)
def z2 : ST := skS z1 0 5 (nI 0)
theorem oz2 : OKS z2 := okn_stick oz1 (by decide) (by decide +kernel) (by decide)
def Kz2 : KN := ([(4, 0, 0, 0), (4, 0, 0, 0), (4, 0, 0, 0), (4, 0, 0, 0), (2, 0, 2, 0), (0, 0, 2, 1), (2, 1, 3, 0), (2, 6, 5, 0), (0, 1, 3, 0), (0, 6, 5, 0), (1, 8, 9, 0)], [4, 7, 10])
theorem rp_z2_0 : Rp (z2.1 0) Kz2 11 3 := rp_ct (by decide +kernel)
theorem vl_z2_0_5 : vl (z2.1 0) 5 = nI 0 := vl1_ct (B := 5) (oz2.1 0 (by decide)) rp_z2_0 (by decide +kernel) (by decide +kernel)
def Bz11 : List Nat := [43690, 52428, 61680, 65280, 23130, 0, 13260, 13260, 52224, 0, 52224]
theorem tt_z2_0 : ∀ num, num < 16 → ∀ m k, k < m → k < nG (z2.1 0) → bt (z2.1 0) num k = (Bz11.getD k 0).testBit num := fun num hn => tt_ct (i := 4) (q := 16) (mask := 65535) (Pt := PATz4) (T := Bz11) (oz2.1 0 (by decide)) rp_z2_0 (by decide +kernel) pat_PATz4 (by decide +kernel) hn
theorem ni_z2_0 : nIn (z2.1 0) = 4 := by decide +kernel
theorem of0_z2_0_0 : (∀ w, offV (z2.1 0) 0 w = ofK (gaK Kz2 3 Bz11 0 (4 / 2)) 16 w) ∧ ∀ mo, AU (z2.1 0) 0 mo (2 ^ nIn (z2.1 0)) = gU (gaK Kz2 3 Bz11 0 (4 / 2)) mo 16 := off_ct (i := 4) (q := 16) (T := Bz11) (oz2.1 0 (by decide)) rp_z2_0 ni_z2_0 (by decide +kernel) tt_z2_0
theorem off_z2_0_0_0 : offV (z2.1 0) 0 0 = nI 4 := (of0_z2_0_0.1 0).trans (by decide +kernel)
theorem off_z2_0_0_1 : offV (z2.1 0) 0 1 = nI 2 := (of0_z2_0_0.1 1).trans (by decide +kernel)
theorem off_z2_0_0_2 : offV (z2.1 0) 0 2 = nI 8 := (of0_z2_0_0.1 2).trans (by decide +kernel)
theorem off_z2_0_0_3 : offV (z2.1 0) 0 3 = nI 5 := (of0_z2_0_0.1 3).trans (by decide +kernel)
theorem un_z2_0_0_2 : AU (z2.1 0) 0 2 (2 ^ nIn (z2.1 0)) = nI 4 := (of0_z2_0_0.2 2).trans (by decide +kernel)
theorem un_z2_0_0_3 : AU (z2.1 0) 0 3 (2 ^ nIn (z2.1 0)) = nI 0 := (of0_z2_0_0.2 3).trans (by decide +kernel)
theorem tm_z2_0B : tmB Kz2 11 z2.2.1 Tz4 = true := by decide +kernel
theorem tm_z2_0 : ∀ k, k < nG (z2.1 0) → tm (z2.1 0) z2.2.1 k = Tz4.getD k 0 := fun k hk => tm_ct (oz2.1 0 (by decide)) rp_z2_0 tm_z2_0B (k + 1) k (Nat.lt_succ_self k) hk
def Vz12 : List Nat := [15, 0, 15, 0, 0, 0, 0, 0, 0, 0, 0]
theorem ch_z2_0_0_5 : tkV (z2.1 0) z2.2.1 0 5 (mxT (z2.1 0) z2.2.1 (nG (z2.1 0)) + 1) 0 = 0 ∧ tkV (z2.1 0) z2.2.1 0 5 (mxT (z2.1 0) z2.2.1 (nG (z2.1 0)) + 1) 1 = 0 ∧ tkV (z2.1 0) z2.2.1 0 5 (mxT (z2.1 0) z2.2.1 (nG (z2.1 0)) + 1) 2 = 0 := chg_ct (B0 := 0) (B1 := 5) (q := 4) (mask := 15) (T := Tz4) (V := Vz12) (oz2.1 0 (by decide)) rp_z2_0 tm_z2_0B (by decide +kernel) (by decide +kernel) (by decide +kernel) (by decide +kernel) (by decide +kernel) (by decide +kernel) (by decide +kernel) (by decide +kernel)
theorem of_z2_0_0 : ofV (z2.1 0) z2.2.1 z2.2.2 0 = nI 11 := of_0 rp_z2_0.1
theorem of_z2_0_1 : ofV (z2.1 0) z2.2.1 z2.2.2 1 = nI 4 := of_1 ni_z2_0
theorem of_z2_0_2 : ofV (z2.1 0) z2.2.1 z2.2.2 2 = nI 3 := of_2 rp_z2_0.2.1
theorem of_z2_0_3 : ofV (z2.1 0) z2.2.1 z2.2.2 3 = nI 7 := of_3 (area_ct rp_z2_0 (by decide +kernel))
theorem of_z2_0_4 : ofV (z2.1 0) z2.2.1 z2.2.2 4 = nI 3 := of_4 (dly_ct (oz2.1 0 (by decide)) rp_z2_0 tm_z2_0 (by decide +kernel))
theorem of_z2_0_6 : ofV (z2.1 0) z2.2.1 z2.2.2 6 = nI 0 := of_6 (idle_ct rp_z2_0 (by decide +kernel))
def z3 : ST := skS z2 0 5 (-1)
theorem oz3 : OKS z3 := okn_stick oz2 (by decide) (by decide +kernel) (by decide)
def z4 : ST := skS z3 0 0 (nI 1)
theorem oz4 : OKS z4 := okn_stick oz3 (by decide) (by decide +kernel) (by decide)
def Kz3 : KN := ([(4, 0, 0, 2), (4, 0, 0, 0), (4, 0, 0, 0), (4, 0, 0, 0), (2, 0, 2, 0), (0, 0, 2, 0), (2, 1, 3, 0), (2, 6, 5, 0), (0, 1, 3, 0), (0, 6, 5, 0), (1, 8, 9, 0)], [4, 7, 10])
theorem rp_z4_0 : Rp (z4.1 0) Kz3 11 3 := rp_ct (by decide +kernel)
theorem vl_z4_0_0 : vl (z4.1 0) 0 = nI 1 := vl1_ct (B := 17) (oz4.1 0 (by decide)) rp_z4_0 (by decide +kernel) (by decide +kernel)
theorem tm_z4_0B : tmB Kz3 11 z4.2.1 Tz4 = true := by decide +kernel
theorem tm_z4_0 : ∀ k, k < nG (z4.1 0) → tm (z4.1 0) z4.2.1 k = Tz4.getD k 0 := fun k hk => tm_ct (oz4.1 0 (by decide)) rp_z4_0 tm_z4_0B (k + 1) k (Nat.lt_succ_self k) hk
def Vz13 : List Nat := [15, 0, 0, 0, 15, 0, 0, 0, 0, 0, 0]
theorem ch_z4_0_0_1 : tkV (z4.1 0) z4.2.1 0 1 (mxT (z4.1 0) z4.2.1 (nG (z4.1 0)) + 1) 0 = 0 ∧ tkV (z4.1 0) z4.2.1 0 1 (mxT (z4.1 0) z4.2.1 (nG (z4.1 0)) + 1) 1 = 0 ∧ tkV (z4.1 0) z4.2.1 0 1 (mxT (z4.1 0) z4.2.1 (nG (z4.1 0)) + 1) 2 = 0 := chg_ct (B0 := 17) (B1 := 17) (q := 4) (mask := 15) (T := Tz4) (V := Vz13) (oz4.1 0 (by decide)) rp_z4_0 tm_z4_0B (by decide +kernel) (by decide +kernel) (by decide +kernel) (by decide +kernel) (by decide +kernel) (by decide +kernel) (by decide +kernel) (by decide +kernel)
theorem bt_z4_0_0_0 : bi (bt (z4.1 0) 0 0) = nI 1 := bit_ct (B := 17) (b := true) (oz4.1 0 (by decide)) rp_z4_0 (by decide +kernel) (by rw [rp_z4_0.1]; decide) (by decide +kernel)
def z5 : ST := skS z4 0 0 (-1)
theorem oz5 : OKS z5 := okn_stick oz4 (by decide) (by decide +kernel) (by decide)
theorem rp_z5_0 : Rp (z5.1 0) Kz1 11 3 := rp_ct (by decide +kernel)
theorem vl_z5_0_0 : vl (z5.1 0) 0 = nI 0 := vl1_ct (B := 0) (oz5.1 0 (by decide)) rp_z5_0 (by decide +kernel) (by decide +kernel)
def z6 : ST := adS z5 1 1 2
theorem oz6 : OKS z6 := okn_adder oz5 (by decide) (by decide) (by decide) (by decide +kernel)
def Kz4 : KN := ([(4, 0, 0, 0), (4, 0, 0, 0), (4, 0, 0, 0), (4, 0, 0, 0), (2, 0, 2, 0), (0, 0, 2, 0), (2, 1, 3, 0), (0, 1, 3, 0), (0, 6, 5, 0), (1, 7, 8, 0), (0, 6, 4, 0), (2, 6, 5, 0)], [4, 11, 9])
theorem rp_z6_1 : Rp (z6.1 1) Kz4 12 3 := rp_ct (by decide +kernel)
theorem of_z6_1_0 : ofV (z6.1 1) z6.2.1 z6.2.2 0 = nI 12 := of_0 rp_z6_1.1
theorem ni_z6_1 : nIn (z6.1 1) = 4 := by decide +kernel
theorem of_z6_1_1 : ofV (z6.1 1) z6.2.1 z6.2.2 1 = nI 4 := of_1 ni_z6_1
theorem of_z6_1_2 : ofV (z6.1 1) z6.2.1 z6.2.2 2 = nI 3 := of_2 rp_z6_1.2.1
theorem of_z6_1_3 : ofV (z6.1 1) z6.2.1 z6.2.2 3 = nI 8 := of_3 (area_ct rp_z6_1 (by decide +kernel))
def Tz14 : List Nat := [0, 0, 0, 0, 1, 1, 1, 1, 2, 3, 2, 2]
theorem tm_z6_1B : tmB Kz4 12 z6.2.1 Tz14 = true := by decide +kernel
theorem tm_z6_1 : ∀ k, k < nG (z6.1 1) → tm (z6.1 1) z6.2.1 k = Tz14.getD k 0 := fun k hk => tm_ct (oz6.1 1 (by decide)) rp_z6_1 tm_z6_1B (k + 1) k (Nat.lt_succ_self k) hk
theorem of_z6_1_4 : ofV (z6.1 1) z6.2.1 z6.2.2 4 = nI 3 := of_4 (dly_ct (oz6.1 1 (by decide)) rp_z6_1 tm_z6_1 (by decide +kernel))
theorem of_z6_1_6 : ofV (z6.1 1) z6.2.1 z6.2.2 6 = nI 1 := of_6 (idle_ct rp_z6_1 (by decide +kernel))
def Pz15 : List Nat := [9, 8, 6, 1]
theorem pt_z6_1 : ∀ m, pt (z6.1 1) z6.2.1 m = Pz15[m]? := pt_ct (oz6.1 1 (by decide)) rp_z6_1 tm_z6_1 (show pthB Kz4 12 3 z6.2.1 Tz14 Pz15 4 = true by decide +kernel)
theorem pa_z6_1_0 : paV (z6.1 1) z6.2.1 (nI 0) = nI 9 := (pa_ct pt_z6_1 (by decide)).trans (by decide)
theorem pa_z6_1_1 : paV (z6.1 1) z6.2.1 (nI 1) = nI 8 := (pa_ct pt_z6_1 (by decide)).trans (by decide)
theorem pa_z6_1_2 : paV (z6.1 1) z6.2.1 (nI 2) = nI 6 := (pa_ct pt_z6_1 (by decide)).trans (by decide)
theorem pa_z6_1_3 : paV (z6.1 1) z6.2.1 (nI 3) = nI 1 := (pa_ct pt_z6_1 (by decide)).trans (by decide)
theorem pa_z6_1_4 : paV (z6.1 1) z6.2.1 (nI 4) = -1 := (pa_ct pt_z6_1 (by decide)).trans (by decide)
theorem ti_z6_1_11 : nI (tm (z6.1 1) z6.2.1 11) = nI 2 := congrArg nI ((tm_z6_1 11 (by rw [rp_z6_1.1]; decide)).trans (by decide))
theorem rp_z6_0 : Rp (z6.1 0) Kz1 11 3 := rp_ct (by decide +kernel)
theorem tt_z6_0 : ∀ num, num < 16 → ∀ m k, k < m → k < nG (z6.1 0) → bt (z6.1 0) num k = (Bz6.getD k 0).testBit num := fun num hn => tt_ct (i := 4) (q := 16) (mask := 65535) (Pt := PATz4) (T := Bz6) (oz6.1 0 (by decide)) rp_z6_0 (by decide +kernel) pat_PATz4 (by decide +kernel) hn
def Bz16 : List Nat := [43690, 52428, 61680, 65280, 23130, 41120, 13260, 52224, 8320, 60544, 4680, 37740]
theorem tt_z6_1 : ∀ num, num < 16 → ∀ m k, k < m → k < nG (z6.1 1) → bt (z6.1 1) num k = (Bz16.getD k 0).testBit num := fun num hn => tt_ct (i := 4) (q := 16) (mask := 65535) (Pt := PATz4) (T := Bz16) (oz6.1 1 (by decide)) rp_z6_1 (by decide +kernel) pat_PATz4 (by decide +kernel) hn
theorem ni_z6_0 : nIn (z6.1 0) = 4 := by decide +kernel
theorem ul_z6_0_1_d : ∀ x, x < 16 → dfT (z6.1 0) (z6.1 1) x 16 = dfK (obK Kz1 3 Bz6 x) (obK Kz4 3 Bz16 x) 16 := fun x hx => (df_c (f := obK Kz1 3 Bz6 x) (g := obK Kz4 3 Bz16 x) (ob_ct (oz6.1 0 (by decide)) rp_z6_0 tt_z6_0 hx) (ob_ct (oz6.1 1 (by decide)) rp_z6_1 tt_z6_1 hx) 16)
theorem ul_z6_0_1_c : allU (fun x => !dfK (obK Kz1 3 Bz6 x) (obK Kz4 3 Bz16 x) 16) 16 = true := by decide +kernel
theorem ul_z6_0_1 {r : Int32} (h : unS (z6.1 0) (z6.1 1) (2 ^ nIn (z6.1 0)) r) : r = -1 := uns_m h (fun x hx => by
  rw [ni_z6_0] at hx
  have hx : x < 16 := hx
  rw [ul_z6_0_1_d x hx]
  exact notT (allU_at ul_z6_0_1_c hx))
theorem ul_z6_1_0_d : ∀ x, x < 16 → dfT (z6.1 1) (z6.1 0) x 16 = dfK (obK Kz4 3 Bz16 x) (obK Kz1 3 Bz6 x) 16 := fun x hx => (df_c (f := obK Kz4 3 Bz16 x) (g := obK Kz1 3 Bz6 x) (ob_ct (oz6.1 1 (by decide)) rp_z6_1 tt_z6_1 hx) (ob_ct (oz6.1 0 (by decide)) rp_z6_0 tt_z6_0 hx) 16)
theorem ul_z6_1_0_c : allU (fun x => !dfK (obK Kz4 3 Bz16 x) (obK Kz1 3 Bz6 x) 16) 16 = true := by decide +kernel
theorem ul_z6_1_0 {r : Int32} (h : unS (z6.1 1) (z6.1 0) (2 ^ nIn (z6.1 1)) r) : r = -1 := uns_m h (fun x hx => by
  rw [ni_z6_1] at hx
  have hx : x < 16 := hx
  rw [ul_z6_1_0_d x hx]
  exact notT (allU_at ul_z6_1_0_c hx))
def z7 : ST := skS z6 1 8 (nI 1)
theorem oz7 : OKS z7 := okn_stick oz6 (by decide) (by decide +kernel) (by decide)
theorem rp_z7_0 : Rp (z7.1 0) Kz1 11 3 := rp_ct (by decide +kernel)
theorem tt_z7_0 : ∀ num, num < 16 → ∀ m k, k < m → k < nG (z7.1 0) → bt (z7.1 0) num k = (Bz6.getD k 0).testBit num := fun num hn => tt_ct (i := 4) (q := 16) (mask := 65535) (Pt := PATz4) (T := Bz6) (oz7.1 0 (by decide)) rp_z7_0 (by decide +kernel) pat_PATz4 (by decide +kernel) hn
def Kz5 : KN := ([(4, 0, 0, 0), (4, 0, 0, 0), (4, 0, 0, 0), (4, 0, 0, 0), (2, 0, 2, 0), (0, 0, 2, 0), (2, 1, 3, 0), (0, 1, 3, 0), (0, 6, 5, 2), (1, 7, 8, 0), (0, 6, 4, 0), (2, 6, 5, 0)], [4, 11, 9])
theorem rp_z7_1 : Rp (z7.1 1) Kz5 12 3 := rp_ct (by decide +kernel)
def Bz17 : List Nat := [43690, 52428, 61680, 65280, 23130, 41120, 13260, 52224, 65535, 65535, 4680, 37740]
theorem tt_z7_1 : ∀ num, num < 16 → ∀ m k, k < m → k < nG (z7.1 1) → bt (z7.1 1) num k = (Bz17.getD k 0).testBit num := fun num hn => tt_ct (i := 4) (q := 16) (mask := 65535) (Pt := PATz4) (T := Bz17) (oz7.1 1 (by decide)) rp_z7_1 (by decide +kernel) pat_PATz4 (by decide +kernel) hn
theorem ni_z7_0 : nIn (z7.1 0) = 4 := by decide +kernel
theorem ul_z7_0_1_d : ∀ x, x < 16 → dfT (z7.1 0) (z7.1 1) x 16 = dfK (obK Kz1 3 Bz6 x) (obK Kz5 3 Bz17 x) 16 := fun x hx => (df_c (f := obK Kz1 3 Bz6 x) (g := obK Kz5 3 Bz17 x) (ob_ct (oz7.1 0 (by decide)) rp_z7_0 tt_z7_0 hx) (ob_ct (oz7.1 1 (by decide)) rp_z7_1 tt_z7_1 hx) 16)
theorem ul_z7_0_1_c : allU (fun x => !dfK (obK Kz1 3 Bz6 x) (obK Kz5 3 Bz17 x) 16) 0 = true := by decide +kernel
theorem ul_z7_0_1 {r : Int32} (h : unS (z7.1 0) (z7.1 1) (2 ^ nIn (z7.1 0)) r) : r = nI 0 := uns_v h (by rw [ni_z7_0]; decide) (by rw [ul_z7_0_1_d 0 (by decide)]; decide +kernel) (fun x hx => by
  rw [ul_z7_0_1_d x (Nat.lt_trans hx (by decide))]
  exact notT (allU_at ul_z7_0_1_c hx))
def z8 : ST := clS z7 1
theorem oz8 : OKS z8 := okn_clear oz7 (by decide)
def z9 : ST := adS z8 1 1 4
theorem oz9 : OKS z9 := okn_adder oz8 (by decide) (by decide) (by decide) (by decide +kernel)
def Kz6 : KN := ([(4, 0, 0, 0), (4, 0, 0, 0), (4, 0, 0, 0), (4, 0, 0, 0), (4, 0, 0, 0), (4, 0, 0, 0), (4, 0, 0, 0), (4, 0, 0, 0), (2, 0, 4, 0), (0, 0, 4, 0), (2, 1, 5, 0), (0, 1, 5, 0), (2, 2, 6, 0), (0, 2, 6, 0), (2, 3, 7, 0), (0, 3, 7, 0), (0, 10, 9, 0), (1, 11, 16, 0), (0, 10, 8, 0), (0, 14, 13, 0), (1, 15, 19, 0), (0, 14, 12, 0), (0, 12, 17, 0), (1, 13, 22, 0), (0, 12, 18, 0), (0, 21, 17, 0), (1, 20, 25, 0), (0, 21, 18, 0), (2, 10, 9, 0), (2, 12, 17, 0), (2, 14, 23, 0)], [8, 28, 29, 30, 26])
theorem rp_z9_1 : Rp (z9.1 1) Kz6 31 5 := rp_ct (by decide +kernel)
def z10 : ST := adS z9 2 2 4
theorem oz10 : OKS z10 := okn_adder oz9 (by decide) (by decide) (by decide) (by decide +kernel)
def Kz7 : KN := ([(4, 0, 0, 0), (4, 0, 0, 0), (4, 0, 0, 0), (4, 0, 0, 0), (4, 0, 0, 0), (4, 0, 0, 0), (4, 0, 0, 0), (4, 0, 0, 0), (2, 0, 4, 0), (0, 0, 4, 0), (2, 1, 5, 0), (0, 1, 5, 0), (2, 2, 6, 0), (0, 2, 6, 0), (2, 3, 7, 0), (0, 3, 7, 0), (0, 10, 9, 0), (1, 11, 16, 0), (0, 10, 8, 0), (0, 12, 11, 0), (1, 13, 19, 0), (0, 12, 10, 0), (0, 14, 13, 0), (1, 15, 22, 0), (0, 14, 12, 0), (0, 21, 9, 0), (1, 20, 25, 0), (0, 21, 8, 0), (0, 24, 17, 0), (1, 23, 28, 0), (0, 24, 18, 0), (2, 10, 9, 0), (2, 12, 17, 0), (2, 14, 26, 0)], [8, 31, 32, 33, 29])
theorem rp_z10_2 : Rp (z10.1 2) Kz7 34 5 := rp_ct (by decide +kernel)
theorem rp_z10_1 : Rp (z10.1 1) Kz6 31 5 := rp_ct (by decide +kernel)
theorem of_z10_1_0 : ofV (z10.1 1) z10.2.1 z10.2.2 0 = nI 31 := of_0 rp_z10_1.1
theorem ni_z10_1 : nIn (z10.1 1) = 8 := by decide +kernel
theorem of_z10_1_1 : ofV (z10.1 1) z10.2.1 z10.2.2 1 = nI 8 := of_1 ni_z10_1
theorem of_z10_1_2 : ofV (z10.1 1) z10.2.1 z10.2.2 2 = nI 5 := of_2 rp_z10_1.2.1
theorem of_z10_1_3 : ofV (z10.1 1) z10.2.1 z10.2.2 3 = nI 23 := of_3 (area_ct rp_z10_1 (by decide +kernel))
def Tz18 : List Nat := [0, 0, 0, 0, 0, 0, 0, 0, 1, 1, 1, 1, 1, 1, 1, 1, 2, 3, 2, 2, 3, 2, 4, 5, 3, 4, 5, 3, 2, 4, 6]
theorem tm_z10_1B : tmB Kz6 31 z10.2.1 Tz18 = true := by decide +kernel
theorem tm_z10_1 : ∀ k, k < nG (z10.1 1) → tm (z10.1 1) z10.2.1 k = Tz18.getD k 0 := fun k hk => tm_ct (oz10.1 1 (by decide)) rp_z10_1 tm_z10_1B (k + 1) k (Nat.lt_succ_self k) hk
theorem of_z10_1_4 : ofV (z10.1 1) z10.2.1 z10.2.2 4 = nI 6 := of_4 (dly_ct (oz10.1 1 (by decide)) rp_z10_1 tm_z10_1 (by decide +kernel))
theorem of_z10_1_6 : ofV (z10.1 1) z10.2.1 z10.2.2 6 = nI 3 := of_6 (idle_ct rp_z10_1 (by decide +kernel))
theorem of_z10_2_0 : ofV (z10.1 2) z10.2.1 z10.2.2 0 = nI 34 := of_0 rp_z10_2.1
theorem ni_z10_2 : nIn (z10.1 2) = 8 := by decide +kernel
theorem of_z10_2_1 : ofV (z10.1 2) z10.2.1 z10.2.2 1 = nI 8 := of_1 ni_z10_2
theorem of_z10_2_2 : ofV (z10.1 2) z10.2.1 z10.2.2 2 = nI 5 := of_2 rp_z10_2.2.1
theorem of_z10_2_3 : ofV (z10.1 2) z10.2.1 z10.2.2 3 = nI 26 := of_3 (area_ct rp_z10_2 (by decide +kernel))
def Tz19 : List Nat := [0, 0, 0, 0, 0, 0, 0, 0, 1, 1, 1, 1, 1, 1, 1, 1, 2, 3, 2, 2, 3, 2, 2, 3, 2, 3, 4, 3, 4, 5, 3, 2, 4, 5]
theorem tm_z10_2B : tmB Kz7 34 z10.2.1 Tz19 = true := by decide +kernel
theorem tm_z10_2 : ∀ k, k < nG (z10.1 2) → tm (z10.1 2) z10.2.1 k = Tz19.getD k 0 := fun k hk => tm_ct (oz10.1 2 (by decide)) rp_z10_2 tm_z10_2B (k + 1) k (Nat.lt_succ_self k) hk
theorem of_z10_2_4 : ofV (z10.1 2) z10.2.1 z10.2.2 4 = nI 5 := of_4 (dly_ct (oz10.1 2 (by decide)) rp_z10_2 tm_z10_2 (by decide +kernel))
theorem of_z10_2_6 : ofV (z10.1 2) z10.2.1 z10.2.2 6 = nI 3 := of_6 (idle_ct rp_z10_2 (by decide +kernel))
theorem vl_z10_1_121 : vl (z10.1 1) 121 = nI 16 := vl1_ct (B := 115562105) (oz10.1 1 (by decide)) rp_z10_1 (by decide +kernel) (by decide +kernel)
theorem vl_z10_2_121 : vl (z10.1 2) 121 = nI 16 := vl1_ct (B := 925062777) (oz10.1 2 (by decide)) rp_z10_2 (by decide +kernel) (by decide +kernel)
theorem vl_z10_1_255 : vl (z10.1 1) 255 = nI 30 := vl1_ct (B := 1955769087) (oz10.1 1 (by decide)) rp_z10_1 (by decide +kernel) (by decide +kernel)
def PATz8 : List Nat := [77194726158210796949047323339125271902179989777093709359638389338608753093290, 92633671389852956338856788006950326282615987732512451231566067206330503711948, 108980789870415242751596221184647442685430573802955824978313020242741769072880, 115341536360906404779899502576747487978354537254490211650198994186870666100480, 115790322417210952336529717160220497262186272106556906860092653394915770695680, 115792089210356248762697446947946071893095522863849111501270640965525260206080, 115792089237316195417293883273301227089774477609353836086800156426807153786880, 115792089237316195423570985008687907852929702298719625575994209400481361428480]
theorem pat_PATz8 : paB 8 256 PATz8 = true := by decide +kernel
def Bz20 : List Nat := [77194726158210796949047323339125271902179989777093709359638389338608753093290, 92633671389852956338856788006950326282615987732512451231566067206330503711948, 108980789870415242751596221184647442685430573802955824978313020242741769072880, 115341536360906404779899502576747487978354537254490211650198994186870666100480, 115790322417210952336529717160220497262186272106556906860092653394915770695680, 115792089210356248762697446947946071893095522863849111501270640965525260206080, 115792089237316195417293883273301227089774477609353836086800156426807153786880, 115792089237316195423570985008687907852929702298719625575994209400481361428480, 38597952019140479503537417619051772814784565741574740406274171540303496194730, 77193548278140634891019811440146998174790848071037937906728435596610513797120, 23158417863639207081238319838182683146758674014202984330803682627015347588300, 92633671368284999010157957558356857514476418291079289201016512772420208164864, 6811299366900952677513383002322830547394270029996557842901117513206045143280, 108980789870415242745688360727812919613905390691156551611106029578171438858240, 450552876409790643671482431940419875253081666266458646780615209739354177280, 115341536360906404779899502576747487978015578943471689289706294188806336675840, 15438709666411941094608486085876581907482047903675855177009934791482448281600, 108072381034696940104766443644233439421958466194755144378026447563902656446464, 7719590409220167506854636849183497810764758724297395298697487688935674251400, 424049766032744135197230975594602800371879995144676197812796563362278277120, 115765586126939148915096733552342090778387458938616365487519090752168614952960, 26503110377046508472814719853396227830733484567356555638141066308432752640, 6357198884393937658390922139521069230839236671087306399909318354856346386432, 115337988754809180404079282867333988844744627362243858011015347933027785244672, 454093553483539265478343198144975009857325680454510982925936829615050883200, 24736182429548395557941331282183148776666067794045935803150790644115439616, 115790322309368697310654674883624273927164125006410411423322241542812730392576, 1766900986317273406530518280719747121391491205567195105433173375773081600, 69474546808955959783041159106576517506585426277889211883512248640660964822220, 102169282632810017465497982367514131507674262882577089421108928367396008816880, 114890969734294385986240420685520836821700616902632872390564068434754351988480]
theorem tt_z10_1 : ∀ num, num < 256 → ∀ m k, k < m → k < nG (z10.1 1) → bt (z10.1 1) num k = (Bz20.getD k 0).testBit num := fun num hn => tt_ct (i := 8) (q := 256) (mask := 115792089237316195423570985008687907853269984665640564039457584007913129639935) (Pt := PATz8) (T := Bz20) (oz10.1 1 (by decide)) rp_z10_1 (by decide +kernel) pat_PATz8 (by decide +kernel) hn
def Bz21 : List Nat := [77194726158210796949047323339125271902179989777093709359638389338608753093290, 92633671389852956338856788006950326282615987732512451231566067206330503711948, 108980789870415242751596221184647442685430573802955824978313020242741769072880, 115341536360906404779899502576747487978354537254490211650198994186870666100480, 115790322417210952336529717160220497262186272106556906860092653394915770695680, 115792089210356248762697446947946071893095522863849111501270640965525260206080, 115792089237316195417293883273301227089774477609353836086800156426807153786880, 115792089237316195423570985008687907852929702298719625575994209400481361428480, 38597952019140479503537417619051772814784565741574740406274171540303496194730, 77193548278140634891019811440146998174790848071037937906728435596610513797120, 23158417863639207081238319838182683146758674014202984330803682627015347588300, 92633671368284999010157957558356857514476418291079289201016512772420208164864, 6811299366900952677513383002322830547394270029996557842901117513206045143280, 108980789870415242745688360727812919613905390691156551611106029578171438858240, 450552876409790643671482431940419875253081666266458646780615209739354177280, 115341536360906404779899502576747487978015578943471689289706294188806336675840, 15438709666411941094608486085876581907482047903675855177009934791482448281600, 108072381034696940104766443644233439421958466194755144378026447563902656446464, 7719590409220167506854636849183497810764758724297395298697487688935674251400, 5449039492252058769734304609732882766619709197125121658933573105820612165632, 114429829362667301515422665337545802380525099888281673270039602683992051023872, 1362259874331718064709977944558602362950634126153405030120714181199376990400, 424049766032744135197230975594602800371879995144676197812796563362278277120, 115765586126939148915096733552342090778387458938616365487519090752168614952960, 26503110377046508472814719853396227830733484567356555638141066308432752640, 908159392141878888656617529788186464219527473962184740975745249035734220800, 115337988754809180404079282867333988844744627362243858011015347933027785244672, 454093553483539265478343198144975009857325680454510982925936829615050883200, 24736182429548395557941331282183148776666067794045935803150790644115439616, 115790322309368697310654674883624273927164125006410411423322241542812730392576, 1766900986317273406530518280719747121391491205567195105433173375773081600, 69474546808955959783041159106576517506585426277889211883512248640660964822220, 102169282632810017465497982367514131507674262882577089421108928367396008816880, 114890969734294385986240420685520836821700616902632872390564068434754351988480]
theorem tt_z10_2 : ∀ num, num < 256 → ∀ m k, k < m → k < nG (z10.1 2) → bt (z10.1 2) num k = (Bz21.getD k 0).testBit num := fun num hn => tt_ct (i := 8) (q := 256) (mask := 115792089237316195423570985008687907853269984665640564039457584007913129639935) (Pt := PATz8) (T := Bz21) (oz10.1 2 (by decide)) rp_z10_2 (by decide +kernel) pat_PATz8 (by decide +kernel) hn
theorem ul_z10_1_2_d : ∀ x, x < 256 → dfT (z10.1 1) (z10.1 2) x 16 = dfK (obK Kz6 5 Bz20 x) (obK Kz7 5 Bz21 x) 16 := fun x hx => (df_c (f := obK Kz6 5 Bz20 x) (g := obK Kz7 5 Bz21 x) (ob_ct (oz10.1 1 (by decide)) rp_z10_1 tt_z10_1 hx) (ob_ct (oz10.1 2 (by decide)) rp_z10_2 tt_z10_2 hx) 16)
theorem ul_z10_1_2_c : allU (fun x => !dfK (obK Kz6 5 Bz20 x) (obK Kz7 5 Bz21 x) 16) 256 = true := by decide +kernel
theorem ul_z10_1_2 {r : Int32} (h : unS (z10.1 1) (z10.1 2) (2 ^ nIn (z10.1 1)) r) : r = -1 := uns_m h (fun x hx => by
  rw [ni_z10_1] at hx
  have hx : x < 256 := hx
  rw [ul_z10_1_2_d x hx]
  exact notT (allU_at ul_z10_1_2_c hx))
theorem of0_z10_1_0 : (∀ w, offV (z10.1 1) 0 w = if w = 0 then nI 0 else if w = 1 then nI 0 else if w = 2 then nI 0 else -1) ∧ ∀ mo, AU (z10.1 1) 0 mo (2 ^ nIn (z10.1 1)) = nI 0 := off0_ct (i := 8) (q := 256) (T := Bz20) (oz10.1 1 (by decide)) rp_z10_1 ni_z10_1 (by decide +kernel) tt_z10_1 (by decide +kernel)
theorem off_z10_1_0_0 : offV (z10.1 1) 0 0 = nI 0 := (of0_z10_1_0.1 0).trans (by decide +kernel)
theorem off_z10_1_0_1 : offV (z10.1 1) 0 1 = nI 0 := (of0_z10_1_0.1 1).trans (by decide +kernel)
theorem off_z10_1_0_2 : offV (z10.1 1) 0 2 = nI 0 := (of0_z10_1_0.1 2).trans (by decide +kernel)
theorem off_z10_1_0_3 : offV (z10.1 1) 0 3 = -1 := (of0_z10_1_0.1 3).trans (by decide +kernel)
theorem of0_z10_2_0 : (∀ w, offV (z10.1 2) 0 w = if w = 0 then nI 0 else if w = 1 then nI 0 else if w = 2 then nI 0 else -1) ∧ ∀ mo, AU (z10.1 2) 0 mo (2 ^ nIn (z10.1 2)) = nI 0 := off0_ct (i := 8) (q := 256) (T := Bz21) (oz10.1 2 (by decide)) rp_z10_2 ni_z10_2 (by decide +kernel) tt_z10_2 (by decide +kernel)
theorem off_z10_2_0_0 : offV (z10.1 2) 0 0 = nI 0 := (of0_z10_2_0.1 0).trans (by decide +kernel)
theorem off_z10_2_0_1 : offV (z10.1 2) 0 1 = nI 0 := (of0_z10_2_0.1 1).trans (by decide +kernel)
theorem off_z10_2_0_2 : offV (z10.1 2) 0 2 = nI 0 := (of0_z10_2_0.1 2).trans (by decide +kernel)
theorem off_z10_2_0_3 : offV (z10.1 2) 0 3 = -1 := (of0_z10_2_0.1 3).trans (by decide +kernel)
def z11 : ST := adS z10 3 0 4
theorem oz11 : OKS z11 := okn_adder oz10 (by decide) (by decide) (by decide) (by decide +kernel)
def Kz8 : KN := ([(4, 0, 0, 0), (4, 0, 0, 0), (4, 0, 0, 0), (4, 0, 0, 0), (4, 0, 0, 0), (4, 0, 0, 0), (4, 0, 0, 0), (4, 0, 0, 0), (2, 0, 4, 0), (0, 0, 4, 0), (2, 1, 5, 0), (2, 10, 9, 0), (0, 1, 5, 0), (0, 10, 9, 0), (1, 12, 13, 0), (2, 2, 6, 0), (2, 15, 14, 0), (0, 2, 6, 0), (0, 15, 14, 0), (1, 17, 18, 0), (2, 3, 7, 0), (2, 20, 19, 0), (0, 3, 7, 0), (0, 20, 19, 0), (1, 22, 23, 0)], [8, 11, 16, 21, 24])
theorem rp_z11_3 : Rp (z11.1 3) Kz8 25 5 := rp_ct (by decide +kernel)
theorem of_z11_3_0 : ofV (z11.1 3) z11.2.1 z11.2.2 0 = nI 25 := of_0 rp_z11_3.1
theorem ni_z11_3 : nIn (z11.1 3) = 8 := by decide +kernel
theorem of_z11_3_1 : ofV (z11.1 3) z11.2.1 z11.2.2 1 = nI 8 := of_1 ni_z11_3
theorem of_z11_3_2 : ofV (z11.1 3) z11.2.1 z11.2.2 2 = nI 5 := of_2 rp_z11_3.2.1
theorem of_z11_3_3 : ofV (z11.1 3) z11.2.1 z11.2.2 3 = nI 17 := of_3 (area_ct rp_z11_3 (by decide +kernel))
def Tz22 : List Nat := [0, 0, 0, 0, 0, 0, 0, 0, 1, 1, 1, 2, 1, 2, 3, 1, 4, 1, 4, 5, 1, 6, 1, 6, 7]
theorem tm_z11_3B : tmB Kz8 25 z11.2.1 Tz22 = true := by decide +kernel
theorem tm_z11_3 : ∀ k, k < nG (z11.1 3) → tm (z11.1 3) z11.2.1 k = Tz22.getD k 0 := fun k hk => tm_ct (oz11.1 3 (by decide)) rp_z11_3 tm_z11_3B (k + 1) k (Nat.lt_succ_self k) hk
theorem of_z11_3_4 : ofV (z11.1 3) z11.2.1 z11.2.2 4 = nI 7 := of_4 (dly_ct (oz11.1 3 (by decide)) rp_z11_3 tm_z11_3 (by decide +kernel))
theorem of_z11_3_6 : ofV (z11.1 3) z11.2.1 z11.2.2 6 = nI 0 := of_6 (idle_ct rp_z11_3 (by decide +kernel))
def Bz23 : List Nat := [77194726158210796949047323339125271902179989777093709359638389338608753093290, 92633671389852956338856788006950326282615987732512451231566067206330503711948, 108980789870415242751596221184647442685430573802955824978313020242741769072880, 115341536360906404779899502576747487978354537254490211650198994186870666100480, 115790322417210952336529717160220497262186272106556906860092653394915770695680, 115792089210356248762697446947946071893095522863849111501270640965525260206080, 115792089237316195417293883273301227089774477609353836086800156426807153786880, 115792089237316195423570985008687907852929702298719625575994209400481361428480, 38597952019140479503537417619051772814784565741574740406274171540303496194730, 77193548278140634891019811440146998174790848071037937906728435596610513797120, 23158417863639207081238319838182683146758674014202984330803682627015347588300, 69474546808955959783041159106576517506585426277889211883512248640660964822220, 92633671368284999010157957558356857514476418291079289201016512772420208164864, 15438709666411941094608486085876581907482047903675855177009934791482448281600, 108072381034696940104766443644233439421958466194755144378026447563902656446464, 6811299366900952677513383002322830547394270029996557842901117513206045143280, 102169282632810017465497982367514131507674262882577089421108928367396008816880, 108980789870415242745688360727812919613905390691156551611106029578171438858240, 6357198884393937658390922139521069230839236671087306399909318354856346386432, 115337988754809180404079282867333988844744627362243858011015347933027785244672, 450552876409790643671482431940419875253081666266458646780615209739354177280, 114890969734294385986240420685520836821700616902632872390564068434754351988480, 115341536360906404779899502576747487978015578943471689289706294188806336675840, 448785948462292530755172306876785949148546062938722133615947354006393716736, 115790322309368697310654674883624273927164125006410411423322241542812730392576]
theorem tt_z11_3 : ∀ num, num < 256 → ∀ m k, k < m → k < nG (z11.1 3) → bt (z11.1 3) num k = (Bz23.getD k 0).testBit num := fun num hn => tt_ct (i := 8) (q := 256) (mask := 115792089237316195423570985008687907853269984665640564039457584007913129639935) (Pt := PATz8) (T := Bz23) (oz11.1 3 (by decide)) rp_z11_3 (by decide +kernel) pat_PATz8 (by decide +kernel) hn
theorem rp_z11_2 : Rp (z11.1 2) Kz7 34 5 := rp_ct (by decide +kernel)
theorem tt_z11_2 : ∀ num, num < 256 → ∀ m k, k < m → k < nG (z11.1 2) → bt (z11.1 2) num k = (Bz21.getD k 0).testBit num := fun num hn => tt_ct (i := 8) (q := 256) (mask := 115792089237316195423570985008687907853269984665640564039457584007913129639935) (Pt := PATz8) (T := Bz21) (oz11.1 2 (by decide)) rp_z11_2 (by decide +kernel) pat_PATz8 (by decide +kernel) hn
theorem ul_z11_3_2_d : ∀ x, x < 256 → dfT (z11.1 3) (z11.1 2) x 16 = dfK (obK Kz8 5 Bz23 x) (obK Kz7 5 Bz21 x) 16 := fun x hx => (df_c (f := obK Kz8 5 Bz23 x) (g := obK Kz7 5 Bz21 x) (ob_ct (oz11.1 3 (by decide)) rp_z11_3 tt_z11_3 hx) (ob_ct (oz11.1 2 (by decide)) rp_z11_2 tt_z11_2 hx) 16)
theorem ul_z11_3_2_c : allU (fun x => !dfK (obK Kz8 5 Bz23 x) (obK Kz7 5 Bz21 x) 16) 256 = true := by decide +kernel
theorem ul_z11_3_2 {r : Int32} (h : unS (z11.1 3) (z11.1 2) (2 ^ nIn (z11.1 3)) r) : r = -1 := uns_m h (fun x hx => by
  rw [ni_z11_3] at hx
  have hx : x < 256 := hx
  rw [ul_z11_3_2_d x hx]
  exact notT (allU_at ul_z11_3_2_c hx))
def z12 : ST := clS z11 3
theorem oz12 : OKS z12 := okn_clear oz11 (by decide)
def z13 : ST := adS z12 3 2 1
theorem oz13 : OKS z13 := okn_adder oz12 (by decide) (by decide) (by decide) (by decide +kernel)
def Kz9 : KN := ([(4, 0, 0, 0), (4, 0, 0, 0), (2, 0, 1, 0), (0, 0, 1, 0)], [2, 3])
theorem rp_z13_3 : Rp (z13.1 3) Kz9 4 2 := rp_ct (by decide +kernel)
theorem of_z13_3_0 : ofV (z13.1 3) z13.2.1 z13.2.2 0 = nI 4 := of_0 rp_z13_3.1
theorem ni_z13_3 : nIn (z13.1 3) = 2 := by decide +kernel
theorem of_z13_3_1 : ofV (z13.1 3) z13.2.1 z13.2.2 1 = nI 2 := of_1 ni_z13_3
theorem of_z13_3_2 : ofV (z13.1 3) z13.2.1 z13.2.2 2 = nI 2 := of_2 rp_z13_3.2.1
theorem of_z13_3_3 : ofV (z13.1 3) z13.2.1 z13.2.2 3 = nI 2 := of_3 (area_ct rp_z13_3 (by decide +kernel))
def Tz24 : List Nat := [0, 0, 1, 1]
theorem tm_z13_3B : tmB Kz9 4 z13.2.1 Tz24 = true := by decide +kernel
theorem tm_z13_3 : ∀ k, k < nG (z13.1 3) → tm (z13.1 3) z13.2.1 k = Tz24.getD k 0 := fun k hk => tm_ct (oz13.1 3 (by decide)) rp_z13_3 tm_z13_3B (k + 1) k (Nat.lt_succ_self k) hk
theorem of_z13_3_4 : ofV (z13.1 3) z13.2.1 z13.2.2 4 = nI 1 := of_4 (dly_ct (oz13.1 3 (by decide)) rp_z13_3 tm_z13_3 (by decide +kernel))
theorem of_z13_3_6 : ofV (z13.1 3) z13.2.1 z13.2.2 6 = nI 0 := of_6 (idle_ct rp_z13_3 (by decide +kernel))
