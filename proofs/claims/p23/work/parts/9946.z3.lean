/-! closed states, further -/
def z28 : ST := gaS z27 3 3 0 (ix (-5))
theorem oz28 : OKS z28 := okn_gate oz27 (by decide) (by decide) (by decide +kernel) (Or.inl rfl) (by decide +kernel)
def Kz16 : KN := ([(4, 0, 0, 0), (3, 0, 0, 0)], [])
theorem rp_z28_3 : Rp (z28.1 3) Kz16 2 0 := rp_ct (by decide +kernel)
def z29 : ST := gaS z28 3 0 0 (ix (nI 1))
theorem oz29 : OKS z29 := okn_gate oz28 (by decide) (by decide) (by decide +kernel) (Or.inr ⟨by decide +kernel, by decide⟩) (by decide +kernel)
def Kz17 : KN := ([(4, 0, 0, 0), (3, 0, 0, 0), (0, 0, 1, 0)], [])
theorem rp_z29_3 : Rp (z29.1 3) Kz17 3 0 := rp_ct (by decide +kernel)
def z30 : ST := ouS z29 3 2
theorem oz30 : OKS z30 := okn_out oz29 (by decide) (by decide +kernel) (by decide +kernel)
def Kz18 : KN := ([(4, 0, 0, 0), (3, 0, 0, 0), (0, 0, 1, 0)], [2])
theorem rp_z30_3 : Rp (z30.1 3) Kz18 3 1 := rp_ct (by decide +kernel)
def z31 : ST := ouS z30 3 2
theorem oz31 : OKS z31 := okn_out oz30 (by decide) (by decide +kernel) (by decide +kernel)
def Kz19 : KN := ([(4, 0, 0, 0), (3, 0, 0, 0), (0, 0, 1, 0)], [2, 2])
theorem rp_z31_3 : Rp (z31.1 3) Kz19 3 2 := rp_ct (by decide +kernel)
def z32 : ST := ouS z31 3 0
theorem oz32 : OKS z32 := okn_out oz31 (by decide) (by decide +kernel) (by decide +kernel)
def Kz20 : KN := ([(4, 0, 0, 0), (3, 0, 0, 0), (0, 0, 1, 0)], [2, 2, 0])
theorem rp_z32_3 : Rp (z32.1 3) Kz20 3 3 := rp_ct (by decide +kernel)
theorem of_z32_3_5 : ofV (z32.1 3) z32.2.1 z32.2.2 5 = nI 3 := of_5 (load_ct (oz32.1 3 (by decide)) rp_z32_3 (by decide +kernel))
theorem vl_z32_3_1 : vl (z32.1 3) 1 = nI 4 := vl1_ct (B := 1) (oz32.1 3 (by decide)) rp_z32_3 (by decide +kernel) (by decide +kernel)
theorem vl_z32_3_0 : vl (z32.1 3) 0 = nI 0 := vl1_ct (B := 2) (oz32.1 3 (by decide)) rp_z32_3 (by decide +kernel) (by decide +kernel)
def Tz34 : List Nat := [0, 1, 2]
theorem tm_z32_3B : tmB Kz20 3 z32.2.1 Tz34 = true := by decide +kernel
theorem tm_z32_3 : ∀ k, k < nG (z32.1 3) → tm (z32.1 3) z32.2.1 k = Tz34.getD k 0 := fun k hk => tm_ct (oz32.1 3 (by decide)) rp_z32_3 tm_z32_3B (k + 1) k (Nat.lt_succ_self k) hk
def Vz35 : List Nat := [7, 1, 2]
theorem ch_z32_3_0_1 : tkV (z32.1 3) z32.2.1 0 1 (mxT (z32.1 3) z32.2.1 (nG (z32.1 3)) + 1) 0 = 3 ∧ tkV (z32.1 3) z32.2.1 0 1 (mxT (z32.1 3) z32.2.1 (nG (z32.1 3)) + 1) 1 = 2 ∧ tkV (z32.1 3) z32.2.1 0 1 (mxT (z32.1 3) z32.2.1 (nG (z32.1 3)) + 1) 2 = 2 := chg_ct (B0 := 2) (B1 := 1) (q := 3) (mask := 7) (T := Tz34) (V := Vz35) (oz32.1 3 (by decide)) rp_z32_3 tm_z32_3B (by decide +kernel) (by decide +kernel) (by decide +kernel) (by decide +kernel) (by decide +kernel) (by decide +kernel) (by decide +kernel) (by decide +kernel)
def Vz36 : List Nat := [0, 6, 0]
theorem ch_z32_3_1_0 : tkV (z32.1 3) z32.2.1 1 0 (mxT (z32.1 3) z32.2.1 (nG (z32.1 3)) + 1) 0 = 1 ∧ tkV (z32.1 3) z32.2.1 1 0 (mxT (z32.1 3) z32.2.1 (nG (z32.1 3)) + 1) 1 = 1 ∧ tkV (z32.1 3) z32.2.1 1 0 (mxT (z32.1 3) z32.2.1 (nG (z32.1 3)) + 1) 2 = 0 := chg_ct (B0 := 1) (B1 := 2) (q := 3) (mask := 7) (T := Tz34) (V := Vz36) (oz32.1 3 (by decide)) rp_z32_3 tm_z32_3B (by decide +kernel) (by decide +kernel) (by decide +kernel) (by decide +kernel) (by decide +kernel) (by decide +kernel) (by decide +kernel) (by decide +kernel)
def Pz37 : List Nat := [2, 1, 0]
theorem pt_z32_3 : ∀ m, pt (z32.1 3) z32.2.1 m = Pz37[m]? := pt_ct (oz32.1 3 (by decide)) rp_z32_3 tm_z32_3 (show pthB Kz20 3 3 z32.2.1 Tz34 Pz37 3 = true by decide +kernel)
theorem pa_z32_3_0 : paV (z32.1 3) z32.2.1 (nI 0) = nI 2 := (pa_ct pt_z32_3 (by decide)).trans (by decide)
theorem pa_z32_3_1 : paV (z32.1 3) z32.2.1 (nI 1) = nI 1 := (pa_ct pt_z32_3 (by decide)).trans (by decide)
theorem pa_z32_3_2 : paV (z32.1 3) z32.2.1 (nI 2) = nI 0 := (pa_ct pt_z32_3 (by decide)).trans (by decide)
theorem pa_z32_3_3 : paV (z32.1 3) z32.2.1 (nI 3) = -1 := (pa_ct pt_z32_3 (by decide)).trans (by decide)
theorem pa_z32_3_4 : paV (z32.1 3) z32.2.1 (nI 4) = -1 := (pa_ct pt_z32_3 (by decide)).trans (by decide)
def PATz1 : List Nat := [2]
theorem pat_PATz1 : paB 1 2 PATz1 = true := by decide +kernel
def Bz38 : List Nat := [2, 1, 0]
theorem tt_z32_3 : ∀ num, num < 2 → ∀ m k, k < m → k < nG (z32.1 3) → bt (z32.1 3) num k = (Bz38.getD k 0).testBit num := fun num hn => tt_ct (i := 1) (q := 2) (mask := 3) (Pt := PATz1) (T := Bz38) (oz32.1 3 (by decide)) rp_z32_3 (by decide +kernel) pat_PATz1 (by decide +kernel) hn
theorem ni_z32_3 : nIn (z32.1 3) = 1 := by decide +kernel
theorem ul_z32_3_3_d : ∀ x, x < 2 → dfT (z32.1 3) (z32.1 3) x 16 = dfK (obK Kz20 3 Bz38 x) (obK Kz20 3 Bz38 x) 16 := fun x hx => (df_c (f := obK Kz20 3 Bz38 x) (g := obK Kz20 3 Bz38 x) (ob_ct (oz32.1 3 (by decide)) rp_z32_3 tt_z32_3 hx) (ob_ct (oz32.1 3 (by decide)) rp_z32_3 tt_z32_3 hx) 16)
theorem ul_z32_3_3_c : allU (fun x => !dfK (obK Kz20 3 Bz38 x) (obK Kz20 3 Bz38 x) 16) 2 = true := by decide +kernel
theorem ul_z32_3_3 {r : Int32} (h : unS (z32.1 3) (z32.1 3) (2 ^ nIn (z32.1 3)) r) : r = -1 := uns_m h (fun x hx => by
  rw [ni_z32_3] at hx
  have hx : x < 2 := hx
  rw [ul_z32_3_3_d x hx]
  exact notT (allU_at ul_z32_3_3_c hx))
def z33 : ST := coS z32 0 3 5
theorem oz33 : OKS z33 := okn_cost oz32 (by decide) (by decide) (by decide)
theorem rp_z33_3 : Rp (z33.1 3) Kz20 3 3 := rp_ct (by decide +kernel)
theorem of_z33_3_0 : ofV (z33.1 3) z33.2.1 z33.2.2 0 = nI 3 := of_0 rp_z33_3.1
theorem ni_z33_3 : nIn (z33.1 3) = 1 := by decide +kernel
theorem of_z33_3_1 : ofV (z33.1 3) z33.2.1 z33.2.2 1 = nI 1 := of_1 ni_z33_3
theorem of_z33_3_2 : ofV (z33.1 3) z33.2.1 z33.2.2 2 = nI 3 := of_2 rp_z33_3.2.1
theorem of_z33_3_3 : ofV (z33.1 3) z33.2.1 z33.2.2 3 = nI 6 := of_3 (area_ct rp_z33_3 (by decide +kernel))
def Tz39 : List Nat := [0, 1, 4]
theorem tm_z33_3B : tmB Kz20 3 z33.2.1 Tz39 = true := by decide +kernel
theorem tm_z33_3 : ∀ k, k < nG (z33.1 3) → tm (z33.1 3) z33.2.1 k = Tz39.getD k 0 := fun k hk => tm_ct (oz33.1 3 (by decide)) rp_z33_3 tm_z33_3B (k + 1) k (Nat.lt_succ_self k) hk
theorem of_z33_3_4 : ofV (z33.1 3) z33.2.1 z33.2.2 4 = nI 4 := of_4 (dly_ct (oz33.1 3 (by decide)) rp_z33_3 tm_z33_3 (by decide +kernel))
theorem of_z33_3_6 : ofV (z33.1 3) z33.2.1 z33.2.2 6 = nI 0 := of_6 (idle_ct rp_z33_3 (by decide +kernel))
theorem ti_z33_3_2 : nI (tm (z33.1 3) z33.2.1 2) = nI 4 := congrArg nI ((tm_z33_3 2 (by rw [rp_z33_3.1]; decide)).trans (by decide))
def Vz40 : List Nat := [31, 1, 8]
theorem ch_z33_3_0_1 : tkV (z33.1 3) z33.2.1 0 1 (mxT (z33.1 3) z33.2.1 (nG (z33.1 3)) + 1) 0 = 3 ∧ tkV (z33.1 3) z33.2.1 0 1 (mxT (z33.1 3) z33.2.1 (nG (z33.1 3)) + 1) 1 = 4 ∧ tkV (z33.1 3) z33.2.1 0 1 (mxT (z33.1 3) z33.2.1 (nG (z33.1 3)) + 1) 2 = 2 := chg_ct (B0 := 2) (B1 := 1) (q := 5) (mask := 31) (T := Tz39) (V := Vz40) (oz33.1 3 (by decide)) rp_z33_3 tm_z33_3B (by decide +kernel) (by decide +kernel) (by decide +kernel) (by decide +kernel) (by decide +kernel) (by decide +kernel) (by decide +kernel) (by decide +kernel)
def z34 : ST := skS z33 3 1 (nI 1)
theorem oz34 : OKS z34 := okn_stick oz33 (by decide) (by decide +kernel) (by decide)
def Kz21 : KN := ([(4, 0, 0, 0), (3, 0, 0, 2), (0, 0, 1, 0)], [2, 2, 0])
theorem rp_z34_3 : Rp (z34.1 3) Kz21 3 3 := rp_ct (by decide +kernel)
theorem tm_z34_3B : tmB Kz21 3 z34.2.1 Tz39 = true := by decide +kernel
theorem tm_z34_3 : ∀ k, k < nG (z34.1 3) → tm (z34.1 3) z34.2.1 k = Tz39.getD k 0 := fun k hk => tm_ct (oz34.1 3 (by decide)) rp_z34_3 tm_z34_3B (k + 1) k (Nat.lt_succ_self k) hk
def Vz41 : List Nat := [31, 31, 24]
theorem ch_z34_3_0_1 : tkV (z34.1 3) z34.2.1 0 1 (mxT (z34.1 3) z34.2.1 (nG (z34.1 3)) + 1) 0 = 1 ∧ tkV (z34.1 3) z34.2.1 0 1 (mxT (z34.1 3) z34.2.1 (nG (z34.1 3)) + 1) 1 = 3 ∧ tkV (z34.1 3) z34.2.1 0 1 (mxT (z34.1 3) z34.2.1 (nG (z34.1 3)) + 1) 2 = 1 := chg_ct (B0 := 2) (B1 := 7) (q := 5) (mask := 31) (T := Tz39) (V := Vz41) (oz34.1 3 (by decide)) rp_z34_3 tm_z34_3B (by decide +kernel) (by decide +kernel) (by decide +kernel) (by decide +kernel) (by decide +kernel) (by decide +kernel) (by decide +kernel) (by decide +kernel)
theorem vl_z34_3_1 : vl (z34.1 3) 1 = nI 7 := vl1_ct (B := 7) (oz34.1 3 (by decide)) rp_z34_3 (by decide +kernel) (by decide +kernel)
def z35 : ST := skS z34 3 1 (-1)
theorem oz35 : OKS z35 := okn_stick oz34 (by decide) (by decide +kernel) (by decide)
def z36 : ST := coS z35 0 9 0
theorem oz36 : OKS z36 := okn_cost oz35 (by decide) (by decide) (by decide)
theorem rp_z36_3 : Rp (z36.1 3) Kz20 3 3 := rp_ct (by decide +kernel)
def Tz42 : List Nat := [0, 1, 10]
theorem tm_z36_3B : tmB Kz20 3 z36.2.1 Tz42 = true := by decide +kernel
theorem tm_z36_3 : ∀ k, k < nG (z36.1 3) → tm (z36.1 3) z36.2.1 k = Tz42.getD k 0 := fun k hk => tm_ct (oz36.1 3 (by decide)) rp_z36_3 tm_z36_3B (k + 1) k (Nat.lt_succ_self k) hk
def Vz43 : List Nat := [2047, 1, 512]
theorem ch_z36_3_0_1 : tkV (z36.1 3) z36.2.1 0 1 (mxT (z36.1 3) z36.2.1 (nG (z36.1 3)) + 1) 0 = 3 ∧ tkV (z36.1 3) z36.2.1 0 1 (mxT (z36.1 3) z36.2.1 (nG (z36.1 3)) + 1) 1 = 10 ∧ tkV (z36.1 3) z36.2.1 0 1 (mxT (z36.1 3) z36.2.1 (nG (z36.1 3)) + 1) 2 = 2 := chg_ct (B0 := 2) (B1 := 1) (q := 11) (mask := 2047) (T := Tz42) (V := Vz43) (oz36.1 3 (by decide)) rp_z36_3 tm_z36_3B (by decide +kernel) (by decide +kernel) (by decide +kernel) (by decide +kernel) (by decide +kernel) (by decide +kernel) (by decide +kernel) (by decide +kernel)
theorem of_z36_3_3 : ofV (z36.1 3) z36.2.1 z36.2.2 3 = nI 1 := of_3 (area_ct rp_z36_3 (by decide +kernel))
def z37 : ST := coS z36 0 1 1
theorem oz37 : OKS z37 := okn_cost oz36 (by decide) (by decide) (by decide)
def z38 : ST := coS z37 3 1 1
theorem oz38 : OKS z38 := okn_cost oz37 (by decide) (by decide) (by decide)
theorem rp_z38_3 : Rp (z38.1 3) Kz20 3 3 := rp_ct (by decide +kernel)
def z39 : ST := gaS z38 3 1 1 (ix (nI 1))
theorem oz39 : OKS z39 := okn_gate oz38 (by decide) (by decide) (by decide +kernel) (Or.inr ⟨by decide +kernel, by decide⟩) (by decide +kernel)
def Kz22 : KN := ([(4, 0, 0, 0), (3, 0, 0, 0), (0, 0, 1, 0), (1, 1, 1, 0)], [2, 2, 0])
theorem rp_z39_3 : Rp (z39.1 3) Kz22 4 3 := rp_ct (by decide +kernel)
def z40 : ST := gaS z39 3 2 3 (ix (nI 3))
theorem oz40 : OKS z40 := okn_gate oz39 (by decide) (by decide) (by decide +kernel) (Or.inr ⟨by decide +kernel, by decide⟩) (by decide +kernel)
def Kz23 : KN := ([(4, 0, 0, 0), (3, 0, 0, 0), (0, 0, 1, 0), (1, 1, 1, 0), (2, 3, 3, 0)], [2, 2, 0])
theorem rp_z40_3 : Rp (z40.1 3) Kz23 5 3 := rp_ct (by decide +kernel)
theorem of_z40_3_6 : ofV (z40.1 3) z40.2.1 z40.2.2 6 = nI 2 := of_6 (idle_ct rp_z40_3 (by decide +kernel))
theorem bt_z40_3_3_0 : bi (bt (z40.1 3) 0 3) = nI 1 := bit_ct (B := 10) (b := true) (oz40.1 3 (by decide)) rp_z40_3 (by decide +kernel) (by rw [rp_z40_3.1]; decide) (by decide +kernel)
theorem bt_z40_3_4_0 : bi (bt (z40.1 3) 0 4) = nI 0 := bit_ct (B := 10) (b := false) (oz40.1 3 (by decide)) rp_z40_3 (by decide +kernel) (by rw [rp_z40_3.1]; decide) (by decide +kernel)
theorem of_z40_3_5 : ofV (z40.1 3) z40.2.1 z40.2.2 5 = nI 3 := of_5 (load_ct (oz40.1 3 (by decide)) rp_z40_3 (by decide +kernel))
def z41 : ST := clS z40 3
theorem oz41 : OKS z41 := okn_clear oz40 (by decide)
