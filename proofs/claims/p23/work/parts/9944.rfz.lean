/-! refuses: what there is not is refused, nothing changes -/
set_option maxHeartbeats 4000000 in
set_option maxRecDepth 100000 in
theorem w_refuses (l : Launch) (hfl : l.stackTraces = false) (G : GG) (a : Nat → Nat) (ha : Inj a) (t9 : Nat) (st : ST) (hO : OKS st) : Met l yL_refuses wsL_refuses ({ frames := 10, cells := 1200, slots := 7200, locals := 194 } : Room) (PcW G a t9 [.ref (a 0)] (fun H => CW G a st H)) (QI (fun (r : Int32) (_ : Unit) => r = nI 1) (fun _ H => CW G a st H) (rng a 0 93)) 1200 7200 (rng a 0 93) := by
  refine Met.ofW (cc := cL_refuses) (maxL := 12) (ret := (some .boolean)) (by decide) rfl ?_
  intro p e s m args below meth c s₁ B hml hv
  obtain ⟨⟨⟨⟨rfl, hCW, hK, hNW⟩, hLow⟩, hX⟩, hNC⟩ := hv
  have J : LJ p l s m meth c ([.ref (a 0)] : List Value).toArray cL_refuses (some .boolean) 12 wsL_refuses G a t9 := ⟨hfl, B.exec, B.bytes, B.returns, hml, findClass_of_methodNamed B.named, atoms_spec (ws := wsL_refuses) B.pre, B.notSynchronized, ha, hK, hNW, hLow, hX, hNC⟩
  have hl := lv_entry ([.ref (a 0)]) (n := 12) (Nat.le_of_ble_eq_true rfl)
  rw [lg_entry_eq]
  generalize (lg_sl ([.ref (a 0)]) ++ List.replicate (12 - (lg_sl ([.ref (a 0)])).length) Slot.unset).toArray = ls at hl ⊢
  have hl : lv_has ls 12 [(0, .ref (a 0))] := hl
  have hS : va_S (rng a 0 93) s.heap s.heap [] := va_S.rf
  obtain ⟨bf, hbf⟩ : ∃ bf : Int32, bf = (((nI (nG (st.1 0))) + ((nI 200) * (nI (nG (st.1 1))))) + ((nI 40000) * (nI (nG (st.1 2))))) + ((nI 8000000) * (nI (nG (st.1 3)))) := ⟨_, rfl⟩
  refine rf_0 J hO (bf := bf)  0 0 (Nat.le_of_ble_eq_true rfl) (Nat.le_of_ble_eq_true rfl) hS hCW (lv_sub hl [0] rfl) (fun H locs ls hS hCW hl => ?_)
  have hl : lv_has ls 12 [(3, .int (nI 0)), (2, .int bf), (1, .int (nI 2147483647)), (0, .ref (a 0))] := by rw [hbf]; exact hl
  refine rf_A0 J hO (bf := bf)  8 48 (Nat.le_of_ble_eq_true rfl) (Nat.le_of_ble_eq_true rfl) hS hCW (lv_sub hl [3, 2, 1, 0] rfl) (fun H locs ls hS hCW hl => ?_)
  refine rf_B0 J hO (bf := bf)  75 450 (Nat.le_of_ble_eq_true rfl) (Nat.le_of_ble_eq_true rfl) hS hCW (lv_sub hl [0, 1, 2, 3, 4, 5, 6, 7, 8] rfl) (fun H locs ls hS hCW hl => ?_)
  refine rf_N0 J hO (bf := bf) (n := 0) (by decide) 140 840 (Nat.le_of_ble_eq_true rfl) (Nat.le_of_ble_eq_true rfl) hS hCW (lv_sub hl [6, 7, 8, 9, 5, 4, 3, 2, 1, 0] rfl) (fun H locs ls hS hCW hl => ?_)
  refine rf_N0 J hO (bf := bf) (n := 1) (by decide) 181 1086 (Nat.le_of_ble_eq_true rfl) (Nat.le_of_ble_eq_true rfl) hS hCW (lv_sub hl [4, 5, 6, 7, 8, 9, 10, 11, 1, 0] rfl) (fun H locs ls hS hCW hl => ?_)
  refine rf_N0 J hO (bf := bf) (n := 2) (by decide) 222 1332 (Nat.le_of_ble_eq_true rfl) (Nat.le_of_ble_eq_true rfl) hS hCW (lv_sub hl [4, 5, 6, 7, 8, 9, 10, 11, 1, 0] rfl) (fun H locs ls hS hCW hl => ?_)
  refine rf_N0 J hO (bf := bf) (n := 3) (by decide) 263 1578 (Nat.le_of_ble_eq_true rfl) (Nat.le_of_ble_eq_true rfl) hS hCW (lv_sub hl [4, 5, 6, 7, 8, 9, 10, 11, 1, 0] rfl) (fun H locs ls hS hCW hl => ?_)
  refine rf_C0 J hO (bf := bf)  304 1824 (Nat.le_of_ble_eq_true rfl) (Nat.le_of_ble_eq_true rfl) hS hCW (lv_sub hl [4, 5, 6, 7, 8, 9, 10, 11, 1, 0] rfl) (fun H locs ls hS hCW hl => ?_)
  refine rf_A1 J hO (bf := bf)  304 1824 (Nat.le_of_ble_eq_true rfl) (Nat.le_of_ble_eq_true rfl) hS hCW (lv_sub hl [1, 2, 3, 0] rfl) (fun H locs ls hS hCW hl => ?_)
  refine rf_B1 J hO (bf := bf)  371 2226 (Nat.le_of_ble_eq_true rfl) (Nat.le_of_ble_eq_true rfl) hS hCW (lv_sub hl [0, 1, 2, 3, 4, 5, 6, 7, 8] rfl) (fun H locs ls hS hCW hl => ?_)
  refine rf_N1 J hO (bf := bf) (n := 0) (by decide) 436 2616 (Nat.le_of_ble_eq_true rfl) (Nat.le_of_ble_eq_true rfl) hS hCW (lv_sub hl [6, 7, 8, 9, 5, 4, 3, 2, 1, 0] rfl) (fun H locs ls hS hCW hl => ?_)
  refine rf_N1 J hO (bf := bf) (n := 1) (by decide) 477 2862 (Nat.le_of_ble_eq_true rfl) (Nat.le_of_ble_eq_true rfl) hS hCW (lv_sub hl [4, 5, 6, 7, 8, 9, 10, 11, 1, 0] rfl) (fun H locs ls hS hCW hl => ?_)
  refine rf_N1 J hO (bf := bf) (n := 2) (by decide) 518 3108 (Nat.le_of_ble_eq_true rfl) (Nat.le_of_ble_eq_true rfl) hS hCW (lv_sub hl [4, 5, 6, 7, 8, 9, 10, 11, 1, 0] rfl) (fun H locs ls hS hCW hl => ?_)
  refine rf_N1 J hO (bf := bf) (n := 3) (by decide) 559 3354 (Nat.le_of_ble_eq_true rfl) (Nat.le_of_ble_eq_true rfl) hS hCW (lv_sub hl [4, 5, 6, 7, 8, 9, 10, 11, 1, 0] rfl) (fun H locs ls hS hCW hl => ?_)
  refine rf_C1 J hO (bf := bf)  600 3600 (Nat.le_of_ble_eq_true rfl) (Nat.le_of_ble_eq_true rfl) hS hCW (lv_sub hl [4, 5, 6, 7, 8, 9, 10, 11, 1, 0] rfl) (fun H locs ls hS hCW hl => ?_)
  refine rf_A2 J hO (bf := bf)  600 3600 (Nat.le_of_ble_eq_true rfl) (Nat.le_of_ble_eq_true rfl) hS hCW (lv_sub hl [1, 2, 3, 0] rfl) (fun H locs ls hS hCW hl => ?_)
  refine rf_B2 J hO (bf := bf)  667 4002 (Nat.le_of_ble_eq_true rfl) (Nat.le_of_ble_eq_true rfl) hS hCW (lv_sub hl [0, 1, 2, 3, 4, 5, 6, 7, 8] rfl) (fun H locs ls hS hCW hl => ?_)
  refine rf_N2 J hO (bf := bf) (n := 0) (by decide) 732 4392 (Nat.le_of_ble_eq_true rfl) (Nat.le_of_ble_eq_true rfl) hS hCW (lv_sub hl [6, 7, 8, 9, 5, 4, 3, 2, 1, 0] rfl) (fun H locs ls hS hCW hl => ?_)
  refine rf_N2 J hO (bf := bf) (n := 1) (by decide) 773 4638 (Nat.le_of_ble_eq_true rfl) (Nat.le_of_ble_eq_true rfl) hS hCW (lv_sub hl [4, 5, 6, 7, 8, 9, 10, 11, 1, 0] rfl) (fun H locs ls hS hCW hl => ?_)
  refine rf_N2 J hO (bf := bf) (n := 2) (by decide) 814 4884 (Nat.le_of_ble_eq_true rfl) (Nat.le_of_ble_eq_true rfl) hS hCW (lv_sub hl [4, 5, 6, 7, 8, 9, 10, 11, 1, 0] rfl) (fun H locs ls hS hCW hl => ?_)
  refine rf_N2 J hO (bf := bf) (n := 3) (by decide) 855 5130 (Nat.le_of_ble_eq_true rfl) (Nat.le_of_ble_eq_true rfl) hS hCW (lv_sub hl [4, 5, 6, 7, 8, 9, 10, 11, 1, 0] rfl) (fun H locs ls hS hCW hl => ?_)
  refine rf_C2 J hO (bf := bf)  896 5376 (Nat.le_of_ble_eq_true rfl) (Nat.le_of_ble_eq_true rfl) hS hCW (lv_sub hl [4, 5, 6, 7, 8, 9, 10, 11, 1, 0] rfl) (fun H locs ls hS hCW hl => ?_)
  refine rf_A3 J hO (bf := bf)  896 5376 (Nat.le_of_ble_eq_true rfl) (Nat.le_of_ble_eq_true rfl) hS hCW (lv_sub hl [1, 2, 3, 0] rfl) (fun H locs ls hS hCW hl => ?_)
  refine rf_B3 J hO (bf := bf)  963 5778 (Nat.le_of_ble_eq_true rfl) (Nat.le_of_ble_eq_true rfl) hS hCW (lv_sub hl [0, 1, 2, 3, 4, 5, 6, 7, 8] rfl) (fun H locs ls hS hCW hl => ?_)
  refine rf_N3 J hO (bf := bf) (n := 0) (by decide) 1028 6168 (Nat.le_of_ble_eq_true rfl) (Nat.le_of_ble_eq_true rfl) hS hCW (lv_sub hl [6, 7, 8, 9, 5, 4, 3, 2, 1, 0] rfl) (fun H locs ls hS hCW hl => ?_)
  refine rf_N3 J hO (bf := bf) (n := 1) (by decide) 1069 6414 (Nat.le_of_ble_eq_true rfl) (Nat.le_of_ble_eq_true rfl) hS hCW (lv_sub hl [4, 5, 6, 7, 8, 9, 10, 11, 1, 0] rfl) (fun H locs ls hS hCW hl => ?_)
  refine rf_N3 J hO (bf := bf) (n := 2) (by decide) 1110 6660 (Nat.le_of_ble_eq_true rfl) (Nat.le_of_ble_eq_true rfl) hS hCW (lv_sub hl [4, 5, 6, 7, 8, 9, 10, 11, 1, 0] rfl) (fun H locs ls hS hCW hl => ?_)
  refine rf_N3 J hO (bf := bf) (n := 3) (by decide) 1151 6906 (Nat.le_of_ble_eq_true rfl) (Nat.le_of_ble_eq_true rfl) hS hCW (lv_sub hl [4, 5, 6, 7, 8, 9, 10, 11, 1, 0] rfl) (fun H locs ls hS hCW hl => ?_)
  refine rf_C3 J hO (bf := bf)  1192 7152 (Nat.le_of_ble_eq_true rfl) (Nat.le_of_ble_eq_true rfl) hS hCW (lv_sub hl [4, 5, 6, 7, 8, 9, 10, 11, 1, 0] rfl) (fun H locs ls hS hCW hl => ?_)
  refine rf_F J hO (bf := bf) hbf 1192 7152 (Nat.le_of_ble_eq_true rfl) (Nat.le_of_ble_eq_true rfl) hS hCW (lv_sub hl [1, 2, 3, 0] rfl) (fun H locs ls hS hCW hl => ?_)
  exact en_wz () B.exec B.bytes B.returns B.notSynchronized hS nw1 rfl hCW dL_refuses_1250
