/-! the law's loop -/
theorem and31 (v : Int32) : ∃ k, k < 32 ∧ v &&& nI 31 = nI k := by
  refine ⟨(v &&& nI 31).toBitVec.toNat, ?_, ?_⟩
  · rw [Int32.toBitVec_and, BitVec.toNat_and]
    exact Nat.lt_of_le_of_lt Nat.and_le_right (by decide)
  · apply Int32.toBitVec_inj.mp
    show _ = (Int32.ofNat _).toBitVec
    rw [Int32.toBitVec_ofNat']
    simp
set_option maxHeartbeats 4000000 in
set_option maxRecDepth 100000 in
theorem law_loop {p : Program} {l : Launch} {e : Env} {s : State} {m : MethodId} {below : List Frame} {meth : Method} {c : Code} {b L : Nat} {xs : Nat → Int32} (hfl : l.stackTraces = false) {G : GG} {a : Nat → Nat} {t9 : Nat} (D0 : LC p s m meth c b L xs G a t9) (hL : L ≤ 2560) : ∀ (n i : Nat), 5 * i ≤ L → L + 1 ≤ 5 * i + 5 * n → ∀ {st : ST} {th : Int32} {f0 : Nat → Int64}, OKS st → ∀ {H : Heap} {locs : List Loc} {ls : Array Slot}, va_S (fun q : Nat => s.heap.size ≤ q) s.heap H locs → CW G a st H → MW G a st th H → outP G a f0 H → lv_has ls 7 [(0, .ref b), (1, .ref (a 0)), (2, .ref (a 93)), (3, .ref (a 115)), (4, .int (nI (5 * i)))] → W p l e room_1 s m #[Value.ref b] below meth c H locs (500 + 10 * i) (20000 + 100 * i) (lw_Z below #[Value.ref b] s) (F0 m 23 ls []) := by
  obtain ⟨⟨hx, hb, hr, hml, hown, hts0, hX0, hbl, hlocks, hgv⟩, ha, hK, hNW, hLow, hX, hNC, hA⟩ := id D0
  have hbA : ¬ (fun q : Nat => s.heap.size ≤ q) b := Nat.not_le.mpr hbl
  intro n
  induction n with
  | zero => exact fun i h1 h2 => absurd h2 (by omega)
  | succ n ih =>
    intro i h1 h2 st th f0 hO H locs ls hS hCW hMW hOut hl
    refine lv_iload hx hb dL_law_23 (lv_at hl 4 rfl) ?_
    refine lv_aload_n hx hb dL_law_25 rfl (lv_at hl 0 rfl) ?_
    refine va_slen hx hb hX0 hbl hbA hS dL_law_26 ?_
    refine lv_iconst (v := nI 5) hx hb dL_law_27 (by decide) ?_
    refine lv_isub hx hb dL_law_28 ?_
    refine lv_icmp_gt (tgt := 1618) hx hb dL_law_29 (by decide) (fun c1 => ?_) (fun c1 => ?_)
    · refine lv_iconst (v := 1) hx hb dL_law_1618 (by decide) ?_
      refine va_forget (fun q hq => hS.2.2 q hq) ?_
      refine wid (k := 601024) (n := 7293034) (by omega) (by omega) ?_
      exact lw_ret hx hb hr hlocks dL_law_1619
    · have c2 : 5 * i + 4 < L := by
        have q : ¬ (nI L - nI 5).toInt < (nI (5 * i)).toInt := fun q => c1 (Int32.lt_iff_toInt_lt.mpr q)
        rw [nI_subI (a := L) (b := 5) (by omega) (by omega), nI_toInt (by omega)] at q
        omega
      have K : ∀ (st1 : ST) (th1 : Int32) (f1 : Nat → Int64) (H1 : Heap) (locs1 : List Loc) (ls1 : Array Slot), OKS st1 → CW G a st1 H1 → MW G a st1 th1 H1 → outP G a f1 H1 → va_S (fun q : Nat => s.heap.size ≤ q) s.heap H1 locs1 → lv_has ls1 7 [(0, .ref b), (1, .ref (a 0)), (2, .ref (a 93)), (3, .ref (a 115)), (4, .int (nI (5 * i)))] → W p l e room_1 s m #[Value.ref b] below meth c H1 locs1 (500 + 10 * i + 10) (20000 + 100 * i + 100) (lw_Z below #[Value.ref b] s) (F0 m 1612 ls1 []) := by
        intro st1 th1 f1 H1 locs1 ls1 hO hCW hMW hOut hS hl
        refine lv_iinc (v := nI (5 * (i + 1))) (lv' := [(4, .int (nI (5 * (i + 1)))), (0, .ref b), (1, .ref (a 0)), (2, .ref (a 93)), (3, .ref (a 115))]) hx hb dL_law_1612 hl (k := 4) rfl (by first | exact nI_add _ 5 | rfl) (by decide) rfl (fun ls hl => ?_)
        refine lv_goto (tgt := 23) hx hb dL_law_1615 (by decide) (wid (by omega) (by omega) (ih (i + 1) (by omega) (by omega) hO hS hCW hMW hOut (lv_sub hl [1, 2, 3, 4, 0] rfl)))
      refine lv_aload_n hx hb dL_law_32 rfl (lv_at hl 0 rfl) ?_
      refine lv_iload hx hb dL_law_33 (lv_at hl 4 rfl) ?_
      refine va_sld hx hb hX0 hbl hbA hS (vp_in_nI (by omega) (by omega)) dL_law_35 ?_
      refine lv_bipush (v := nI 31) hx hb dL_law_36 (by decide) ?_
      refine lv_iand hx hb dL_law_38 ?_
      obtain ⟨k, hk, ek⟩ := and31 (xs (nI (5 * i)).toNatClampNeg)
      rw [ek]
      rcases (show k = 0 ∨ k = 1 ∨ k = 2 ∨ k = 3 ∨ k = 4 ∨ k = 5 ∨ k = 6 ∨ k = 7 ∨ k = 8 ∨ k = 9 ∨ k = 10 ∨ k = 11 ∨ k = 12 ∨ k = 13 ∨ k = 14 ∨ k = 15 ∨ k = 16 ∨ k = 17 ∨ k = 18 ∨ k = 19 ∨ 20 ≤ k by omega) with rfl | rfl | rfl | rfl | rfl | rfl | rfl | rfl | rfl | rfl | rfl | rfl | rfl | rfl | rfl | rfl | rfl | rfl | rfl | rfl | hc
      · refine lv_tableIn (tgt := 132) hx hb dL_law_39 (by decide) (by decide) (off := 93) (by decide) (by decide) ?_
        exact b_input hfl D0 hL hO c2 (by omega) (by omega) hS hCW hMW hOut hl K
      · refine lv_tableIn (tgt := 188) hx hb dL_law_39 (by decide) (by decide) (off := 149) (by decide) (by decide) ?_
        exact b_gate hfl D0 hL hO c2 (by omega) (by omega) hS hCW hMW hOut hl K
      · refine lv_tableIn (tgt := 280) hx hb dL_law_39 (by decide) (by decide) (off := 241) (by decide) (by decide) ?_
        exact b_out hfl D0 hL hO c2 (by omega) (by omega) hS hCW hMW hOut hl K
      · refine lv_tableIn (tgt := 348) hx hb dL_law_39 (by decide) (by decide) (off := 309) (by decide) (by decide) ?_
        exact b_adder hfl D0 hL hO c2 (by omega) (by omega) hS hCW hMW hOut hl K
      · refine lv_tableIn (tgt := 428) hx hb dL_law_39 (by decide) (by decide) (off := 389) (by decide) (by decide) ?_
        exact b_multiplier hfl D0 hL hO c2 (by omega) (by omega) hS hCW hMW hOut hl K
      · refine lv_tableIn (tgt := 496) hx hb dL_law_39 (by decide) (by decide) (off := 457) (by decide) (by decide) ?_
        exact b_clear hfl D0 hL hO c2 (by omega) (by omega) hS hCW hMW hOut hl K
      · refine lv_tableIn (tgt := 552) hx hb dL_law_39 (by decide) (by decide) (off := 513) (by decide) (by decide) ?_
        exact b_cost hfl D0 hL hO c2 (by omega) (by omega) hS hCW hMW hOut hl K
      · refine lv_tableIn (tgt := 632) hx hb dL_law_39 (by decide) (by decide) (off := 593) (by decide) (by decide) ?_
        exact b_stick hfl D0 hL hO c2 (by omega) (by omega) hS hCW hMW hOut hl K
      · refine lv_tableIn (tgt := 712) hx hb dL_law_39 (by decide) (by decide) (off := 673) (by decide) (by decide) ?_
        exact b_bit hfl D0 hL hO c2 (by omega) (by omega) hS hCW hMW hOut hl K
      · refine lv_tableIn (tgt := 792) hx hb dL_law_39 (by decide) (by decide) (off := 753) (by decide) (by decide) ?_
        exact b_value hfl D0 hL hO c2 (by omega) (by omega) hS hCW hMW hOut hl K
      · refine lv_tableIn (tgt := 860) hx hb dL_law_39 (by decide) (by decide) (off := 821) (by decide) (by decide) ?_
        exact b_valueAnew hfl D0 hL hO c2 (by omega) (by omega) hS hCW hMW hOut hl K
      · refine lv_tableIn (tgt := 928) hx hb dL_law_39 (by decide) (by decide) (off := 889) (by decide) (by decide) ?_
        exact b_ofNet hfl D0 hL hO c2 (by omega) (by omega) hS hCW hMW hOut hl K
      · refine lv_tableIn (tgt := 996) hx hb dL_law_39 (by decide) (by decide) (off := 957) (by decide) (by decide) ?_
        exact b_time hfl D0 hL hO c2 (by omega) (by omega) hS hCW hMW hOut hl K
      · refine lv_tableIn (tgt := 1064) hx hb dL_law_39 (by decide) (by decide) (off := 1025) (by decide) (by decide) ?_
        exact b_path hfl D0 hL hO c2 (by omega) (by omega) hS hCW hMW hOut hl K
      · refine lv_tableIn (tgt := 1132) hx hb dL_law_39 (by decide) (by decide) (off := 1093) (by decide) (by decide) ?_
        exact b_changes hfl D0 hL hO c2 (by omega) (by omega) hS hCW hMW hOut hl K
      · refine lv_tableIn (tgt := 1224) hx hb dL_law_39 (by decide) (by decide) (off := 1185) (by decide) (by decide) ?_
        exact b_changesAnew hfl D0 hL hO c2 (by omega) (by omega) hS hCW hMW hOut hl K
      · refine lv_tableIn (tgt := 1316) hx hb dL_law_39 (by decide) (by decide) (off := 1277) (by decide) (by decide) ?_
        exact b_off hfl D0 hL hO c2 (by omega) (by omega) hS hCW hMW hOut hl K
      · refine lv_tableIn (tgt := 1396) hx hb dL_law_39 (by decide) (by decide) (off := 1357) (by decide) (by decide) ?_
        exact b_unseen hfl D0 hL hO c2 (by omega) (by omega) hS hCW hMW hOut hl K
      · refine lv_tableIn (tgt := 1476) hx hb dL_law_39 (by decide) (by decide) (off := 1437) (by decide) (by decide) ?_
        exact b_unlike hfl D0 hL hO c2 (by omega) (by omega) hS hCW hMW hOut hl K
      · refine lv_tableIn (tgt := 1544) hx hb dL_law_39 (by decide) (by decide) (off := 1505) (by decide) (by decide) ?_
        exact b_digit hfl D0 hL hO c2 (by omega) (by omega) hS hCW hMW hOut hl K
      · refine lv_tableOut (tgt := 1612) hx hb dL_law_39 (Or.inr (by rw [nI_toInt (by omega)]; omega)) (by decide) ?_
        exact wid (by omega) (by omega) (K st th f0 H locs ls hO hCW hMW hOut hS hl)
