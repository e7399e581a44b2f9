/-! what the words say of the bits -/
theorem lb_lv {b : Bool} {i : Nat} (hi : i < 64) : lb (lv64 b) i = b := by
  cases b
  · exact lb_0
  · exact lb_m1 hi
theorem lb_jnW {kd : Nat} {x y : Int64} {i : Nat} (hi : i < 64) : lb (jnW kd x y) i = jn kd (lb x i) (lb y i) := by
  unfold jnW jn
  by_cases h0 : kd = 0
  · rw [if_pos h0, if_pos h0]; exact lb_and
  · rw [if_neg h0, if_neg h0]
    by_cases h1 : kd = 1
    · rw [if_pos h1, if_pos h1]; exact lb_or
    · rw [if_neg h1, if_neg h1]
      by_cases h2 : kd = 2
      · rw [if_pos h2, if_pos h2]; exact lb_xor
      · rw [if_neg h2, if_neg h2, lb_xor, lb_m1 hi]; cases lb x i <;> rfl
theorem evL_bi (b : Bool) : evL (bi b) = lv64 b := by cases b <;> rfl
theorem lowF_lb : ∀ p, p < 6 → ∀ i, i < 64 → lb (lowF p) i = i.testBit p := by decide +kernel
theorem inW_one {p b i : Nat} (hb : b < 2 ^ 31) (hp : p < 32) (hi : i < 64) : lb (inW p b False) i = b.testBit p := by
  unfold inW
  rw [if_neg (fun q => q.1), shr_bit hb hp, evL_bi, lb_lv hi]
theorem tb_low {b i p : Nat} (hb : b % 64 = 0) (hi : i < 64) (hp : p < 6) : (b + i).testBit p = i.testBit p := by
  have h : (b + i) % 2 ^ 6 = i := by omega
  have h2 := Nat.testBit_mod_two_pow (b + i) 6 p
  rw [h] at h2
  simpa [hp] using h2.symm
theorem tb_high {b i p : Nat} (hb : b % 64 = 0) (hi : i < 64) (hp : ¬ p < 6) : (b + i).testBit p = b.testBit p := by
  have h : (b + i) / 2 ^ 6 = b / 2 ^ 6 := by omega
  have e : p = 6 + (p - 6) := by omega
  have h1 : ((b + i) / 2 ^ 6).testBit (p - 6) = (b + i).testBit (p - 6 + 6) := Nat.testBit_div_two_pow (b + i) (p - 6)
  have h2 : (b / 2 ^ 6).testBit (p - 6) = b.testBit (p - 6 + 6) := Nat.testBit_div_two_pow b (p - 6)
  rw [Nat.sub_add_cancel (by omega)] at h1 h2
  rw [← h1, ← h2, h]
theorem inW_from {p b i : Nat} (hb : b % 64 = 0) (hb2 : b < 2 ^ 31) (hp : p < 32) (hi : i < 64) : lb (inW p b True) i = (b + i).testBit p := by
  unfold inW
  by_cases h : p < 6
  · rw [if_pos ⟨trivial, h⟩, lowF_lb p h i hi, tb_low hb hi h]
  · rw [if_neg (fun q => h q.2), shr_bit hb2 hp, evL_bi, lb_lv hi, tb_high hb hi h]
theorem fw_bits {N : NT} (hN : WF N) {iw : Nat → Int64} {num i : Nat} (hi : i < 64) (h : ∀ p, p < 30 → lb (iw p) i = num.testBit p) : ∀ (n k : Nat), k < n → k < nG N → lb (fw N iw k) i = bt N num k := by
  intro n
  induction n with
  | zero => intro k hk; exact absurd hk (Nat.not_lt_zero _)
  | succ n ih =>
    intro k hkn hk
    by_cases ht : nT N k = -1
    · rw [fw_ns hN hk ht]
      unfold fwR
      by_cases h4 : nK N k = 4
      · rw [if_pos h4, bt_in ht h4]
        exact h _ (inC_lt1 hN hk h4)
      · have hfs := hN.fs hk h4
        rw [if_neg h4, bt_gt hN hk ht h4, lb_jnW hi, ih _ (by omega) (by omega), ih _ (by omega) (by omega)]
    · rw [fw_st ht, bt_st ht]
      rcases hN.t hk with q | q | q
      · exact absurd q ht
      · rw [q]; exact lb_0
      · rw [q]; exact lb_m1 hi
theorem fw_one {N : NT} (hN : WF N) {num k : Nat} (hn : num < 2 ^ 31) (hk : k < nG N) : fw N (fun p => inW p num False) k = lv64 (bt N num k) := by
  apply lb_ext
  intro i hi
  rw [lb_lv hi]
  exact fw_bits hN hi (fun p hp => inW_one hn (by omega) hi) (k + 1) k (Nat.lt_succ_self k) hk
theorem low_lb {w : Int64} {i : Nat} (hi : i < 64) : (lushr_ w (nI i) &&& 1).toInt32 = bi (lb w i) := by
  rw [lb_low, lb_shr hi, Nat.add_zero]
  cases lb w i <;> decide
theorem vlW_vl {N : NT} {o : Nat → Int64} {num i : Nat} (hi : i < 64) : ∀ n, (∀ p, p < n → lb (o p) i = bt N num (nU N p)) → vlW o (nI i) n = vlT N (bt N num) n := by
  intro n
  induction n with
  | zero => intro _; rfl
  | succ n ih =>
    intro h
    show vlW o (nI i) n + _ = vlT N (bt N num) n + _
    rw [ih (fun p hp => h p (by omega)), low_lb hi, h n (by omega)]
theorem lane_val {N : NT} (hN : WF N) {o : Nat → Int64} {b i : Nat} (hb : b % 64 = 0) (hb2 : b < 2 ^ 31) (hi : i < 64) (ho : ∀ r, r < 16 → o r = if r < nO N then fw N (fun p => inW p b True) (nU N r) else 0) : vlW o (nI i) (nO N) = vl N (b + i) := by
  apply vlW_vl hi
  intro p hp
  have h16 := hN.o
  rw [ho p (by omega), if_pos hp]
  exact fw_bits hN hi (fun p hp => inW_from hb hb2 (by omega) hi) (nU N p + 1) (nU N p) (Nat.lt_succ_self _) (hN.u hp)
theorem one_val {N : NT} (hN : WF N) {o : Nat → Int64} {b : Nat} (hb2 : b < 2 ^ 31) (ho : ∀ r, r < 16 → o r = if r < nO N then fw N (fun p => inW p b False) (nU N r) else 0) : vlW o (nI 0) (nO N) = vl N b := by
  apply vlW_vl (by omega)
  intro p hp
  have h16 := hN.o
  rw [ho p (by omega), if_pos hp, fw_one hN hb2 (hN.u hp), lb_lv (by omega)]
/-- a net held against an operation -/
def absI (x : Int32) : Int32 := if 0 ≤ x then x else 0 - x
def dueN (op h n : Nat) : Nat := if op = 0 then n % 2 ^ h + n / 2 ^ h else (n % 2 ^ h) * (n / 2 ^ h)
def gapN (N : NT) (op n : Nat) : Int32 := absI (vl N n - nI (dueN op (nIn N / 2) n))
def AX (N : NT) (op : Nat) : Nat → Nat
  | 0 => 0
  | n + 1 => AX N op n + (if 0 < gapN N op n then 1 else 0)
def AY (N : NT) (op : Nat) : Nat → Int32
  | 0 => nI 0
  | n + 1 => if 0 < gapN N op n then (if AY N op n < gapN N op n then gapN N op n else AY N op n) else AY N op n
def AZ (N : NT) (op : Nat) : Nat → Int32
  | 0 => nI 0
  | n + 1 => if 0 < gapN N op n then AZ N op n + gapN N op n else AZ N op n
def AV (N : NT) (op : Nat) : Nat → Int32
  | 0 => -1
  | n + 1 => if 0 < gapN N op n then (if AX N op n = 0 then nI n else AV N op n) else AV N op n
def AU (N : NT) (op mo : Nat) : Nat → Int32
  | 0 => nI 0
  | n + 1 => if 0 < gapN N op n then (if gapN N op n - gapN N op n / nI mo * nI mo = 0 then AU N op mo n + nI 1 else AU N op mo n) else AU N op mo n
theorem AX_le (N : NT) (op : Nat) : ∀ n, AX N op n ≤ n := by
  intro n
  induction n with
  | zero => exact Nat.le_refl _
  | succ n ih =>
    show AX N op n + _ ≤ _
    by_cases h : 0 < gapN N op n
    · rw [if_pos h]; omega
    · rw [if_neg h]; omega
abbrev audS (a : Nat → Nat) (i : Nat) (N : NT) (op mo n : Nat) : va_W := audW a i (nI (AX N op n)) (AY N op n) (AZ N op n) (AV N op n) (AU N op mo n)
theorem aud_n {a : Nat → Nat} {i op mo n : Nat} {N : NT} (h : ¬ 0 < gapN N op n) : audS a i N op mo (n + 1) = audS a i N op mo n := by
  have h1 : AX N op (n + 1) = AX N op n := by show _ + _ = _; rw [if_neg h]; rfl
  have h2 : AY N op (n + 1) = AY N op n := if_neg h
  have h3 : AZ N op (n + 1) = AZ N op n := if_neg h
  have h4 : AV N op (n + 1) = AV N op n := if_neg h
  have h5 : AU N op mo (n + 1) = AU N op mo n := if_neg h
  unfold audS
  rw [h1, h2, h3, h4, h5]
theorem aud_y {a : Nat → Nat} {i op mo n : Nat} {N : NT} (h : 0 < gapN N op n) : audS a i N op mo (n + 1) = audW a i (nI (AX N op n + 1)) (if AY N op n < gapN N op n then gapN N op n else AY N op n) (AZ N op n + gapN N op n) (if AX N op n = 0 then nI n else AV N op n) (if gapN N op n - gapN N op n / nI mo * nI mo = 0 then AU N op mo n + nI 1 else AU N op mo n) := by
  have h1 : AX N op (n + 1) = AX N op n + 1 := by show _ + _ = _; rw [if_pos h]
  have h2 : AY N op (n + 1) = _ := if_pos h
  have h3 : AZ N op (n + 1) = _ := if_pos h
  have h4 : AV N op (n + 1) = _ := if_pos h
  have h5 : AU N op mo (n + 1) = _ := if_pos h
  unfold audS
  rw [h1, h2, h3, h4, h5]
theorem shl1 {k : Nat} (hk : k < 31) : nI 1 <<< (nI k &&& 31) = nI (2 ^ k) := by
  have hs : ∀ l, l < 32 → ((nI l &&& 31).toBitVec.smod 32).toNat = l := by decide +kernel
  have h2 : 2 ^ k < 2 ^ 32 := Nat.pow_lt_pow_right (by omega) (by omega)
  rw [pk_shlN _ k (hs k (by omega)) (by rw [Nat.one_mul]; exact h2), Nat.one_mul]
theorem mskN {n h : Nat} (hn : n < 2 ^ 31) (hh : h < 31) : nI n &&& (nI (2 ^ h) - nI 1) = nI (n % 2 ^ h) := by
  have h1 : 1 ≤ 2 ^ h := Nat.one_le_two_pow
  have h2 : 2 ^ h < 2 ^ 31 := Nat.pow_lt_pow_right (by omega) hh
  rw [pk_sub h1, pk_andN (by omega) h]
  rw [pk_tn (by omega)]
theorem shrN {n k : Nat} (hn : n < 2 ^ 31) (hk : k < 32) : nI n >>> (nI k &&& 31) = nI (n / 2 ^ k) := by
  have hs : ∀ l, l < 32 → ((nI l &&& 31).toBitVec.smod 32).toNat = l := by decide +kernel
  exact pk_shrN hn _ k (hs k hk)
