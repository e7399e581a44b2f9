/-! bits of longs (ts_bit, wb_c, wb_cu, wb_sm: from the kit's BITS family) -/
theorem wb_c : ∀ k, k < 64 → ((nI k).toInt64 &&& 63) = lN k := by decide +kernel
theorem wb_cu : ∀ k, k < 64 → ((nI k).toInt64.toUInt64 &&& Int64.toUInt64 63) = UInt64.ofNat k := by decide +kernel
theorem wb_sm : ∀ k, k < 64 → (BitVec.ofNat 64 k).smod 64 = BitVec.ofNat 64 k := by decide +kernel
theorem wb_tb (n : Nat) : (lN n).toBitVec = BitVec.ofNat 64 n := rfl
def lb (w : Int64) (i : Nat) : Bool := w.toBitVec.getLsbD i
theorem lb_ext {x y : Int64} (h : ∀ i, i < 64 → lb x i = lb y i) : x = y := by
  apply Int64.toBitVec_inj.mp
  apply BitVec.eq_of_getLsbD_eq
  intro i hi
  exact h i hi
theorem lushr_bv {x : Int64} {k : Nat} (hk : k < 64) : (lushr_ x (nI k)).toBitVec = x.toBitVec >>> k := by
  unfold lushr_
  rw [wb_cu k hk]
  apply BitVec.eq_of_toNat_eq
  show (x.toUInt64 >>> UInt64.ofNat k).toNat = _
  rw [UInt64.toNat_shiftRight, show (UInt64.ofNat k).toNat = k from Nat.mod_eq_of_lt (by omega), Nat.mod_eq_of_lt hk, BitVec.toNat_ushiftRight]
  rfl
theorem lshl_bv {x : Int64} {k : Nat} (hk : k < 64) : (lshl_ x (nI k)).toBitVec = x.toBitVec <<< k := by
  unfold lshl_
  rw [wb_c k hk, Int64.toBitVec_shiftLeft, wb_tb, wb_sm k hk]
  show x.toBitVec <<< (BitVec.ofNat 64 k).toNat = _
  rw [BitVec.toNat_ofNat, Nat.mod_eq_of_lt (by omega)]
theorem lb_shr {x : Int64} {k i : Nat} (hk : k < 64) : lb (lushr_ x (nI k)) i = lb x (k + i) := by
  unfold lb
  rw [lushr_bv hk, BitVec.getLsbD_ushiftRight]
theorem lb_shl {x : Int64} {k i : Nat} (hk : k < 64) (hi : i < 64) : lb (lshl_ x (nI k)) i = (decide (k ≤ i) && lb x (i - k)) := by
  unfold lb
  rw [lshl_bv hk, BitVec.getLsbD_shiftLeft]
  by_cases h : i < k
  · simp [h, hi, Nat.not_le.mpr h]
  · simp [h, hi, Nat.not_lt.mp h]
theorem lb_or {x y : Int64} {i : Nat} : lb (x ||| y) i = (lb x i || lb y i) := by
  unfold lb
  rw [Int64.toBitVec_or, BitVec.getLsbD_or]
theorem lb_and {x y : Int64} {i : Nat} : lb (x &&& y) i = (lb x i && lb y i) := by
  unfold lb
  rw [Int64.toBitVec_and, BitVec.getLsbD_and]
theorem lb_xor {x y : Int64} {i : Nat} : lb (x ^^^ y) i = (lb x i ^^ lb y i) := by
  unfold lb
  rw [Int64.toBitVec_xor, BitVec.getLsbD_xor]
theorem lb_0 {i : Nat} : lb 0 i = false := by unfold lb; simp
theorem lb_m1 {i : Nat} (hi : i < 64) : lb (-1) i = true := by
  have : ∀ i, i < 64 → lb (-1) i = true := by decide +kernel
  exact this i hi
theorem lb_1 {i : Nat} : lb 1 i = decide (i = 0) := by
  unfold lb
  show (1#64).getLsbD i = _
  rw [BitVec.getLsbD_one]
  simp
/-- the lowest bit as a word, as an int -/
theorem lb_low {x : Int64} : x &&& 1 = if lb x 0 then 1 else 0 := by
  apply lb_ext
  intro i hi
  rw [lb_and, lb_1]
  cases h : lb x 0
  · by_cases e : i = 0
    · subst e; simp [h, lb_0]
    · simp [e, lb_0]
  · by_cases e : i = 0
    · subst e; simp [h, lb_1]
    · simp [e, lb_1]
theorem lsb_lb {w : Int64} {i : Nat} (hi : i < 64) : (lushr_ w (nI i) &&& 1) = 0 ↔ lb w i = false := by
  rw [lb_low, lb_shr hi, Nat.add_zero]
  cases lb w i <;> decide
