/-! whole numbers as arguments: in a range, and as a number -/
abbrev inBd (x : Int32) (n : Nat) : Prop := ¬ x < 0 ∧ x < nI n
theorem inBd_ex {x : Int32} {n : Nat} (h : inBd x n) (hn : n < 2 ^ 31) : ∃ k, k < n ∧ x = nI k := by
  obtain ⟨h1, h2⟩ := h
  have a1 := Int32.lt_iff_toInt_lt.mp h2
  have a2 : ¬ x.toInt < 0 := fun c => h1 (Int32.lt_iff_toInt_lt.mpr c)
  rw [nI_toInt hn] at a1
  refine ⟨x.toInt.toNat, by omega, ?_⟩
  apply Int32.toInt_inj.mp
  rw [nI_toInt (by omega)]
  omega
theorem inBd_nI {k n : Nat} (h : k < n) (hn : n < 2 ^ 31) : inBd (nI k) n := ⟨nI_pos (by omega), (nI_ltI (by omega) hn).mpr h⟩
theorem inBd_of {x : Int32} {n : Nat} (h1 : ¬ x < 0) (h2 : ¬ nI n ≤ x) : inBd x n := ⟨h1, Int32.not_le.mp h2⟩
theorem le_S {x : Int32} {n : Nat} (hn : n + 1 < 2 ^ 31) (h : x ≤ nI n) : x < nI (n + 1) := by
  have a := Int32.le_iff_toInt_le.mp h
  apply Int32.lt_iff_toInt_lt.mpr
  rw [nI_toInt (by omega)] at a
  rw [nI_toInt hn]
  omega
theorem nle_S {x : Int32} {n : Nat} (hn : n + 1 < 2 ^ 31) (h : ¬ x ≤ nI n) : ¬ x < nI (n + 1) := by
  intro c
  apply h
  have a := Int32.lt_iff_toInt_lt.mp c
  apply Int32.le_iff_toInt_le.mpr
  rw [nI_toInt hn] at a
  rw [nI_toInt (by omega)]
  omega
theorem and1 {k : Nat} (h : k ≤ 30) : nI k &&& nI 1 = nI (k % 2) := by
  have e : ∀ k, k < 31 → nI k &&& nI 1 = nI (k % 2) := by decide +kernel
  exact e k (by omega)
