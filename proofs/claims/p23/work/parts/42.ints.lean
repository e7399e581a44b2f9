/-! whole numbers as arguments: in a range, and as a number -/
abbrev inBd (x : Int32) (n : Nat) : Prop := ¬ x < 0 ∧ x < nI n
theorem inBd_ex {x : Int32} {n : Nat} (h : inBd x n) (hn : n < 2 ^ 31) : ∃ k, k < n ∧ x = nI k := by
  obtain ⟨h1, h2⟩ := h
  have a1 := Int32.lt_iff_toInt_lt.mp h2
  have a2 : ¬ x.toInt < 0 := fun c => h1 (Int32.lt_iff_toInt_lt.mpr c)
  rw [nI_toInt hn] at a1
  refine ⟨x.toInt.toNat, by omega, ?_⟩
  apply Int32.toInt_inj.mp
  rw [nI_toInt (by omega)]
  omega
theorem inBd_nI {k n : Nat} (h : k < n) (hn : n < 2 ^ 31) : inBd (nI k) n := ⟨nI_pos (by omega), (nI_ltI (by omega) hn).mpr h⟩
theorem inBd_of {x : Int32} {n : Nat} (h1 : ¬ x < 0) (h2 : ¬ nI n ≤ x) : inBd x n := ⟨h1, Int32.not_le.mp h2⟩
theorem le_S {x : Int32} {n : Nat} (hn : n + 1 < 2 ^ 31) (h : x ≤ nI n) : x < nI (n + 1) := by
  have a := Int32.le_iff_toInt_le.mp h
  apply Int32.lt_iff_toInt_lt.mpr
  rw [nI_toInt (by omega)] at a
  rw [nI_toInt hn]
  omega
theorem nle_S {x : Int32} {n : Nat} (hn : n + 1 < 2 ^ 31) (h : ¬ x ≤ nI n) : ¬ x < nI (n + 1) := by
  intro c
  apply h
  have a := Int32.lt_iff_toInt_lt.mp c
  apply Int32.le_iff_toInt_le.mpr
  rw [nI_toInt hn] at a
  rw [nI_toInt (by omega)]
  omega
theorem and1 {k : Nat} (h : k ≤ 30) : nI k &&& nI 1 = nI (k % 2) := by
  have e : ∀ k, k < 31 → nI k &&& nI 1 = nI (k % 2) := by decide +kernel
  exact e k (by omega)
def ix (x : Int32) : Nat := x.toNatClampNeg
theorem ix_nI {k : Nat} (h : k < 2 ^ 31) : ix (nI k) = k := nI_clamp h
theorem ix_eq {x : Int32} {n : Nat} (h : inBd x n) (hn : n < 2 ^ 31) : x = nI (ix x) := by
  obtain ⟨k, hk, e⟩ := inBd_ex h hn
  rw [e, ix_nI (by omega)]
theorem ix_lt {x : Int32} {n : Nat} (h : inBd x n) (hn : n < 2 ^ 31) : ix x < n := by
  obtain ⟨k, hk, e⟩ := inBd_ex h hn
  rw [e, ix_nI (by omega)]; exact hk
theorem rg_ix {x : Int32} {lo hi : Nat} (h1 : ¬ x < nI lo) (h2 : x ≤ nI hi) (hl : lo < 2 ^ 31) (hh : hi + 1 < 2 ^ 31) : x = nI (ix x) ∧ lo ≤ ix x ∧ ix x ≤ hi := by
  have a1 : ¬ x.toInt < lo := fun c => h1 (Int32.lt_iff_toInt_lt.mpr (by rw [nI_toInt hl]; exact c))
  have h : inBd x (hi + 1) := ⟨fun c => by have := Int32.lt_iff_toInt_lt.mp c; rw [show (0 : Int32).toInt = 0 from rfl] at this; omega, le_S hh h2⟩
  have e := ix_eq h hh
  have l2 := ix_lt h hh
  refine ⟨e, ?_, by omega⟩
  rw [e, nI_toInt (by omega)] at a1
  omega
/-- the exception of a code: 1, 2, 3 -/
def XE (K : Nat) (E : String) : Prop := (E = IOB ∧ K = 1) ∨ (E = IAE ∧ K = 2) ∨ (E = ISE ∧ K = 3)
theorem XE_1 {K : Nat} {E : String} (h : E = IOB) (k : K = 1) : XE K E := Or.inl ⟨h, k⟩
theorem XE_2 {K : Nat} {E : String} (h : E = IAE) (k : K = 2) : XE K E := Or.inr (Or.inl ⟨h, k⟩)
theorem XE_3 {K : Nat} {E : String} (h : E = ISE) (k : K = 3) : XE K E := Or.inr (Or.inr ⟨h, k⟩)
/-! what a call throws, by its arguments and the nets: 0 nothing, 1 index, 2 argument, 3 state -/
def cIn (Ns : Nat → NT) (p : Int32) : Nat := if inBd p 4 then if nG (Ns (ix p)) < 120 ∧ nIn (Ns (ix p)) < 30 then 0 else 3 else 1
def cGa (Ns : Nat → NT) (p kd f sc : Int32) : Nat := if inBd p 4 then if inBd kd 4 then if inBd f (nG (Ns (ix p))) then if kd = nI 3 ∨ inBd sc (nG (Ns (ix p))) then if nG (Ns (ix p)) < 120 then 0 else 3 else 1 else 1 else 1 else 1
def cOu (Ns : Nat → NT) (p g : Int32) : Nat := if inBd p 4 then if inBd g (nG (Ns (ix p))) then if nO (Ns (ix p)) < 16 then 0 else 3 else 1 else 1
def cCl (p : Int32) : Nat := if inBd p 4 then 0 else 1
def cSt (Ns : Nat → NT) (p g b : Int32) : Nat := if inBd p 4 then if inBd g (nG (Ns (ix p))) then if ¬ b < -1 ∧ b ≤ nI 1 then 0 else 2 else 1 else 1
def cCo (kd d ar : Int32) : Nat := if inBd kd 4 then if ¬ d < nI 1 ∧ d ≤ nI 9 then if ¬ ar < nI 0 ∧ ar ≤ nI 99 then 0 else 2 else 2 else 1
def cAd (Ns : Nat → NT) (p fm w : Int32) : Nat := if inBd p 4 then if ¬ fm < nI 0 ∧ fm ≤ nI 2 then if ¬ w < nI 1 ∧ w ≤ nI 6 then if nG (Ns (ix p)) = 0 then 0 else 3 else 2 else 2 else 1
def cMu (Ns : Nat → NT) (p w : Int32) : Nat := if inBd p 4 then if ¬ w < nI 1 ∧ w ≤ nI 4 then if nG (Ns (ix p)) = 0 then 0 else 3 else 2 else 1
theorem WF_o0 {N : NT} (h : WF N) (h0 : nG N = 0) : nO N = 0 := by
  by_cases c : nO N = 0
  · exact c
  · have := h.u (p := 0) (by omega)
    omega
def cBi (Ns : Nat → NT) (p g x : Int32) : Nat := if inBd p 4 then if inBd g (nG (Ns (ix p))) then if ¬ x < nI 0 ∧ x ≤ nI 1073741823 then 0 else 2 else 1 else 1
def cVa (p x : Int32) : Nat := if inBd p 4 then if ¬ x < nI 0 ∧ x ≤ nI 1073741823 then 0 else 2 else 1
def cTi (Ns : Nat → NT) (p g : Int32) : Nat := if inBd p 4 then if inBd g (nG (Ns (ix p))) then 0 else 1 else 1
def cOf (p w : Int32) : Nat := if inBd p 4 then if ¬ w < nI 0 ∧ w ≤ nI 6 then 0 else 2 else 1
def cPa (p x : Int32) : Nat := if inBd p 4 then if ¬ x < 0 then 0 else 1 else 1
