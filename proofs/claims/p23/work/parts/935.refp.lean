/-! the reference's public calls: what they throw, which nets they leave -/
def c2 (n : Nat) : Nat := if n = 3 then 2 else n
def stN {α : Type} (c : Nat) (A B : α) : α := if c = 0 then A else B
theorem stN_0 {α : Type} {c : Nat} {A B : α} (h : c = 0) : stN c A B = A := if_pos h
theorem stN_n {α : Type} {c k : Nat} {A B : α} (h : c = k) (hk : k ≠ 0) : stN c A B = B := if_neg (by omega)
theorem inBd_z {x : Int32} {n : Nat} (h : inBd x n) (hn : n < 2 ^ 31) : ∃ z, z < n ∧ ix x = z ∧ x = nI z := ⟨ix x, ix_lt h hn, rfl, ix_eq h hn⟩
theorem rg_z {x : Int32} {lo hi : Nat} (h : ¬ x < nI lo ∧ x ≤ nI hi) (hl : lo < 2 ^ 31) (hh : hi + 1 < 2 ^ 31) : ∃ z, ix x = z ∧ x = nI z ∧ lo ≤ z ∧ z ≤ hi := ⟨ix x, rfl, (rg_ix h.1 h.2 hl hh).1, (rg_ix h.1 h.2 hl hh).2.1, (rg_ix h.1 h.2 hl hh).2.2⟩
theorem kd_3 {x : Int32} {z : Nat} (h : x = nI z) (hz : z < 4) : x = nI 3 ↔ z = 3 := by
  rw [h]
  exact nI_eq (by omega) (by omega)
