/-! the reference's ring of ten times -/
def RQ (N : NT) (dl : Nat → Nat) (n0 n1 q : Nat) (pf : FN) : Prop := ∀ y r, r < nG N → y < q → q ≤ y + 10 → pf (120 * (y % 10) + r) = bi (wv N dl n0 n1 r y)
def RG (N : NT) (dl : Nat → Nat) (n0 n1 q k : Nat) (pf : FN) : Prop := ∀ y r, r < nG N → ((r < k ∧ y ≤ q ∧ q ≤ y + 9) ∨ (k ≤ r ∧ y < q ∧ q ≤ y + 10)) → pf (120 * (y % 10) + r) = bi (wv N dl n0 n1 r y)
theorem RG_0 {N : NT} {dl : Nat → Nat} {n0 n1 q : Nat} {pf : FN} (h : RQ N dl n0 n1 q pf) : RG N dl n0 n1 q 0 pf := fun y r hr c => h y r hr (by omega) (by omega)
theorem RG_e {N : NT} {dl : Nat → Nat} {n0 n1 q : Nat} {pf : FN} (h : RG N dl n0 n1 q (nG N) pf) : RQ N dl n0 n1 (q + 1) pf := fun y r hr c1 c2 => h y r hr (Or.inl ⟨hr, by omega, by omega⟩)
theorem RG_s {N : NT} {dl : Nat → Nat} {n0 n1 q k : Nat} {pf : FN} (h : RG N dl n0 n1 q k pf) (hk : k < nG N) (h120 : nG N ≤ 120) : RG N dl n0 n1 q (k + 1) (upd pf (120 * (q % 10) + k) (bi (wv N dl n0 n1 k q))) := by
  intro y r hr c
  by_cases e : r = k
  · subst e
    by_cases ey : y = q
    · rw [ey, pk_us]
    · rw [pk_un (by omega)]
      exact h y r hr (Or.inr ⟨Nat.le_refl _, by omega, by omega⟩)
  · rw [pk_un (by omega)]
    exact h y r hr (by omega)
theorem sub_ge {q d : Nat} (hq : q < 2 ^ 30) (hd : d < 2 ^ 30) : (0 : Int32) ≤ nI q - nI d ↔ d ≤ q := by
  constructor
  · intro c
    rcases Nat.lt_or_ge q d with h | h
    · exact absurd (pk_sneg hd h) (Int32.not_lt.mpr c)
    · exact h
  · intro h
    rw [pk_sub h]
    exact Int32.not_lt.mp (nI_pos (by omega))
theorem ou_if {N : NT} {k : Nat} : ∀ n, bi (ouT N n k) = nI (if (∃ r, r < n ∧ nU N r = k) then 1 else 0) := by
  intro n
  have key : ∀ n, ouT N n k = true ↔ ∃ r, r < n ∧ nU N r = k := by
    intro n
    induction n with
    | zero => exact ⟨fun h => (by cases h), fun ⟨r, h, _⟩ => absurd h (Nat.not_lt_zero r)⟩
    | succ n ih =>
      have e : ouT N (n + 1) k = if k = nU N n then true else ouT N n k := rfl
      rw [e]
      by_cases c : k = nU N n
      · rw [if_pos c]; exact ⟨fun _ => ⟨n, by omega, c.symm⟩, fun _ => rfl⟩
      · rw [if_neg c, ih]
        constructor
        · intro ⟨r, h1, h2⟩; exact ⟨r, by omega, h2⟩
        · intro ⟨r, h1, h2⟩
          refine ⟨r, ?_, h2⟩
          by_cases d : r = n
          · rw [d] at h2; exact absurd h2.symm c
          · omega
  by_cases c : ∃ r, r < n ∧ nU N r = k
  · rw [if_pos c, (key n).mpr c]; rfl
  · rw [if_neg c]
    cases h : ouT N n k with
    | true => exact absurd ((key n).mp h) c
    | false => rfl
theorem wp_0 {N : NT} {dl : Nat → Nat} {n0 n1 k q : Nat} (h : q = 0) : wp N dl n0 n1 k q = bt N n0 k := if_pos h
theorem wp_s {N : NT} {dl : Nat → Nat} {n0 n1 k q : Nat} (h : q ≠ 0) : wp N dl n0 n1 k q = wv N dl n0 n1 k (q - 1) := if_neg h
