/-! nets that are unlike -/
def ob (N : NT) (n r : Nat) : Bool := if r < nO N then bt N n (nU N r) else false
def dfT (N M : NT) (n : Nat) : Nat → Bool
  | 0 => false
  | r + 1 => dfT N M n r || (ob N n r ^^ ob M n r)
theorem lb_o {N : NT} (hN : WF N) {o : Nat → Int64} {b i : Nat} (hb : b % 64 = 0) (hb2 : b < 2 ^ 31) (hi : i < 64) (ho : ∀ r, r < 16 → o r = if r < nO N then fw N (fun p => inW p b True) (nU N r) else 0) : ∀ r, r < 16 → lb (o r) i = ob N (b + i) r := by
  intro r hr
  rw [ho r hr]
  unfold ob
  by_cases c : r < nO N
  · rw [if_pos c, if_pos c]
    exact fw_bits hN hi (fun p hp => inW_from hb hb2 (by omega) hi) (nU N r + 1) (nU N r) (Nat.lt_succ_self _) (hN.u c)
  · rw [if_neg c, if_neg c]; exact lb_0
theorem lb_un {N M : NT} {o1 o2 : Nat → Int64} {n i : Nat} (h1 : ∀ r, r < 16 → lb (o1 r) i = ob N n r) (h2 : ∀ r, r < 16 → lb (o2 r) i = ob M n r) : ∀ k, k ≤ 16 → lb (unW o1 o2 k) i = dfT N M n k := by
  intro k
  induction k with
  | zero => intro _; exact lb_0
  | succ k ih =>
    intro hk
    show lb (unW o1 o2 k ||| (o1 k ^^^ o2 k)) i = (dfT N M n k || (ob N n k ^^ ob M n k))
    rw [lb_or, lb_xor, ih (by omega), h1 k (by omega), h2 k (by omega)]
theorem bt_z {x : Int64} {z : Nat} (hz : z < 64) : (lushr_ x (nI z) &&& 1) = 0 ↔ lb x z = false := by
  rw [lb_low, lb_shr hz, Nat.add_zero]
  cases lb x z <;> decide
theorem fuT_sp {x : Int64} : ∀ n, (fuT x n = none → ∀ z, z < n → (lushr_ x (nI z) &&& 1) = 0) ∧ (∀ r, fuT x n = some r → r < n ∧ ¬ (lushr_ x (nI r) &&& 1) = 0 ∧ ∀ z, z < r → (lushr_ x (nI z) &&& 1) = 0) := by
  intro n
  induction n with
  | zero => exact ⟨fun _ z h => absurd h (Nat.not_lt_zero _), fun r h => by cases h⟩
  | succ n ih =>
    have e : fuT x (n + 1) = (match fuT x n with | some z => some z | none => if (lushr_ x (nI n) &&& 1) = 0 then none else some n) := rfl
    rw [e]
    cases hf : fuT x n with
    | some z =>
      refine ⟨fun h => (nomatch h), fun r h => ?_⟩
      cases h
      obtain ⟨a1, a2, a3⟩ := ih.2 z hf
      exact ⟨by omega, a2, a3⟩
    | none =>
      have hn := ih.1 hf
      by_cases c : (lushr_ x (nI n) &&& 1) = 0
      · refine ⟨fun _ z hz => ?_, fun r h => ?_⟩
        · rcases Nat.lt_succ_iff_lt_or_eq.mp hz with h | h
          · exact hn z h
          · rw [h]; exact c
        · have h2 : (if (lushr_ x (nI n) &&& 1) = 0 then none else some n) = some r := h
          rw [if_pos c] at h2; cases h2
      · refine ⟨fun h => ?_, fun r h => ?_⟩
        · have h2 : (if (lushr_ x (nI n) &&& 1) = 0 then none else some n) = none := h
          rw [if_neg c] at h2; cases h2
        · have h2 : (if (lushr_ x (nI n) &&& 1) = 0 then none else some n) = some r := h
          rw [if_neg c] at h2; cases h2
          exact ⟨by omega, c, hn⟩
/-- the answer of unlike -/
def unS (N M : NT) (K : Nat) (r : Int32) : Prop := (r = -1 ∧ ∀ n, n < K → dfT N M n 16 = false) ∨ ∃ n, n < K ∧ r = nI n ∧ dfT N M n 16 = true ∧ ∀ z, z < n → dfT N M z 16 = false
theorem un_none {N M : NT} {o1 o2 : Nat → Int64} {b K : Nat} (h1 : ∀ i, i < 64 → ∀ r, r < 16 → lb (o1 r) i = ob N (b + i) r) (h2 : ∀ i, i < 64 → ∀ r, r < 16 → lb (o2 r) i = ob M (b + i) r) (h : fuW (unW o1 o2 16) (min 64 (K - b)) = none) (hd : ∀ z, z < b → z < K → dfT N M z 16 = false) : ∀ z, z < b + 64 → z < K → dfT N M z 16 = false := by
  intro z hz hK
  by_cases c : z < b
  · exact hd z c hK
  · have hi : z - b < 64 := by omega
    have := (fuT_sp _).1 h (z - b) (by omega)
    rw [bt_z hi, lb_un (h1 _ hi) (h2 _ hi) 16 (Nat.le_refl _), show b + (z - b) = z by omega] at this
    exact this
theorem un_some {N M : NT} {o1 o2 : Nat → Int64} {b K r : Nat} (h1 : ∀ i, i < 64 → ∀ r, r < 16 → lb (o1 r) i = ob N (b + i) r) (h2 : ∀ i, i < 64 → ∀ r, r < 16 → lb (o2 r) i = ob M (b + i) r) (h : fuW (unW o1 o2 16) (min 64 (K - b)) = some r) (hd : ∀ z, z < b → z < K → dfT N M z 16 = false) : r < 64 ∧ b + r < K ∧ unS N M K (nI (b + r)) := by
  obtain ⟨a1, a2, a3⟩ := (fuT_sp _).2 r h
  have hr : r < 64 := by omega
  refine ⟨hr, by omega, Or.inr ⟨b + r, by omega, rfl, ?_, ?_⟩⟩
  · rw [bt_z hr, lb_un (h1 _ hr) (h2 _ hr) 16 (Nat.le_refl _)] at a2
    simpa using a2
  · intro z hz
    by_cases c : z < b
    · exact hd z c (by omega)
    · have hi : z - b < 64 := by omega
      have := a3 (z - b) (by omega)
      rw [bt_z hi, lb_un (h1 _ hi) (h2 _ hi) 16 (Nat.le_refl _), show b + (z - b) = z by omega] at this
      exact this
