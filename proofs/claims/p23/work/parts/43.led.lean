/-! what the ledger's calls tell -/
def arT (N : NT) (ar : Nat → Nat) : Nat → Nat
  | 0 => 0
  | k + 1 => arT N ar k + (if nK N k = 4 then 0 else ar (nK N k))
theorem ar_in {N : NT} {ar : Nat → Nat} {k : Nat} (h : nK N k = 4) : arT N ar (k + 1) = arT N ar k := by
  show arT N ar k + (if nK N k = 4 then 0 else ar (nK N k)) = _
  rw [if_pos h]; rfl
theorem ar_gt {N : NT} {ar : Nat → Nat} {k : Nat} (h : ¬ nK N k = 4) : arT N ar (k + 1) = arT N ar k + ar (nK N k) := by
  show arT N ar k + (if nK N k = 4 then 0 else ar (nK N k)) = _
  rw [if_neg h]
def ofV (N : NT) (dl ar : Nat → Nat) (w : Nat) : Int32 := if w = 0 then nI (nG N) else if w = 1 then nI (nIn N) else if w = 2 then nI (nO N) else if w = 3 then nI (arT N ar (nG N)) else if w = 4 then nI (dlN N (tm N dl)) else if w = 5 then mxA (loT N (nO N)) (nG N) else nI (idT N (mbD N (ouT N (nO N)) (nG N)) (nG N))
/-- the path: n steps back from the slowest out -/
def pt (N : NT) (dl : Nat → Nat) : Nat → Option Nat
  | 0 => bst N (tm N dl) (nO N)
  | n + 1 => (pt N dl n).bind (fun k => nxt N dl (tm N dl) k)
theorem pt_none {N : NT} {dl : Nat → Nat} {n : Nat} (h : pt N dl n = none) : ∀ j, pt N dl (n + j) = none := by
  intro j
  induction j with
  | zero => exact h
  | succ j ih => show (pt N dl (n + j)).bind _ = none; rw [ih]; rfl
def paV (N : NT) (dl : Nat → Nat) (x : Int32) : Int32 := if x < nI 120 then oI (pt N dl (ix x)) else -1
theorem pt_lt {N : NT} (hN : WF N) {dl : Nat → Nat} : ∀ n g, pt N dl n = some g → g < nG N := by
  intro n
  induction n with
  | zero => exact fun g h => bst_lt hN _ (Nat.le_refl _) g h
  | succ n ih =>
    intro g h
    have h1 : (pt N dl n).bind (fun k => nxt N dl (tm N dl) k) = some g := h
    cases hb : pt N dl n with
    | none => rw [hb] at h1; cases h1
    | some k =>
      rw [hb] at h1
      have h2 : nxt N dl (tm N dl) k = some g := h1
      have hk := ih k hb
      unfold nxt at h2
      by_cases c : nK N k = 4
      · rw [if_pos c] at h2; cases h2
      · rw [if_neg c] at h2
        have hf := hN.fs hk c
        by_cases c2 : tm N dl (nF N k) + dl (nK N k) = tm N dl k
        · rw [if_pos c2] at h2; cases h2; omega
        · rw [if_neg c2] at h2; cases h2; omega
theorem pt_s {N : NT} {dl : Nat → Nat} {n k : Nat} (h : pt N dl n = some k) : pt N dl (n + 1) = nxt N dl (tm N dl) k := by
  show (pt N dl n).bind _ = _
  rw [h]; rfl
def cOff (Ns : Nat → NT) (p op w : Int32) : Nat := if inBd p 4 then if ¬ op < nI 0 ∧ op ≤ nI 1 then if ¬ w < nI 0 ∧ w ≤ nI 3 then if 2 ≤ nIn (Ns (ix p)) ∧ nIn (Ns (ix p)) ≤ 12 ∧ nIn (Ns (ix p)) % 2 = 0 then 0 else 3 else 2 else 2 else 1
def cUns (Ns : Nat → NT) (p op w : Int32) : Nat := if inBd p 4 then if ¬ op < nI 0 ∧ op ≤ nI 1 then if ¬ w < nI 2 ∧ w ≤ nI 99 then if 2 ≤ nIn (Ns (ix p)) ∧ nIn (Ns (ix p)) ≤ 12 ∧ nIn (Ns (ix p)) % 2 = 0 then 0 else 3 else 2 else 2 else 1
def cCh (p f v w : Int32) : Nat := if inBd p 4 then if (¬ f < nI 0 ∧ f ≤ nI 1073741823) ∧ (¬ v < nI 0 ∧ v ≤ nI 1073741823) ∧ (¬ w < nI 0 ∧ w ≤ nI 2) then 0 else 2 else 1
def offV (N : NT) (op w : Nat) : Int32 := if w = 0 then nI (AX N op (2 ^ nIn N)) else if w = 1 then AY N op (2 ^ nIn N) else if w = 2 then AZ N op (2 ^ nIn N) else AV N op (2 ^ nIn N)
def chW (N : NT) (g w : Nat → Int64) (U k : Nat) : Nat := if k = 0 then cnX N g w U (nG N) else if k = 1 then cnY N g w U (nG N) else cnZ N g w U (nG N)
