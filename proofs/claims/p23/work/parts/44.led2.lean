def cDi (x k : Int32) : Nat := if ¬ k < 0 ∧ k ≤ nI 15 then if ¬ x < nI 0 ∧ x ≤ nI 2147483647 then 0 else 2 else 1
def diV (x : Int32) (k : Nat) : Int32 := ((x >>> (nI (2 * k) &&& 31)) &&& nI 1) + (if k = 0 then nI 0 else (x >>> (nI (2 * k - 1) &&& 31)) &&& nI 1) - nI 2 * ((x >>> (nI (2 * k + 1) &&& 31)) &&& nI 1)
/-- what the tally holds when the times below q have been run -/
def tkX (N : NT) (dl : Nat → Nat) (n0 n1 : Nat) : Nat → Nat
  | 0 => 0
  | q + 1 => tkX N dl n0 n1 q + rX N dl n0 n1 q (nG N)
def tkY (N : NT) (dl : Nat → Nat) (n0 n1 : Nat) : Nat → Nat
  | 0 => 0
  | q + 1 => rY N dl n0 n1 q (tkY N dl n0 n1 q) (nG N)
def tkZ (N : NT) (dl : Nat → Nat) (n0 n1 : Nat) : Nat → Nat
  | 0 => 0
  | q + 1 => tkZ N dl n0 n1 q + rZ N dl n0 n1 q (nG N)
theorem tkY_le {N : NT} {dl : Nat → Nat} {n0 n1 : Nat} : ∀ q, tkY N dl n0 n1 q ≤ q := by
  intro q
  induction q with
  | zero => exact Nat.le_refl _
  | succ q ih => exact Nat.le_succ_of_le (rY_le ih _)
theorem WIN_0 {N : NT} {dl : Nat → Nat} {n0 n1 : Nat} {f : Nat → Int32} (h : ∀ r, r < nG N → ∀ z, z < 16 → f (r * 16 + z) = bi (bt N n0 r)) : WIN N dl n0 n1 0 f := by
  intro r hr z hz
  have e : (0 + z) % 16 = z := by omega
  rw [e, h r hr z hz]
  unfold w16
  rw [if_pos (show 0 + z < 16 by omega)]
def tkV (N : NT) (dl : Nat → Nat) (n0 n1 q k : Nat) : Nat := if k = 0 then tkX N dl n0 n1 q else if k = 1 then tkY N dl n0 n1 q else tkZ N dl n0 n1 q
def cUn (Ns : Nat → NT) (p v : Int32) : Nat := if inBd p 4 then if inBd v 4 then if nIn (Ns (ix p)) = nIn (Ns (ix v)) ∧ nIn (Ns (ix p)) ≤ 12 then 0 else 3 else 1 else 1
