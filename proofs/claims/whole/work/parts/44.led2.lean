def cDi (x k : Int32) : Nat := if ¬ k < 0 ∧ k ≤ nI 15 then if ¬ x < nI 0 ∧ x ≤ nI 2147483647 then 0 else 2 else 1
def diV (x : Int32) (k : Nat) : Int32 := ((x >>> (nI (2 * k) &&& 31)) &&& nI 1) + (if k = 0 then nI 0 else (x >>> (nI (2 * k - 1) &&& 31)) &&& nI 1) - nI 2 * ((x >>> (nI (2 * k + 1) &&& 31)) &&& nI 1)
