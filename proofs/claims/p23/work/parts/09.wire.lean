/-! loads, marks -/
def ldS (N : NT) (f : Nat → Int32) (k : Nat) : Nat → Int32 := if nK N k = 4 then f else upd (upd f (nF N k) (f (nF N k) + nI 1)) (nS N k) (upd f (nF N k) (f (nF N k) + nI 1) (nS N k) + (if nK N k = 3 then nI 0 else nI 1))
def ldT (N : NT) : Nat → Nat → Int32
  | 0 => fun _ => nI 0
  | k + 1 => ldS N (ldT N k) k
def loT (N : NT) : Nat → Nat → Int32
  | 0 => ldT N (nG N)
  | p + 1 => upd (loT N p) (nU N p) (loT N p (nU N p) + nI 1)
def mxA (f : Nat → Int32) : Nat → Int32
  | 0 => nI 0
  | k + 1 => if mxA f k < f k then f k else mxA f k
theorem upd_cong {f g : Nat → Int32} {n k : Nat} {x y : Int32} (h : ∀ r, r < n → f r = g r) (hx : x = y) : ∀ r, r < n → upd f k x r = upd g k y r := by
  intro r hr
  unfold upd
  by_cases e : r = k
  · rw [if_pos e, if_pos e, hx]
  · rw [if_neg e, if_neg e, h r hr]
theorem ldS_cong {N : NT} {f g : Nat → Int32} {k n : Nat} (hk : nK N k ≠ 4 → nF N k < n ∧ nS N k < n) (h : ∀ r, r < n → f r = g r) : ∀ r, r < n → ldS N f k r = ldS N g k r := by
  unfold ldS
  by_cases h4 : nK N k = 4
  · rw [if_pos h4, if_pos h4]; exact h
  · rw [if_neg h4, if_neg h4]
    have hk := hk h4
    have h1 := upd_cong (k := nF N k) h (show f (nF N k) + nI 1 = g (nF N k) + nI 1 by rw [h _ hk.1])
    exact upd_cong h1 (by rw [h1 _ hk.2])
def setT (f : Nat → Bool) (k : Nat) : Nat → Bool := fun r => if r = k then true else f r
def mbS (N : NT) (k : Nat) (f : Nat → Bool) : Nat → Bool := if f k = true ∧ nK N k ≠ 4 then setT (setT f (nF N k)) (nS N k) else f
def mbD (N : NT) : (Nat → Bool) → Nat → Nat → Bool
  | f, 0 => f
  | f, n + 1 => mbD N (mbS N n f) n
def ouT (N : NT) : Nat → Nat → Bool
  | 0 => fun _ => false
  | p + 1 => setT (ouT N p) (nU N p)
def idT (N : NT) (F : Nat → Bool) : Nat → Nat
  | 0 => 0
  | n + 1 => idT N F n + (if nK N n ≠ 4 ∧ F n = false then 1 else 0)
theorem idT_le (N : NT) (F : Nat → Bool) (n : Nat) : idT N F n ≤ n := by
  induction n with
  | zero => exact Nat.le_refl _
  | succ n ih =>
    show idT N F n + _ ≤ _
    by_cases h : nK N n ≠ 4 ∧ F n = false
    · rw [if_pos h]; omega
    · rw [if_neg h]; omega
theorem bi_0 {x : Bool} : bi x = 0 ↔ x = false := by cases x <;> decide
theorem bi_f {x : Bool} (h : bi x = 0) : x = false := bi_0.mp h
theorem bi_t {x : Bool} (h : ¬ bi x = 0) : x = true := by
  cases x
  · exact absurd rfl h
  · rfl
theorem set_bi {f : Nat → Int32} {F : Nat → Bool} {n k : Nat} (h : ∀ r, r < n → f r = bi (F r)) : ∀ r, r < n → upd f k (nI 1) r = bi (setT F k r) := by
  intro r hr
  unfold upd setT
  by_cases e : r = k
  · rw [if_pos e, if_pos e]; rfl
  · rw [if_neg e, if_neg e, h r hr]
theorem setT_t {f : Nat → Bool} {k : Nat} : setT f k k = true := if_pos rfl
theorem setT_k {f : Nat → Bool} {k r : Nat} (h : f r = true) : setT f k r = true := by
  unfold setT
  by_cases e : r = k
  · rw [if_pos e]
  · rw [if_neg e, h]
theorem mbS_k {N : NT} {k r : Nat} {f : Nat → Bool} (h : f r = true) : mbS N k f r = true := by
  unfold mbS
  by_cases c : f k = true ∧ nK N k ≠ 4
  · rw [if_pos c]; exact setT_k (setT_k h)
  · rw [if_neg c]; exact h
theorem mbD_k {N : NT} {r : Nat} : ∀ (n : Nat) {f : Nat → Bool}, f r = true → mbD N f n r = true := by
  intro n
  induction n with
  | zero => intro f h; exact h
  | succ n ih => intro f h; exact ih (mbS_k h)
/-- a gate is marked by lower steps only from above: what is at n or over it stays -/
theorem mbS_hi {N : NT} (hN : WF N) {k r : Nat} (hk : k < nG N) (hr : k ≤ r) {f : Nat → Bool} : mbS N k f r = f r := by
  unfold mbS
  by_cases c : f k = true ∧ nK N k ≠ 4
  · have hfs := hN.fs hk c.2
    rw [if_pos c]
    unfold setT
    rw [if_neg (by omega), if_neg (by omega)]
  · rw [if_neg c]
theorem mbD_hi {N : NT} (hN : WF N) {r : Nat} : ∀ (n : Nat) {f : Nat → Bool}, n ≤ nG N → n ≤ r + 1 → mbD N f n r = f r := by
  intro n
  induction n with
  | zero => intro f _ _; rfl
  | succ n ih =>
    intro f h1 h2
    show mbD N (mbS N n f) n r = f r
    rw [ih (by omega) (by omega), mbS_hi hN (by omega) (by omega)]
/-- the sources of a marked gate are marked -/
theorem mbD_cl {N : NT} (hN : WF N) : ∀ (n : Nat) {f : Nat → Bool}, n ≤ nG N → ∀ k, k < n → mbD N f n k = true → nK N k ≠ 4 → mbD N f n (nF N k) = true ∧ mbD N f n (nS N k) = true := by
  intro n
  induction n with
  | zero => intro f _ k h; exact absurd h (Nat.not_lt_zero _)
  | succ n ih =>
    intro f hn k hk hm h4
    have hm' : mbD N (mbS N n f) n k = true := hm
    show mbD N (mbS N n f) n (nF N k) = true ∧ mbD N (mbS N n f) n (nS N k) = true
    by_cases e : k = n
    · subst e
      rw [mbD_hi hN k (by omega) (by omega), mbS_hi hN (by omega) (Nat.le_refl _)] at hm'
      have hs : mbS N k f = setT (setT f (nF N k)) (nS N k) := if_pos ⟨hm', h4⟩
      rw [hs]
      exact ⟨mbD_k _ (setT_k setT_t), mbD_k _ setT_t⟩
    · exact ih (by omega) k (by omega) hm' h4
theorem dn_lt {n : Nat} (hn : n < 2 ^ 31) (h : nI n - nI 1 < 0) : n = 0 := by
  cases n with
  | zero => rfl
  | succ m =>
    have e : nI (m + 1) - nI 1 = nI m := nI_pred m
    rw [e] at h
    exact absurd h (nI_pos (by omega))
theorem dn_ge {n : Nat} (h : ¬ nI n - nI 1 < 0) : ∃ m, n = m + 1 := by
  cases n with
  | zero => exact absurd (by decide : nI 0 - nI 1 < 0) h
  | succ m => exact ⟨m, rfl⟩
theorem dn_pred (m : Nat) : nI (m + 1) - nI 1 = nI m := nI_pred m
theorem dn_iinc (m : Nat) : nI m + Int32.ofInt (-1) = nI m - nI 1 := by
  rw [Int32.sub_eq_add_neg]; rfl
theorem jn_bi {kd : Nat} {b1 b2 : Bool} : (jnW kd (bi b1).toInt64 (bi b2).toInt64 &&& 1).toInt32 = bi (jn kd b1 b2) := by
  unfold jnW jn
  by_cases h0 : kd = 0
  · rw [if_pos h0, if_pos h0]; cases b1 <;> cases b2 <;> decide
  · rw [if_neg h0, if_neg h0]
    by_cases h1 : kd = 1
    · rw [if_pos h1, if_pos h1]; cases b1 <;> cases b2 <;> decide
    · rw [if_neg h1, if_neg h1]
      by_cases h2 : kd = 2
      · rw [if_pos h2, if_pos h2]; cases b1 <;> cases b2 <;> decide
      · rw [if_neg h2, if_neg h2]; cases b1 <;> decide
theorem shr_bit {n p : Nat} (hn : n < 2 ^ 31) (hp : p < 32) : (nI n >>> (nI p &&& 31)) &&& nI 1 = bi (n.testBit p) := by
  have hs : ∀ l, l < 32 → ((nI l &&& 31).toBitVec.smod 32).toNat = l := by decide +kernel
  rw [pk_shrN hn _ p (hs p hp)]
  have hq : n / 2 ^ p < 2 ^ 32 := Nat.lt_of_le_of_lt (Nat.div_le_self _ _) (by omega)
  rw [pk_andN hq 1 (by decide)]
  rw [Nat.testBit_eq_decide_div_mod_eq]
  have h2 : n / 2 ^ p % 2 ^ 1 = 0 ∨ n / 2 ^ p % 2 ^ 1 = 1 := by omega
  rcases h2 with h | h
  · rw [h]; decide
  · rw [h]; decide
theorem bi_bt {N : NT} (hN : WF N) {num k : Nat} (hk : k < nG N) (h : ¬ nT N k = -1) : nT N k = bi (bt N num k) := by
  rw [bt_st h]
  rcases hN.t hk with q | q | q
  · exact absurd q h
  · rw [q]; rfl
  · rw [q]; rfl
theorem idT_y {N : NT} {F : Nat → Bool} {n : Nat} (h : ¬ nK N n = 4) (h2 : F n = false) : idT N F (n + 1) = idT N F n + 1 := by
  show idT N F n + _ = _
  rw [if_pos ⟨h, h2⟩]
theorem idT_n {N : NT} {F : Nat → Bool} {n : Nat} (h : ¬ (nK N n ≠ 4 ∧ F n = false)) : idT N F (n + 1) = idT N F n := by
  show idT N F n + _ = _
  rw [if_neg h]; rfl
