/-! time by time -/
theorem low_lv {b : Bool} : (lv64 b &&& 1).toInt32 = bi b := by cases b <;> decide
/-- the bit of a gate at the time t - 16 -/
def w16 (N : NT) (dl : Nat → Nat) (n0 n1 r t : Nat) : Bool := if t < 16 then bt N n0 r else wv N dl n0 n1 r (t - 16)
def WIN (N : NT) (dl : Nat → Nat) (n0 n1 now : Nat) (f : Nat → Int32) : Prop := ∀ r, r < nG N → ∀ z, z < 16 → f (r * 16 + (now + z) % 16) = bi (w16 N dl n0 n1 r (now + z))
theorem bi_inj {x y : Bool} (h : bi x = bi y) : x = y := by
  cases x <;> cases y <;> first | rfl | (exact absurd h (by decide))
theorem and15 (now d : Nat) (hd : d ≤ 16) (hn : now < 2 ^ 30) : (nI now - nI d) &&& nI 15 = nI ((now + 16 - d) % 16) := by
  apply Int32.toBitVec_inj.mp
  rw [Int32.toBitVec_and, Int32.toBitVec_sub]
  apply BitVec.eq_of_toNat_eq
  rw [BitVec.toNat_and, BitVec.toNat_sub]
  rw [show (nI 15).toBitVec.toNat = 2 ^ 4 - 1 from rfl, Nat.and_two_pow_sub_one_eq_mod, pk_tn (show now < 2 ^ 32 by omega), pk_tn (show d < 2 ^ 32 by omega), pk_tn (show (now + 16 - d) % 16 < 2 ^ 32 by omega)]
  omega
theorem and15n (now : Nat) (hn : now < 2 ^ 30) : nI now &&& nI 15 = nI (now % 16) := by
  have h := and15 now 0 (by omega) hn
  rw [show nI now - nI 0 = nI now from Int32.sub_zero _] at h
  rw [h]
  congr 1
  omega
/-- what changes at a time among the first gates: how many, the time, how many outs -/
def chP (N : NT) (dl : Nat → Nat) (n0 n1 t k : Nat) : Prop := nK N k ≠ 4 ∧ ¬ wv N dl n0 n1 k t = wp N dl n0 n1 k t
def rX (N : NT) (dl : Nat → Nat) (n0 n1 t : Nat) : Nat → Nat
  | 0 => 0
  | k + 1 => rX N dl n0 n1 t k + (if nK N k ≠ 4 ∧ ¬ wv N dl n0 n1 k t = wp N dl n0 n1 k t then 1 else 0)
def rY (N : NT) (dl : Nat → Nat) (n0 n1 t y : Nat) : Nat → Nat
  | 0 => y
  | k + 1 => if nK N k ≠ 4 ∧ ¬ wv N dl n0 n1 k t = wp N dl n0 n1 k t then max (rY N dl n0 n1 t y k) t else rY N dl n0 n1 t y k
def rZ (N : NT) (dl : Nat → Nat) (n0 n1 t : Nat) : Nat → Nat
  | 0 => 0
  | k + 1 => rZ N dl n0 n1 t k + (if nK N k ≠ 4 ∧ ¬ wv N dl n0 n1 k t = wp N dl n0 n1 k t then (if (∃ r, r < nO N ∧ nU N r = k) then 1 else 0) else 0)
theorem rY_le {N : NT} {dl : Nat → Nat} {n0 n1 t y : Nat} (hy : y ≤ t) : ∀ k, rY N dl n0 n1 t y k ≤ t := by
  intro k
  induction k with
  | zero => exact hy
  | succ k ih =>
    show (if _ then _ else _) ≤ t
    by_cases h : nK N k ≠ 4 ∧ ¬ wv N dl n0 n1 k t = wp N dl n0 n1 k t
    · rw [if_pos h]; exact Nat.max_le.mpr ⟨ih, Nat.le_refl _⟩
    · rw [if_neg h]; exact ih
theorem r_y {N : NT} {dl : Nat → Nat} {n0 n1 t x y z k : Nat} (h : nK N k ≠ 4 ∧ ¬ wv N dl n0 n1 k t = wp N dl n0 n1 k t) : x + rX N dl n0 n1 t (k + 1) = x + rX N dl n0 n1 t k + 1 ∧ rY N dl n0 n1 t y (k + 1) = max (rY N dl n0 n1 t y k) t ∧ z + rZ N dl n0 n1 t (k + 1) = z + rZ N dl n0 n1 t k + (if (∃ r, r < nO N ∧ nU N r = k) then 1 else 0) := by
  refine ⟨?_, if_pos h, ?_⟩
  · show x + (_ + _) = _
    rw [if_pos h]; omega
  · show z + (_ + _) = _
    rw [if_pos h, Nat.add_assoc]
theorem r_n {N : NT} {dl : Nat → Nat} {n0 n1 t x y z k : Nat} (h : ¬ (nK N k ≠ 4 ∧ ¬ wv N dl n0 n1 k t = wp N dl n0 n1 k t)) : x + rX N dl n0 n1 t (k + 1) = x + rX N dl n0 n1 t k ∧ rY N dl n0 n1 t y (k + 1) = rY N dl n0 n1 t y k ∧ z + rZ N dl n0 n1 t (k + 1) = z + rZ N dl n0 n1 t k := by
  refine ⟨?_, if_neg h, ?_⟩
  · show x + (_ + _) = _
    rw [if_neg h]; rfl
  · show z + (_ + _) = _
    rw [if_neg h]; rfl
theorem w16_wp {N : NT} {dl : Nat → Nat} {n0 n1 k now : Nat} : w16 N dl n0 n1 k (now + 15) = wp N dl n0 n1 k now := by
  unfold w16 wp
  by_cases h : now = 0
  · rw [if_pos (by omega), if_pos h]
  · rw [if_neg (by omega), if_neg h]
    congr 1
theorem wv_w16 {N : NT} {dl : Nat → Nat} (hN : WF N) {n0 n1 k now : Nat} (hk : k < nG N) (h : nT N k = -1) (h4 : ¬ nK N k = 4) (hd : dl (nK N k) ≤ 16) : wv N dl n0 n1 k now = jn (nK N k) (w16 N dl n0 n1 (nF N k) (now + 16 - dl (nK N k))) (w16 N dl n0 n1 (nS N k) (now + 16 - dl (nK N k))) := by
  rw [wv_gt hN hk h h4]
  unfold w16
  by_cases c : now < dl (nK N k)
  · rw [if_pos c, if_pos (by omega), if_pos (by omega), bt_gt hN hk h h4]
  · rw [if_neg c, if_neg (by omega), if_neg (by omega)]
    congr 1 <;> congr 1 <;> omega
/-- the window while a time is worked out: the first k gates have it -/
def WIK (N : NT) (dl : Nat → Nat) (n0 n1 now k : Nat) (f : Nat → Int32) : Prop := (∀ r, r < k → ∀ z, 1 ≤ z → z ≤ 16 → f (r * 16 + (now + z) % 16) = bi (w16 N dl n0 n1 r (now + z))) ∧ ∀ r, k ≤ r → r < nG N → ∀ z, z < 16 → f (r * 16 + (now + z) % 16) = bi (w16 N dl n0 n1 r (now + z))
theorem WIK_0 {N : NT} {dl : Nat → Nat} {n0 n1 now : Nat} {f : Nat → Int32} (h : WIN N dl n0 n1 now f) : WIK N dl n0 n1 now 0 f := ⟨fun r hr => absurd hr (Nat.not_lt_zero _), fun r _ hr => h r hr⟩
theorem WIK_e {N : NT} {dl : Nat → Nat} {n0 n1 now : Nat} {f : Nat → Int32} (h : WIK N dl n0 n1 now (nG N) f) : WIN N dl n0 n1 (now + 1) f := by
  intro r hr z hz
  have := h.1 r hr (z + 1) (by omega) (by omega)
  rw [show now + 1 + z = now + (z + 1) by omega]
  exact this
theorem WIK_s {N : NT} {dl : Nat → Nat} {n0 n1 now k : Nat} {f : Nat → Int32} (h : WIK N dl n0 n1 now k f) (hk : k < nG N) : WIK N dl n0 n1 now (k + 1) (upd f (k * 16 + now % 16) (bi (wv N dl n0 n1 k now))) := by
  refine ⟨fun r hr z h1 h2 => ?_, fun r hr hg z hz => ?_⟩
  · unfold upd
    by_cases e : r = k
    · subst e
      by_cases ez : z = 16
      · subst ez
        rw [if_pos (by omega)]
        unfold w16
        rw [if_neg (by omega)]
        congr 2
      · rw [if_neg (by omega)]
        exact h.2 r (Nat.le_refl _) hk z (by omega)
    · rw [if_neg (by omega)]
      exact h.1 r (by omega) z h1 h2
  · unfold upd
    rw [if_neg (by omega)]
    exact h.2 r (by omega) hg z hz
theorem orA_l {A B C : Nat → Prop} (h : ∀ q, C q → A q) : ∀ q, C q → orA A B q := fun q c => Or.inl (h q c)
theorem orA_r {A B C : Nat → Prop} (h : ∀ q, C q → B q) : ∀ q, C q → orA A B q := fun q c => Or.inr (h q c)
theorem win {N : NT} {dl : Nat → Nat} {n0 n1 now k r d : Nat} {g : Nat → Int32} (h : ∀ r, r < k → ∀ z, 1 ≤ z → z ≤ 16 → g (r * 16 + (now + z) % 16) = bi (w16 N dl n0 n1 r (now + z))) (hr : r < k) (h1 : 1 ≤ d) (h2 : d ≤ 9) : g (r * 16 + (now + 16 - d) % 16) = bi (w16 N dl n0 n1 r (now + 16 - d)) := by
  have := h r hr (16 - d) (by omega) (by omega)
  rw [show now + (16 - d) = now + 16 - d by omega] at this
  exact this
