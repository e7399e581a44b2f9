/-! what the reference's loops find -/
theorem and_bit {n p : Nat} (hn : n < 2 ^ 31) (hp : p < 32) : nI (n / 2 ^ p) &&& nI 1 = bi (n.testBit p) := by
  rw [← shrN hn hp]; exact shr_bit hn hp
theorem shr_1 {q p : Nat} (hq : q < 2 ^ 31) : nI (q / 2 ^ p) >>> (nI 1 &&& 31) = nI (q / 2 ^ (p + 1)) := by
  rw [shrN (Nat.lt_of_le_of_lt (Nat.div_le_self _ _) hq) (by omega), Nat.div_div_eq_div_mul, ← Nat.pow_add]
theorem jn_and {x y : Bool} : bi x &&& bi y = bi (x && y) := by cases x <;> cases y <;> decide
theorem jn_or {x y : Bool} : bi x ||| bi y = bi (x || y) := by cases x <;> cases y <;> decide
theorem jn_xor {x y : Bool} : bi x ^^^ bi y = bi (x ^^ y) := by cases x <;> cases y <;> decide
theorem jn_not {x : Bool} : nI 1 - bi x = bi (!x) := by cases x <;> decide
theorem jn_0 {kd : Nat} {x y : Bool} (h : kd = 0) : jn kd x y = (x && y) := if_pos h
theorem jn_1 {kd : Nat} {x y : Bool} (h0 : kd ≠ 0) (h : kd = 1) : jn kd x y = (x || y) := (if_neg h0).trans (if_pos h)
theorem jn_2 {kd : Nat} {x y : Bool} (h0 : kd ≠ 0) (h1 : kd ≠ 1) (h : kd = 2) : jn kd x y = (x ^^ y) := (if_neg h0).trans ((if_neg h1).trans (if_pos h))
theorem jn_3 {kd : Nat} {x y : Bool} (h0 : kd ≠ 0) (h1 : kd ≠ 1) (h2 : kd ≠ 2) : jn kd x y = !x := (if_neg h0).trans ((if_neg h1).trans (if_neg h2))
/-- the greatest time of the first outs -/
def mxO (N : NT) (t : Nat → Nat) : Nat → Nat
  | 0 => 0
  | p + 1 => max (mxO N t p) (t (nU N p))
theorem bst_mx {N : NT} {t : Nat → Nat} : ∀ p, (∀ g, bst N t p = some g → t g = mxO N t p) ∧ (bst N t p = none → p = 0) := by
  intro p
  induction p with
  | zero => exact ⟨fun g h => (by cases h), fun _ => rfl⟩
  | succ p ih =>
    have e : bst N t (p + 1) = bsS N t p (bst N t p) := rfl
    have em : mxO N t (p + 1) = max (mxO N t p) (t (nU N p)) := rfl
    cases hb : bst N t p with
    | none =>
      have hp := ih.2 hb
      subst hp
      refine ⟨fun g h => ?_, fun h => ?_⟩
      · rw [e, hb] at h; cases h
        rw [em]; show _ = max 0 _; omega
      · rw [e, hb] at h; cases h
    | some g2 =>
      have h2 := ih.1 g2 hb
      have e2 : bsS N t p (some g2) = if t g2 < t (nU N p) then some (nU N p) else some g2 := rfl
      by_cases c : t g2 < t (nU N p)
      · refine ⟨fun g h => ?_, fun h => ?_⟩
        · rw [e, hb, e2, if_pos c] at h; cases h
          rw [em, ← h2]; omega
        · rw [e, hb, e2, if_pos c] at h; cases h
      · refine ⟨fun g h => ?_, fun h => ?_⟩
        · rw [e, hb, e2, if_neg c] at h; cases h
          rw [em, ← h2]; omega
        · rw [e, hb, e2, if_neg c] at h; cases h
theorem dlN_mx {N : NT} {t : Nat → Nat} : dlN N t = mxO N t (nO N) := by
  unfold dlN
  cases hb : bst N t (nO N) with
  | none =>
    have := (bst_mx (N := N) (t := t) (nO N)).2 hb
    rw [this]; rfl
  | some g => exact (bst_mx (nO N)).1 g hb
theorem mxO_lt {N : NT} {dl : Nat → Nat} (hN : WF N) (hd : DL dl) : ∀ p, p ≤ nO N → mxO N (tm N dl) p ≤ 1071 := by
  intro p
  induction p with
  | zero => intro _; exact Nat.zero_le _
  | succ p ih =>
    intro hp
    have h1 := ih (by omega)
    have h2 := tm_lt (dl := dl) hN hd (hN.u (p := p) (by omega))
    show max _ _ ≤ _
    omega
/-- the first of the outs that has a time, from the last one down -/
def fsO (N : NT) (t : Nat → Nat) (m n : Nat) : Nat → Option Nat
  | 0 => none
  | j + 1 => if t (nU N (n - (j + 1))) = m then some (nU N (n - (j + 1))) else fsO N t m n j
theorem fsO_lt {N : NT} (hN : WF N) {t : Nat → Nat} {m : Nat} : ∀ j, j ≤ nO N → ∀ g, fsO N t m (nO N) j = some g → g < nG N := by
  intro j
  induction j with
  | zero => intro _ g h; cases h
  | succ j ih =>
    intro hj g h
    have h1 : (if t (nU N (nO N - (j + 1))) = m then some (nU N (nO N - (j + 1))) else fsO N t m (nO N) j) = some g := h
    by_cases c : t (nU N (nO N - (j + 1))) = m
    · rw [if_pos c] at h1; cases h1; exact hN.u (by omega)
    · rw [if_neg c] at h1; exact ih (by omega) g h1
/-- the best of the first p outs is the first one with the greatest time of them -/
theorem bst_fs {N : NT} {t : Nat → Nat} : ∀ p, (∀ g, bst N t p = some g → ∃ r, r < p ∧ nU N r = g ∧ ∀ q, q < r → t (nU N q) < t g) := by
  intro p
  induction p with
  | zero => intro g h; cases h
  | succ p ih =>
    intro g h
    have e : bst N t (p + 1) = bsS N t p (bst N t p) := rfl
    rw [e] at h
    cases hb : bst N t p with
    | none =>
      have hp := (bst_mx (N := N) (t := t) p).2 hb
      rw [hb] at h; cases h
      exact ⟨p, by omega, rfl, fun q hq => by omega⟩
    | some g2 =>
      have e2 : bsS N t p (some g2) = if t g2 < t (nU N p) then some (nU N p) else some g2 := rfl
      rw [hb, e2] at h
      obtain ⟨r, h1, h2, h3⟩ := ih g2 hb
      by_cases c : t g2 < t (nU N p)
      · rw [if_pos c] at h; cases h
        refine ⟨p, by omega, rfl, fun q hq => ?_⟩
        have hm := (bst_mx (N := N) (t := t) p).1 g2 hb
        have hq2 : ∀ n q, q < n → t (nU N q) ≤ mxO N t n := by
          intro n
          induction n with
          | zero => intro q hq; omega
          | succ n ihn =>
            intro q hq
            show _ ≤ max _ _
            by_cases cq : q = n
            · subst cq; omega
            · have := ihn q (by omega); omega
        have := hq2 p q hq
        omega
      · rw [if_neg c] at h; cases h
        exact ⟨r, by omega, h2, h3⟩
theorem fsO_at {N : NT} {t : Nat → Nat} {m n r : Nat} (hr : r < n) (h1 : t (nU N r) = m) (h2 : ∀ q, q < r → t (nU N q) ≠ m) : fsO N t m n n = some (nU N r) := by
  have key : ∀ j, n - r ≤ j → j ≤ n → fsO N t m n j = some (nU N r) := by
    intro j
    induction j with
    | zero => intro h; omega
    | succ j ih =>
      intro hj hn
      show (if t (nU N (n - (j + 1))) = m then some (nU N (n - (j + 1))) else fsO N t m n j) = some (nU N r)
      by_cases c : n - (j + 1) = r
      · rw [c, if_pos h1]
      · rw [if_neg (h2 _ (by omega))]
        exact ih (by omega) (by omega)
  exact key n (by omega) (Nat.le_refl _)
theorem fsO_bst {N : NT} {t : Nat → Nat} : fsO N t (mxO N t (nO N)) (nO N) (nO N) = bst N t (nO N) := by
  cases hb : bst N t (nO N) with
  | none =>
    have := (bst_mx (N := N) (t := t) (nO N)).2 hb
    rw [this]; rfl
  | some g =>
    obtain ⟨r, h1, h2, h3⟩ := bst_fs (N := N) (t := t) (nO N) g hb
    have hm := (bst_mx (N := N) (t := t) (nO N)).1 g hb
    rw [← h2]
    refine fsO_at h1 (by rw [h2]; exact hm) (fun q hq => ?_)
    have := h3 q hq
    omega
theorem nxt_lt {N : NT} (hN : WF N) {dl t : Nat → Nat} {k g : Nat} (hk : k < nG N) (h : nxt N dl t k = some g) : g < k := by
  unfold nxt at h
  by_cases c : nK N k = 4
  · rw [if_pos c] at h; cases h
  · rw [if_neg c] at h
    have hf := hN.fs hk c
    by_cases c2 : t (nF N k) + dl (nK N k) = t k
    · rw [if_pos c2] at h; cases h; exact hf.1
    · rw [if_neg c2] at h; cases h; exact hf.2
theorem pt_dn {N : NT} (hN : WF N) {dl : Nat → Nat} : ∀ n g, pt N dl n = some g → g + n < nG N := by
  intro n
  induction n with
  | zero => exact fun g h => bst_lt hN _ (Nat.le_refl _) g h
  | succ n ih =>
    intro g h
    have h1 : (pt N dl n).bind (fun k => nxt N dl (tm N dl) k) = some g := h
    cases hb : pt N dl n with
    | none => rw [hb] at h1; cases h1
    | some k =>
      rw [hb] at h1
      have := ih k hb
      have h2 := nxt_lt hN (show k < nG N by omega) h1
      omega
theorem pa_eq {N : NT} (hN : WF N) {dl : Nat → Nat} {x : Int32} (hx : ¬ x < 0) : paV N dl x = oI (pt N dl (ix x)) := by
  unfold paV
  by_cases c : x < nI 120
  · rw [if_pos c]
  · rw [if_neg c]
    cases hp : pt N dl (ix x) with
    | none => rfl
    | some g =>
      exfalso
      have h1 := pt_dn hN _ g hp
      have h2 := hN.g
      apply c
      have h3 : inBd x (2 ^ 31 - 1) := ⟨hx, Int32.lt_iff_toInt_lt.mpr (by rw [nI_toInt (by decide)]; have := Int32.toInt_lt x; have h4 : ix x < 120 := (by omega); have h5 : ¬ x.toInt < 0 := fun q => hx (Int32.lt_iff_toInt_lt.mpr q); have h6 : ix x = x.toInt.toNat := rfl; omega)⟩
      rw [ix_eq h3 (by decide)]
      exact (nI_ltI (by omega) (by omega)).mpr (by omega)
theorem ge0_z {x : Int32} (h : ¬ x < 0) : ∃ z, ix x = z ∧ x = nI z ∧ z < 2 ^ 31 := by
  have h1 : ¬ x.toInt < 0 := fun q => h (Int32.lt_iff_toInt_lt.mpr q)
  have h2 := Int32.toInt_lt x
  have h3 : ix x = x.toInt.toNat := rfl
  refine ⟨ix x, rfl, ?_, by omega⟩
  apply Int32.toInt_inj.mp
  rw [nI_toInt (by omega)]
  omega
theorem or_t {f : Nat → Int32} {F : Nat → Bool} {n k : Nat} (h : ∀ r, r < n → f r = bi (F r)) : ∀ r, r < n → upd f k (bi (F k || true)) r = bi (setT F k r) := by
  intro r hr
  unfold upd setT
  by_cases e : r = k
  · rw [if_pos e, if_pos e]; cases F k <;> rfl
  · rw [if_neg e, if_neg e, h r hr]
theorem or_f {f : Nat → Int32} {F : Nat → Bool} {n k : Nat} (h : ∀ r, r < n → f r = bi (F r)) : ∀ r, r < n → upd f k (bi (F k || false)) r = bi (F r) := by
  intro r hr
  unfold upd
  by_cases e : r = k
  · rw [if_pos e, e]; cases F k <;> rfl
  · rw [if_neg e, h r hr]
theorem mb_at {N : NT} (hN : WF N) {F F0 : Nat → Bool} {v : Nat} (hv : v < nG N) (h : mbD N F (v + 1) = F0) : F0 v = F v := by
  rw [← h]
  exact mbD_hi hN (v + 1) (by omega) (by omega)
theorem mb_t {N : NT} {F : Nat → Bool} {v : Nat} (h : F v = true) (h4 : nK N v ≠ 4) : mbS N v F = setT (setT F (nF N v)) (nS N v) := if_pos ⟨h, h4⟩
theorem mb_f {N : NT} {F : Nat → Bool} {v : Nat} (h : F v = false) : mbS N v F = F := if_neg (fun q => by rw [h] at q; exact absurd q.1 (by decide))
theorem mb_4 {N : NT} {F : Nat → Bool} {v : Nat} (h4 : nK N v = 4) : mbS N v F = F := if_neg (fun q => q.2 h4)
theorem idT_mono (N : NT) (F : Nat → Bool) {j n : Nat} (h : j ≤ n) : idT N F j ≤ idT N F n := by
  induction n with
  | zero => rw [Nat.le_zero.mp h]; exact Nat.le_refl _
  | succ n ih =>
    rcases Nat.lt_or_ge j (n + 1) with q | q
    · exact Nat.le_trans (ih (by omega)) (Nat.le_add_right _ _)
    · rw [Nat.le_antisymm h q]; exact Nat.le_refl _
