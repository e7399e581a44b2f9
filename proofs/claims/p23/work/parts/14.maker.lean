/-! nets made as adders and multipliers -/
def hfN (N : NT) (p q : Nat) : NT := addG (addG N 2 p q) 0 p q
def fuN (N : NT) (p q r : Nat) : NT := addG (addG (addG (addG (addG N 2 p q) 2 (nG N) r) 0 p q) 0 (nG N) r) 1 (nG N + 2) (nG N + 3)
def inN (N : NT) : Nat → NT
  | 0 => N
  | n + 1 => addI (inN N n)
theorem inN_g (N : NT) (n : Nat) : nG (inN N n) = nG N + n := by
  induction n with
  | zero => rfl
  | succ n ih => show nG (inN N n) + 1 = _; rw [ih]; omega
theorem inN_o (N : NT) (n : Nat) : nO (inN N n) = nO N := by
  induction n with
  | zero => rfl
  | succ n ih => exact ih
/-- ripple: net and carry behind the k-th full -/
def rpT (M : NT) (w : Nat) : Nat → NT × Nat
  | 0 => (addO (hfN M 0 w) (nG M), nG M + 1)
  | k + 1 => (addO (fuN (rpT M w k).1 (k + 1) (w + (k + 1)) (rpT M w k).2) (nG (rpT M w k).1 + 1), nG (rpT M w k).1 + 4)
def ripN (N : NT) (w : Nat) : NT := addO (rpT (inN N (2 * w)) w (w - 1)).1 (rpT (inN N (2 * w)) w (w - 1)).2
theorem rpT_g (M : NT) (w k : Nat) : nG (rpT M w k).1 = nG M + 2 + 5 * k ∧ nO (rpT M w k).1 = nO M + 1 + k := by
  induction k with
  | zero => exact ⟨rfl, rfl⟩
  | succ k ih =>
    constructor
    · show nG (rpT M w k).1 + 1 + 1 + 1 + 1 + 1 = _
      rw [ih.1]; omega
    · show nO (rpT M w k).1 + 1 = _
      rw [ih.2]; omega
/-- spread and jump -/
def heT (M : NT) (w : Nat) : Nat → NT
  | 0 => M
  | k + 1 => hfN (heT M w k) k (w + k)
theorem heT_g (M : NT) (w k : Nat) : nG (heT M w k) = nG M + 2 * k ∧ nO (heT M w k) = nO M := by
  induction k with
  | zero => exact ⟨rfl, rfl⟩
  | succ k ih =>
    constructor
    · show nG (heT M w k) + 1 + 1 = _
      rw [ih.1]; omega
    · exact ih.2
/-- the partner of k at distance d and one more, or 0 where there is none -/
def jp (sp : Prop) [Decidable sp] (d k : Nat) : Nat := if sp then (if k / d % 2 = 1 then k / d * d else 0) else (if d ≤ k then k - d + 1 else 0)
abbrev JS : Type := NT × (Nat → Nat) × (Nat → Nat)
def jst (sp : Prop) [Decidable sp] (d k : Nat) (P C : Nat → Nat) (s : JS) : JS := if jp sp d k = 0 then s else
  (addG (addG (addG s.1 0 (P k) (C (jp sp d k - 1))) 1 (C k) (nG s.1)) 0 (P k) (P (jp sp d k - 1)), un s.2.1 k (nG s.1 + 2), un s.2.2 k (nG s.1 + 1))
def joT (sp : Prop) [Decidable sp] (d : Nat) (s : JS) : Nat → JS
  | 0 => s
  | k + 1 => jst sp d k s.2.1 s.2.2 (joT sp d s k)
def jdT (sp : Prop) [Decidable sp] (w : Nat) (s : JS) : Nat → JS
  | 0 => s
  | n + 1 => joT sp (2 ^ n) (jdT sp w s n) w
def rdN (w : Nat) : Nat := if w ≤ 1 then 0 else if w ≤ 2 then 1 else if w ≤ 4 then 2 else 3
def ojT (M : NT) (X C : Nat → Nat) : Nat → NT
  | 0 => addO M (X 0)
  | q + 1 => addO (addG (ojT M X C q) 2 (X (q + 1)) (C q)) (nG (ojT M X C q))
def joiN (sp : Prop) [Decidable sp] (N : NT) (w : Nat) : NT :=
  addO (ojT (jdT sp w (heT (inN N (2 * w)) w w, (fun k => nG (inN N (2 * w)) + 2 * k), (fun k => nG (inN N (2 * w)) + 2 * k + 1)) (rdN w)).1 (fun k => nG (inN N (2 * w)) + 2 * k) (jdT sp w (heT (inN N (2 * w)) w w, (fun k => nG (inN N (2 * w)) + 2 * k), (fun k => nG (inN N (2 * w)) + 2 * k + 1)) (rdN w)).2.2 (w - 1))
    ((jdT sp w (heT (inN N (2 * w)) w w, (fun k => nG (inN N (2 * w)) + 2 * k), (fun k => nG (inN N (2 * w)) + 2 * k + 1)) (rdN w)).2.2 (w - 1))
theorem jst_g {sp : Prop} [Decidable sp] {d k : Nat} {P C : Nat → Nat} {s : JS} : nG s.1 ≤ nG (jst sp d k P C s).1 ∧ nG (jst sp d k P C s).1 ≤ nG s.1 + 3 ∧ nO (jst sp d k P C s).1 = nO s.1 := by
  unfold jst
  by_cases h : jp sp d k = 0
  · rw [if_pos h]; exact ⟨Nat.le_refl _, Nat.le_add_right _ _, rfl⟩
  · rw [if_neg h]
    refine ⟨?_, ?_, rfl⟩
    · show nG s.1 ≤ nG s.1 + 1 + 1 + 1; omega
    · show nG s.1 + 1 + 1 + 1 ≤ _; omega
theorem joT_g {sp : Prop} [Decidable sp] {d : Nat} {s : JS} : ∀ k, nG s.1 ≤ nG (joT sp d s k).1 ∧ nG (joT sp d s k).1 ≤ nG s.1 + 3 * k ∧ nO (joT sp d s k).1 = nO s.1 := by
  intro k
  induction k with
  | zero => exact ⟨Nat.le_refl _, Nat.le_refl _, rfl⟩
  | succ k ih =>
    have h := jst_g (sp := sp) (d := d) (k := k) (P := s.2.1) (C := s.2.2) (s := joT sp d s k)
    refine ⟨Nat.le_trans ih.1 h.1, ?_, h.2.2.trans ih.2.2⟩
    have := h.2.1
    show nG (jst sp d k s.2.1 s.2.2 (joT sp d s k)).1 ≤ _
    omega
theorem jdT_g {sp : Prop} [Decidable sp] {w : Nat} {s : JS} : ∀ n, nG s.1 ≤ nG (jdT sp w s n).1 ∧ nG (jdT sp w s n).1 ≤ nG s.1 + 3 * w * n ∧ nO (jdT sp w s n).1 = nO s.1 := by
  intro n
  induction n with
  | zero => exact ⟨Nat.le_refl _, Nat.le_refl _, rfl⟩
  | succ n ih =>
    have h := joT_g (sp := sp) (d := 2 ^ n) (s := jdT sp w s n) w
    refine ⟨Nat.le_trans ih.1 h.1, ?_, h.2.2.trans ih.2.2⟩
    show nG (joT sp (2 ^ n) (jdT sp w s n) w).1 ≤ _
    have e : 3 * w * (n + 1) = 3 * w * n + 3 * w := by rw [Nat.mul_add, Nat.mul_one]
    rw [e]
    have := h.2.1
    omega
theorem ojT_g {M : NT} {X C : Nat → Nat} : ∀ q, nG (ojT M X C q) = nG M + q ∧ nO (ojT M X C q) = nO M + 1 + q := by
  intro q
  induction q with
  | zero => exact ⟨rfl, rfl⟩
  | succ q ih =>
    constructor
    · show nG (ojT M X C q) + 1 = _
      rw [ih.1]; omega
    · show nO (ojT M X C q) + 1 = _
      rw [ih.2]; omega
/-- the numbers that the joins hold are gates -/
def JB (s : JS) (w : Nat) : Prop := ∀ r, r < w → s.2.1 r < nG s.1 ∧ s.2.2 r < nG s.1
theorem jst_b {sp : Prop} [Decidable sp] {d k w : Nat} {P C : Nat → Nat} {s : JS} (h : JB s w) : JB (jst sp d k P C s) w := by
  unfold jst
  by_cases h0 : jp sp d k = 0
  · rw [if_pos h0]; exact h
  · rw [if_neg h0]
    intro r hr
    have := h r hr
    show un s.2.1 k (nG s.1 + 2) r < nG s.1 + 1 + 1 + 1 ∧ un s.2.2 k (nG s.1 + 1) r < nG s.1 + 1 + 1 + 1
    unfold un
    by_cases e : r = k
    · rw [if_pos e, if_pos e]; omega
    · rw [if_neg e, if_neg e]; omega
theorem joT_b {sp : Prop} [Decidable sp] {d w : Nat} {s : JS} (h : JB s w) : ∀ k, JB (joT sp d s k) w := by
  intro k
  induction k with
  | zero => exact h
  | succ k ih => exact jst_b ih
theorem jdT_b {sp : Prop} [Decidable sp] {w : Nat} {s : JS} (h : JB s w) : ∀ n, JB (jdT sp w s n) w := by
  intro n
  induction n with
  | zero => exact h
  | succ n ih => exact joT_b ih w
theorem sp_fact : ∀ k, k < 6 → ∀ n, n < 3 → ((nI k &&& nI (2 ^ n)) = 0 → k / 2 ^ n % 2 = 0) ∧ (¬ (nI k &&& nI (2 ^ n)) = 0 → k / 2 ^ n % 2 = 1 ∧ 1 ≤ k / 2 ^ n * 2 ^ n ∧ (nI k &&& -(nI (2 ^ n))) - nI 1 = nI (k / 2 ^ n * 2 ^ n - 1) ∧ k / 2 ^ n * 2 ^ n - 1 < k) := by decide +kernel
/-- the multiplier: all products, then row behind row -/
def prT (M : NT) (w : Nat) : Nat → NT
  | 0 => M
  | n + 1 => addG (prT M w n) 0 (n % w) (w + n / w)
theorem prT_g (M : NT) (w n : Nat) : nG (prT M w n) = nG M + n ∧ nO (prT M w n) = nO M := by
  induction n with
  | zero => exact ⟨rfl, rfl⟩
  | succ n ih =>
    constructor
    · show nG (prT M w n) + 1 = _
      rw [ih.1]; omega
    · exact ih.2
abbrev LnS : Type := NT × (Nat → Nat) × Nat
/-- one row: pm the products' numbers, i the row, ln how many the row has -/
def alS (pm : Nat → Nat) (ln k : Nat) (s : LnS) : LnS := if k = 0 then (hfN s.1 (s.2.1 k) (pm k), un s.2.1 k (nG s.1), nG s.1 + 1) else if k < ln then (fuN s.1 (s.2.1 k) (pm k) s.2.2, un s.2.1 k (nG s.1 + 1), nG s.1 + 4) else (hfN s.1 (pm k) s.2.2, un s.2.1 k (nG s.1), nG s.1 + 1)
def alT (pm : Nat → Nat) (ln : Nat) (s : LnS) : Nat → LnS
  | 0 => s
  | k + 1 => alS pm ln k (alT pm ln s k)
/-- behind row i: net, line, length of it -/
def muT (w b : Nat) (M : NT) : Nat → NT × (Nat → Nat) × Nat
  | 0 => (M, (fun r => b + r), w)
  | i + 1 => ((alT (fun k => b + (i + 1) * w + k) ((muT w b M i).2.2 - 1) (addO (muT w b M i).1 ((muT w b M i).2.1 0), (fun r => (muT w b M i).2.1 (r + 1)), 0) w).1,
      un (alT (fun k => b + (i + 1) * w + k) ((muT w b M i).2.2 - 1) (addO (muT w b M i).1 ((muT w b M i).2.1 0), (fun r => (muT w b M i).2.1 (r + 1)), 0) w).2.1 w (alT (fun k => b + (i + 1) * w + k) ((muT w b M i).2.2 - 1) (addO (muT w b M i).1 ((muT w b M i).2.1 0), (fun r => (muT w b M i).2.1 (r + 1)), 0) w).2.2, w + 1)
def oaT (M : NT) (Lf : Nat → Nat) : Nat → NT
  | 0 => M
  | q + 1 => addO (oaT M Lf q) (Lf q)
def mulN (N : NT) (w : Nat) : NT := oaT (muT w (nG (inN N (2 * w))) (prT (inN N (2 * w)) w (w * w)) (w - 1)).1 (muT w (nG (inN N (2 * w))) (prT (inN N (2 * w)) w (w * w)) (w - 1)).2.1 (muT w (nG (inN N (2 * w))) (prT (inN N (2 * w)) w (w * w)) (w - 1)).2.2
theorem orA_m {A B A' B' : Nat → Prop} (h1 : ∀ q, A q → A' q) (h2 : ∀ q, B q → B' q) : ∀ q, orA A B q → orA A' B' q := fun q h => h.elim (fun x => Or.inl (h1 q x)) (fun x => Or.inr (h2 q x))
theorem orA_3 {A B C A' B' : Nat → Prop} (h1 : ∀ q, A q → A' q) (h2 : ∀ q, B q → A' q) (h3 : ∀ q, C q → B' q) : ∀ q, orA A (orA B C) q → orA A' B' q := fun q h => h.elim (fun x => Or.inl (h1 q x)) (fun h => h.elim (fun x => Or.inl (h2 q x)) (fun x => Or.inr (h3 q x)))
theorem orA_t {A B C A' B' C' : Nat → Prop} (h1 : ∀ q, A q → A' q) (h2 : ∀ q, B q → B' q) (h3 : ∀ q, C q → C' q) : ∀ q, orA A (orA B C) q → orA A' (orA B' C') q := fun q h => h.elim (fun x => Or.inl (h1 q x)) (fun h => h.elim (fun x => Or.inr (Or.inl (h2 q x))) (fun x => Or.inr (Or.inr (h3 q x))))
theorem jv_neg {z : Nat} {jv : Int32} (hj : (z = 0 ∧ jv < 0) ∨ (z ≠ 0 ∧ jv = nI (z - 1))) (c : jv < 0) (hz : z < 2 ^ 31) : z = 0 := by
  rcases hj with h | h
  · exact h.1
  · rw [h.2] at c; exact absurd c (nI_pos (by omega))
theorem jv_pos {z : Nat} {jv : Int32} (hj : (z = 0 ∧ jv < 0) ∨ (z ≠ 0 ∧ jv = nI (z - 1))) (c : ¬ jv < 0) : z ≠ 0 ∧ jv = nI (z - 1) := hj.elim (fun h => absurd h.2 c) id
theorem jv_z {z : Nat} : (z = 0 ∧ nI z - nI 1 < 0) ∨ (z ≠ 0 ∧ nI z - nI 1 = nI (z - 1)) := by
  cases z with
  | zero => exact Or.inl ⟨rfl, by decide⟩
  | succ m => exact Or.inr ⟨by omega, nI_pred m⟩
theorem jv_sp {sp : Prop} [Decidable sp] {n k : Nat} (h : sp) (hk : k < 2 ^ 31) : (jp sp (2 ^ n) k = 0 ∧ nI (if k / 2 ^ n % 2 = 1 then k / 2 ^ n * 2 ^ n else 0) - nI 1 < 0) ∨ (jp sp (2 ^ n) k ≠ 0 ∧ nI (if k / 2 ^ n % 2 = 1 then k / 2 ^ n * 2 ^ n else 0) - nI 1 = nI (jp sp (2 ^ n) k - 1)) := by
  unfold jp
  rw [if_pos h]
  exact jv_z
theorem jv_ju {sp : Prop} [Decidable sp] {d k : Nat} (h : ¬ sp) (hk : k < 2 ^ 30) (hd : d < 2 ^ 30) : (jp sp d k = 0 ∧ nI k - nI d < 0) ∨ (jp sp d k ≠ 0 ∧ nI k - nI d = nI (jp sp d k - 1)) := by
  unfold jp
  rw [if_neg h]
  by_cases c : d ≤ k
  · rw [if_pos c]
    exact Or.inr ⟨by omega, by rw [pk_sub c]; rfl⟩
  · rw [if_neg c]
    exact Or.inl ⟨rfl, pk_sneg hd (by omega)⟩
theorem jp_le {sp : Prop} [Decidable sp] {d k : Nat} (hd : 1 ≤ d) : jp sp d k ≤ k := by
  unfold jp
  by_cases h : sp
  · rw [if_pos h]
    by_cases c : k / d % 2 = 1
    · rw [if_pos c]; exact Nat.div_mul_le_self k d
    · rw [if_neg c]; exact Nat.zero_le _
  · rw [if_neg h]
    by_cases c : d ≤ k
    · rw [if_pos c]; omega
    · rw [if_neg c]; exact Nat.zero_le _
theorem pow_case {n : Nat} (h : n ≤ 3) : (n = 0 ∧ 2 ^ n = 1) ∨ (n = 1 ∧ 2 ^ n = 2) ∨ (n = 2 ∧ 2 ^ n = 4) ∨ (n = 3 ∧ 2 ^ n = 8) := by
  have : n = 0 ∨ n = 1 ∨ n = 2 ∨ n = 3 := by omega
  rcases this with rfl | rfl | rfl | rfl <;> simp
theorem rd_eq {n w : Nat} (hw : 1 ≤ w ∧ w ≤ 6) (hn : n ≤ 3) (h1 : w ≤ 2 ^ n) (h2 : n = 0 ∨ 2 ^ n < 2 * w) : n = rdN w := by
  unfold rdN
  have hp := pow_case hn
  by_cases a : w ≤ 1
  · rw [if_pos a]; omega
  · rw [if_neg a]
    by_cases b : w ≤ 2
    · rw [if_pos b]; omega
    · rw [if_neg b]
      by_cases c : w ≤ 4
      · rw [if_pos c]; omega
      · rw [if_neg c]; omega
theorem jst_y {sp : Prop} [Decidable sp] {d k : Nat} {P C : Nat → Nat} {s : JS} (h : jp sp d k ≠ 0) : jst sp d k P C s = (addG (addG (addG s.1 0 (P k) (C (jp sp d k - 1))) 1 (C k) (nG s.1)) 0 (P k) (P (jp sp d k - 1)), un s.2.1 k (nG s.1 + 2), un s.2.2 k (nG s.1 + 1)) := if_neg h
theorem upd_unr {f : Nat → Int32} {g : Nat → Nat} {w k x : Nat} (h : ∀ r, r < w → f r = nI (g r)) : ∀ r, r < w → upd f k (nI x) r = nI (un g k x r) := by
  intro r hr
  unfold upd un
  by_cases e : r = k
  · rw [if_pos e, if_pos e]
  · rw [if_neg e, if_neg e]; exact h r hr
/-- the line behind its first cells' moves -/
def shf (f : Nat → Int32) (q : Nat) : Nat → Int32 := fun r => if r + 1 < q then f (r + 1) else f r
theorem shf_1 (f : Nat → Int32) : shf f 1 = f := by
  funext r; exact if_neg (by omega)
theorem shf_at {f : Nat → Int32} {q : Nat} : shf f q q = f q := if_neg (by omega)
theorem shf_lt {f : Nat → Int32} {q r : Nat} (h : r + 1 < q) : shf f q r = f (r + 1) := if_pos h
theorem shf_s {f : Nat → Int32} {q : Nat} (h : 1 ≤ q) : upd (shf f q) (q - 1) (f q) = shf f (q + 1) := by
  funext r
  unfold upd shf
  by_cases e : r = q - 1
  · rw [if_pos e, if_pos (by omega), show r + 1 = q by omega]
  · rw [if_neg e]
    by_cases e2 : r + 1 < q
    · rw [if_pos e2, if_pos (by omega)]
    · rw [if_neg e2, if_neg (by omega)]
theorem upd_uns {f : Nat → Int32} {g : Nat → Nat} {w x : Nat} (h : ∀ r, r < w → f r = nI (g r)) : ∀ r, r < w + 1 → upd f w (nI x) r = nI (un g w x r) := by
  intro r hr
  unfold upd un
  by_cases e : r = w
  · rw [if_pos e, if_pos e]
  · rw [if_neg e, if_neg e]; exact h r (by omega)
theorem al_0 {pm : Nat → Nat} {ln k : Nat} {s : LnS} (h : k = 0) : alT pm ln s (k + 1) = (hfN (alT pm ln s k).1 ((alT pm ln s k).2.1 k) (pm k), un (alT pm ln s k).2.1 k (nG (alT pm ln s k).1), nG (alT pm ln s k).1 + 1) := if_pos h
theorem al_1 {pm : Nat → Nat} {ln k : Nat} {s : LnS} (h : ¬ k = 0) (h2 : k < ln) : alT pm ln s (k + 1) = (fuN (alT pm ln s k).1 ((alT pm ln s k).2.1 k) (pm k) (alT pm ln s k).2.2, un (alT pm ln s k).2.1 k (nG (alT pm ln s k).1 + 1), nG (alT pm ln s k).1 + 4) := (if_neg h).trans (if_pos h2)
theorem al_2 {pm : Nat → Nat} {ln k : Nat} {s : LnS} (h : ¬ k = 0) (h2 : ¬ k < ln) : alT pm ln s (k + 1) = (hfN (alT pm ln s k).1 (pm k) (alT pm ln s k).2.2, un (alT pm ln s k).2.1 k (nG (alT pm ln s k).1), nG (alT pm ln s k).1 + 1) := (if_neg h).trans (if_neg h2)
theorem al_n {pm : Nat → Nat} {ln k r : Nat} {s : LnS} (h : r ≠ k) : (alT pm ln s (k + 1)).2.1 r = (alT pm ln s k).2.1 r := by
  by_cases h0 : k = 0
  · rw [al_0 h0]; exact un_n h
  · by_cases h1 : k < ln
    · rw [al_1 h0 h1]; exact un_n h
    · rw [al_2 h0 h1]; exact un_n h
theorem al_f {pm : Nat → Nat} {ln k : Nat} {s : LnS} {f : Nat → Int32} (h : ∀ r, r < ln ∨ r < k → f r = nI ((alT pm ln s k).2.1 r)) : ∀ r, r < ln ∨ r < k + 1 → upd f k (nI ((alT pm ln s (k + 1)).2.1 k)) r = nI ((alT pm ln s (k + 1)).2.1 r) := by
  intro r hr
  unfold upd
  by_cases e : r = k
  · rw [if_pos e, e]
  · rw [if_neg e, al_n e]; exact h r (by omega)
theorem alT_g {pm : Nat → Nat} {ln : Nat} {s : LnS} : ∀ k, nG (alT pm ln s k).1 ≤ nG s.1 + 5 * k ∧ nO (alT pm ln s k).1 = nO s.1 := by
  intro k
  induction k with
  | zero => exact ⟨Nat.le_refl _, rfl⟩
  | succ k ih =>
    by_cases h0 : k = 0
    · rw [al_0 h0]
      refine ⟨?_, ih.2⟩
      show nG (alT pm ln s k).1 + 1 + 1 ≤ _; omega
    · by_cases h1 : k < ln
      · rw [al_1 h0 h1]
        refine ⟨?_, ih.2⟩
        show nG (alT pm ln s k).1 + 1 + 1 + 1 + 1 + 1 ≤ _; omega
      · rw [al_2 h0 h1]
        refine ⟨?_, ih.2⟩
        show nG (alT pm ln s k).1 + 1 + 1 ≤ _; omega
theorem muT_g {w b : Nat} {M : NT} : ∀ i, nG (muT w b M i).1 ≤ nG M + 5 * w * i ∧ nO (muT w b M i).1 = nO M + i ∧ ((i = 0 ∧ (muT w b M i).2.2 = w) ∨ (i ≠ 0 ∧ (muT w b M i).2.2 = w + 1)) := by
  intro i
  induction i with
  | zero => exact ⟨Nat.le_refl _, rfl, Or.inl ⟨rfl, rfl⟩⟩
  | succ i ih =>
    have h := alT_g (pm := fun k => b + (i + 1) * w + k) (ln := (muT w b M i).2.2 - 1) (s := (addO (muT w b M i).1 ((muT w b M i).2.1 0), (fun r => (muT w b M i).2.1 (r + 1)), 0)) w
    refine ⟨?_, ?_, Or.inr ⟨by omega, rfl⟩⟩
    · refine Nat.le_trans h.1 ?_
      show nG (muT w b M i).1 + 5 * w ≤ _
      have e : 5 * w * (i + 1) = 5 * w * i + 5 * w := by rw [Nat.mul_add, Nat.mul_one]
      omega
    · refine h.2.trans ?_
      show nO (muT w b M i).1 + 1 = _
      omega
theorem oaT_g {M : NT} {Lf : Nat → Nat} (q : Nat) : nO (oaT M Lf q) = nO M + q := by
  induction q with
  | zero => rfl
  | succ q ih =>
    show nO (oaT M Lf q) + 1 = _
    omega
theorem prT_s {M : NT} {w n k : Nat} (h : k < w) : prT M w (n * w + (k + 1)) = addG (prT M w (n * w + k)) 0 k (w + n) := by
  show addG (prT M w (n * w + k)) 0 ((n * w + k) % w) (w + (n * w + k) / w) = _
  rw [Nat.mul_comm n w, Nat.mul_add_mod, Nat.mod_eq_of_lt h, Nat.mul_add_div (by omega), Nat.div_eq_of_lt h, Nat.add_zero]
