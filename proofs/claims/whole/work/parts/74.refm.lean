/-! gates and outs are told apart: the outs may come later -/
theorem ag_oa {X : NT} {L : Nat → Nat} {kd f s : Nat} : ∀ q, addG (oaT X L q) kd f s = oaT (addG X kd f s) L q := by
  intro q
  induction q with
  | zero => rfl
  | succ q ih =>
    show addO (addG (oaT X L q) kd f s) (L q) = addO (oaT (addG X kd f s) L q) (L q)
    rw [ih]
theorem oa_same {X : NT} {L : Nat → Nat} : ∀ q, nG (oaT X L q) = nG X ∧ nIn (oaT X L q) = nIn X ∧ nK (oaT X L q) = nK X ∧ nF (oaT X L q) = nF X ∧ nS (oaT X L q) = nS X ∧ nT (oaT X L q) = nT X := by
  intro q
  induction q with
  | zero => exact ⟨rfl, rfl, rfl, rfl, rfl, rfl⟩
  | succ q ih => exact ih
theorem oa_out {X M : NT} {L : Nat → Nat} (h1 : nO X = nO M) (h2 : nU X = nU M) : ∀ q, nO (oaT X L q) = nO (oaT M L q) ∧ nU (oaT X L q) = nU (oaT M L q) := by
  intro q
  induction q with
  | zero => exact ⟨h1, h2⟩
  | succ q ih =>
    refine ⟨?_, ?_⟩
    · show nO (oaT X L q) + 1 = nO (oaT M L q) + 1
      rw [ih.1]
    · show un (nU (oaT X L q)) (nO (oaT X L q)) (L q) = un (nU (oaT M L q)) (nO (oaT M L q)) (L q)
      rw [ih.1, ih.2]
theorem ao_out {X M : NT} {g : Nat} (h1 : nO X = nO M) (h2 : nU X = nU M) : nO (addO X g) = nO (addO M g) ∧ nU (addO X g) = nU (addO M g) := by
  refine ⟨?_, ?_⟩
  · show nO X + 1 = nO M + 1
    rw [h1]
  · show un (nU X) (nO X) g = un (nU M) (nO M) g
    rw [h1, h2]
theorem fu_oa {X : NT} {L : Nat → Nat} {p q r n : Nat} : fuN (oaT X L n) p q r = oaT (fuN X p q r) L n := by
  have e := (oa_same (X := X) (L := L) n).1
  unfold fuN
  rw [e]
  simp only [ag_oa]
/-- ripple, gates alone: net and carry behind k steps; the sum of a step -/
def rgT (M : NT) (w : Nat) : Nat → NT × Nat
  | 0 => (M, 0)
  | k + 1 => if k = 0 then (hfN (rgT M w k).1 0 w, nG (rgT M w k).1 + 1) else (fuN (rgT M w k).1 k (w + k) (rgT M w k).2, nG (rgT M w k).1 + 4)
def rgS (M : NT) (w k : Nat) : Nat := if k = 0 then nG (rgT M w k).1 else nG (rgT M w k).1 + 1
theorem rg_0 {M : NT} {w k : Nat} (h : k = 0) : rgT M w (k + 1) = (hfN (rgT M w k).1 0 w, nG (rgT M w k).1 + 1) := if_pos h
theorem rg_s {M : NT} {w k : Nat} (h : k ≠ 0) : rgT M w (k + 1) = (fuN (rgT M w k).1 k (w + k) (rgT M w k).2, nG (rgT M w k).1 + 4) := if_neg h
theorem rgT_b {M : NT} {w : Nat} : ∀ k, nG M ≤ nG (rgT M w k).1 ∧ nG (rgT M w k).1 ≤ nG M + 5 * k ∧ nO (rgT M w k).1 = nO M ∧ nU (rgT M w k).1 = nU M := by
  intro k
  induction k with
  | zero => exact ⟨Nat.le_refl _, Nat.le_refl _, rfl, rfl⟩
  | succ k ih =>
    by_cases h : k = 0
    · rw [rg_0 h]
      have e : nG (hfN (rgT M w k).1 0 w) = nG (rgT M w k).1 + 2 := rfl
      exact ⟨by show nG M ≤ nG (hfN (rgT M w k).1 0 w); omega, by show nG (hfN (rgT M w k).1 0 w) ≤ _; omega, ih.2.2.1, ih.2.2.2⟩
    · rw [rg_s h]
      have e : nG (fuN (rgT M w k).1 k (w + k) (rgT M w k).2) = nG (rgT M w k).1 + 5 := rfl
      exact ⟨by show nG M ≤ nG (fuN (rgT M w k).1 k (w + k) (rgT M w k).2); omega, by show nG (fuN (rgT M w k).1 k (w + k) (rgT M w k).2) ≤ _; omega, ih.2.2.1, ih.2.2.2⟩
def riO (M : NT) (w : Nat) : NT := addO (oaT (rgT M w w).1 (rgS M w) w) (rgT M w w).2
theorem rp_rg {M : NT} {w : Nat} : ∀ k, rpT M w k = (oaT (rgT M w (k + 1)).1 (rgS M w) (k + 1), (rgT M w (k + 1)).2) := by
  intro k
  induction k with
  | zero => rfl
  | succ k ih =>
    have e := (oa_same (X := (rgT M w (k + 1)).1) (L := rgS M w) (k + 1)).1
    have e2 : rgS M w (k + 1) = nG (rgT M w (k + 1)).1 + 1 := if_neg (by omega)
    have h1 : rpT M w (k + 1) = (addO (fuN (rpT M w k).1 (k + 1) (w + (k + 1)) (rpT M w k).2) (nG (rpT M w k).1 + 1), nG (rpT M w k).1 + 4) := rfl
    rw [h1, ih]
    show (addO (fuN (oaT (rgT M w (k + 1)).1 (rgS M w) (k + 1)) (k + 1) (w + (k + 1)) (rgT M w (k + 1)).2) (nG (oaT (rgT M w (k + 1)).1 (rgS M w) (k + 1)) + 1), nG (oaT (rgT M w (k + 1)).1 (rgS M w) (k + 1)) + 4) = (addO (oaT (rgT M w (k + 1 + 1)).1 (rgS M w) (k + 1)) (rgS M w (k + 1)), (rgT M w (k + 1 + 1)).2)
    rw [fu_oa, e, e2, rg_s (show k + 1 ≠ 0 by omega)]
theorem ri_eq {N : NT} {w : Nat} (hw : 1 ≤ w) : riO (inN N (2 * w)) w = ripN N w := by
  unfold riO ripN
  have h := rp_rg (M := inN N (2 * w)) (w := w) (w - 1)
  rw [Nat.sub_add_cancel hw] at h
  rw [h]
/-- spread and jump -/
def joS (M : NT) (w : Nat) : JS := (heT M w w, (fun k => nG M + 2 * k), (fun k => nG M + 2 * k + 1))
def joO (sp : Prop) [Decidable sp] (M : NT) (w : Nat) : NT := addO (ojT (jdT sp w (joS M w) (rdN w)).1 (fun k => nG M + 2 * k) (jdT sp w (joS M w) (rdN w)).2.2 (w - 1)) ((jdT sp w (joS M w) (rdN w)).2.2 (w - 1))
theorem jo_eq {sp : Prop} [Decidable sp] {N : NT} {w : Nat} : joO sp (inN N (2 * w)) w = joiN sp N w := rfl
theorem js_1 {k n m : Nat} (hm : m = 1) (c : k / 2 ^ n % 2 = 1) : ∃ J, jp (m = 1) (2 ^ n) k = J + 1 ∧ nI (k / 2 ^ n * 2 ^ n) - nI 1 = nI J ∧ J < k := by
  have h0 : 0 < k / 2 ^ n := Nat.pos_of_ne_zero (fun q => by rw [q] at c; exact absurd c (by decide))
  have h1 : 1 ≤ k / 2 ^ n * 2 ^ n := Nat.mul_pos h0 (Nat.two_pow_pos n)
  have h2 := Nat.div_mul_le_self k (2 ^ n)
  refine ⟨k / 2 ^ n * 2 ^ n - 1, ?_, pk_sub h1, by omega⟩
  unfold jp
  rw [if_pos hm, if_pos c]; omega
theorem js_1n {k n m : Nat} (hm : m = 1) (c : k / 2 ^ n % 2 ≠ 1) : jp (m = 1) (2 ^ n) k = 0 := by
  unfold jp
  rw [if_pos hm, if_neg c]
theorem js_2 {k n m : Nat} (hm : ¬ m = 1) (c : 2 ^ n ≤ k) : ∃ J, jp (m = 1) (2 ^ n) k = J + 1 ∧ nI k - nI (2 ^ n) = nI J ∧ J < k := by
  have := Nat.two_pow_pos n
  refine ⟨k - 2 ^ n, ?_, pk_sub c, by omega⟩
  unfold jp
  rw [if_neg hm, if_pos c]
theorem js_2n {k n m : Nat} (hm : ¬ m = 1) (c : k < 2 ^ n) : jp (m = 1) (2 ^ n) k = 0 := by
  unfold jp
  rw [if_neg hm, if_neg (by omega)]
theorem jst_J {sp : Prop} [Decidable sp] {d k J : Nat} {P C : Nat → Nat} {s : JS} (h : jp sp d k = J + 1) : jst sp d k P C s = (addG (addG (addG s.1 0 (P k) (C J)) 1 (C k) (nG s.1)) 0 (P k) (P J), un s.2.1 k (nG s.1 + 2), un s.2.2 k (nG s.1 + 1)) := by
  rw [jst_y (by omega), h]; rfl
theorem joT_hi {sp : Prop} [Decidable sp] {d : Nat} {s : JS} : ∀ k r, k ≤ r → (joT sp d s k).2.1 r = s.2.1 r ∧ (joT sp d s k).2.2 r = s.2.2 r := by
  intro k
  induction k with
  | zero => intro r _; exact ⟨rfl, rfl⟩
  | succ k ih =>
    intro r hr
    have h := ih r (by omega)
    show (jst sp d k s.2.1 s.2.2 (joT sp d s k)).2.1 r = _ ∧ (jst sp d k s.2.1 s.2.2 (joT sp d s k)).2.2 r = _
    by_cases c : jp sp d k = 0
    · rw [show jst sp d k s.2.1 s.2.2 (joT sp d s k) = joT sp d s k from if_pos c]; exact h
    · rw [jst_y c]
      refine ⟨(un_n (by omega)).trans h.1, (un_n (by omega)).trans h.2⟩
theorem jst_u {sp : Prop} [Decidable sp] {d k : Nat} {P C : Nat → Nat} {s : JS} : nU (jst sp d k P C s).1 = nU s.1 := by
  unfold jst
  by_cases h : jp sp d k = 0
  · rw [if_pos h]
  · rw [if_neg h]; rfl
theorem joT_u {sp : Prop} [Decidable sp] {d : Nat} {s : JS} : ∀ k, nU (joT sp d s k).1 = nU s.1 := by
  intro k
  induction k with
  | zero => rfl
  | succ k ih => exact jst_u.trans ih
theorem jdT_u {sp : Prop} [Decidable sp] {w : Nat} {s : JS} : ∀ n, nU (jdT sp w s n).1 = nU s.1 := by
  intro n
  induction n with
  | zero => rfl
  | succ n ih => exact (joT_u w).trans ih
theorem heT_u {M : NT} {w : Nat} : ∀ k, nU (heT M w k) = nU M := by
  intro k
  induction k with
  | zero => rfl
  | succ k ih => exact ih
theorem upd_2 {f : Nat → Int32} {v : Nat → Nat} {k : Nat} {x y : Int32} (h : ∀ r, r < k → f r = nI (v r)) : ∀ r, r < k → upd (upd f k x) k y r = nI (v r) := fun r hr => (pk_un (by omega)).trans ((pk_un (by omega)).trans (h r hr))
theorem nI_p2 (n : Nat) : nI (2 ^ n) * nI 2 = nI (2 ^ (n + 1)) := by rw [pk_mul, Nat.pow_succ]
theorem up2_un {f : Nat → Int32} {v : Nat → Nat} {k x : Nat} {y : Int32} (h : ∀ r, r < k → f r = nI (v r)) : ∀ r, r < k + 1 → upd (upd f k y) k (nI x) r = nI (un v k x r) := by
  intro r hr
  by_cases e : r = k
  · rw [e, pk_us, un_s]
  · rw [pk_un e, pk_un e, un_n e]; exact h r (by omega)
theorem FS_clr {Ns : Nat → NT} {z : Nat} {N : NT} {fs sc : FN} (h : FS (upN Ns z N) fs sc) : FS (upN Ns z (clrN N)) fs sc := by
  intro r hr k h120 hk h9
  by_cases e : r = z
  · subst e
    rw [upN_s] at hk
    exact absurd hk (Nat.not_lt_zero k)
  · have h8 := h r hr k h120
    rw [upN_n e] at hk h9 h8 ⊢
    exact h8 hk h9
theorem six_open {G : GG} {a : Nat → Nat} {Ns : Nat → NT} {fs sc : FN} {H : Heap} (h : PP G (sixW G a Ns fs sc) H) : PP G (ar1 G a 94 480 (KF Ns)) H ∧ PP G (ar1 G a 95 480 fs) H ∧ PP G (ar1 G a 96 480 sc) H ∧ PP G (ar1 G a 97 480 (TF Ns)) H ∧ PP G (ar1 G a 98 4 (MF Ns)) H ∧ PP G (ar1 G a 99 4 (IF Ns)) H :=
  ⟨P_app1 h, P_app1 (P_app2 h), P_app1 (P_app2 (P_app2 h)), P_app1 (P_app2 (P_app2 (P_app2 h))), P_app1 (P_app2 (P_app2 (P_app2 (P_app2 h)))), P_app2 (P_app2 (P_app2 (P_app2 (P_app2 h))))⟩
theorem six_shut {G : GG} {a : Nat → Nat} {Ns : Nat → NT} {fs sc : FN} {H : Heap} (h1 : PP G (ar1 G a 94 480 (KF Ns)) H) (h2 : PP G (ar1 G a 95 480 fs) H) (h3 : PP G (ar1 G a 96 480 sc) H) (h4 : PP G (ar1 G a 97 480 (TF Ns)) H) (h5 : PP G (ar1 G a 98 4 (MF Ns)) H) (h6 : PP G (ar1 G a 99 4 (IF Ns)) H) : PP G (sixW G a Ns fs sc) H :=
  P_app h1 (P_app h2 (P_app h3 (P_app h4 (P_app h5 h6))))
theorem inN_u {N : NT} : ∀ n, nU (inN N n) = nU N := by
  intro n
  induction n with
  | zero => rfl
  | succ n ih => exact ih
theorem pr_up {f : Nat → Int32} {v : Nat → Nat → Nat} {w n k : Nat} (hw : w ≤ 4) (hk : k < w) (h : ∀ i j, j < w → (i < n ∨ (i = n ∧ j < k)) → f (4 * i + j) = nI (v i j)) : ∀ i j, j < w → (i < n ∨ (i = n ∧ j < k + 1)) → upd f (4 * n + k) (nI (v n k)) (4 * i + j) = nI (v i j) := by
  intro i j hj hi
  by_cases c : i = n ∧ j = k
  · rw [c.1, c.2, pk_us]
  · rw [pk_un (by omega)]
    exact h i j hj (by omega)
theorem alT_u {pm : Nat → Nat} {ln : Nat} {s : LnS} : ∀ k, nU (alT pm ln s k).1 = nU s.1 := by
  intro k
  induction k with
  | zero => rfl
  | succ k ih =>
    by_cases h0 : k = 0
    · rw [al_0 h0]; exact ih
    · by_cases h1 : k < ln
      · rw [al_1 h0 h1]; exact ih
      · rw [al_2 h0 h1]; exact ih
theorem prT_u {M : NT} {w : Nat} : ∀ n, nU (prT M w n) = nU M := by
  intro n
  induction n with
  | zero => rfl
  | succ n ih => exact ih
theorem dn_m1 {s : Nat} (h : 1 ≤ s) : nI s + Int32.ofInt (-1) = nI (s - 1) := (dn_iinc s).trans (pk_sub h)
theorem shf_r {f : Nat → Int32} {k : Nat} : upd (shf f (k + 1)) k (f (k + 1)) = shf f (k + 1 + 1) := shf_s (f := f) (q := k + 1) (by omega)
