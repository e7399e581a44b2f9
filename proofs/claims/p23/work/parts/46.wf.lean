/-! every call keeps the nets well-formed -/
theorem inC_un {N : NT} {kd n : Nat} {N2 : NT} (hk : nK N2 = un (nK N) n kd) : ∀ k, k ≤ n → inC N2 k = inC N k := by
  intro k
  induction k with
  | zero => intro _; rfl
  | succ k ih =>
    intro h
    show inC N2 k + (if nK N2 k = 4 then 1 else 0) = inC N k + (if nK N k = 4 then 1 else 0)
    rw [ih (by omega), hk, un_n (by omega)]
theorem inC_same {N N2 : NT} (hk : nK N2 = nK N) : ∀ k, inC N2 k = inC N k := by
  intro k
  induction k with
  | zero => rfl
  | succ k ih =>
    show inC N2 k + (if nK N2 k = 4 then 1 else 0) = inC N k + (if nK N k = 4 then 1 else 0)
    rw [ih, hk]
theorem WF_addG {N : NT} (h : WF N) {kd f s : Nat} (hg : nG N < 120) (hkd : kd < 4) (hf : f < nG N) (hs : s < nG N) (h3 : kd = 3 → s = f) : WF (addG N kd f s) := by
  refine ⟨hg, h.i, h.o, ?_, ?_, fun p hp => Nat.lt_succ_of_lt (h.u hp)⟩
  · show inC (addG N kd f s) (nG N) + (if un (nK N) (nG N) kd (nG N) = 4 then 1 else 0) = nIn N
    rw [inC_un (N := N) (n := nG N) (kd := kd) rfl _ (Nat.le_refl _), un_s, if_neg (by omega), h.c, Nat.add_zero]
  · intro k hk
    show un (nK N) (nG N) kd k ≤ 4 ∧ (un (nK N) (nG N) kd k ≠ 4 → un (nF N) (nG N) f k < k ∧ un (nS N) (nG N) s k < k) ∧ (un (nK N) (nG N) kd k = 3 → un (nS N) (nG N) s k = un (nF N) (nG N) f k) ∧ (upd (nT N) (nG N) (-1) k = -1 ∨ upd (nT N) (nG N) (-1) k = 0 ∨ upd (nT N) (nG N) (-1) k = 1)
    by_cases e : k = nG N
    · rw [e, un_s, un_s, un_s, show upd (nT N) (nG N) (-1) (nG N) = -1 from if_pos rfl]
      exact ⟨by omega, fun _ => ⟨hf, hs⟩, h3, Or.inl rfl⟩
    · have hk2 : k < nG N := by
        have : k < nG N + 1 := hk
        omega
      rw [un_n e, un_n e, un_n e, show upd (nT N) (nG N) (-1) k = nT N k from if_neg e]
      exact h.2.2.2.2.1 k hk2
theorem WF_addI {N : NT} (h : WF N) (hg : nG N < 120) (hi : nIn N < 30) : WF (addI N) := by
  refine ⟨hg, hi, h.o, ?_, ?_, fun p hp => Nat.lt_succ_of_lt (h.u hp)⟩
  · show inC (addI N) (nG N) + (if un (nK N) (nG N) 4 (nG N) = 4 then 1 else 0) = nIn N + 1
    rw [inC_un (N := N) (n := nG N) (kd := 4) rfl _ (Nat.le_refl _), un_s, if_pos rfl, h.c]
  · intro k hk
    show un (nK N) (nG N) 4 k ≤ 4 ∧ (un (nK N) (nG N) 4 k ≠ 4 → un (nF N) (nG N) 0 k < k ∧ un (nS N) (nG N) 0 k < k) ∧ (un (nK N) (nG N) 4 k = 3 → un (nS N) (nG N) 0 k = un (nF N) (nG N) 0 k) ∧ (upd (nT N) (nG N) (-1) k = -1 ∨ upd (nT N) (nG N) (-1) k = 0 ∨ upd (nT N) (nG N) (-1) k = 1)
    by_cases e : k = nG N
    · rw [e, un_s, un_s, un_s, show upd (nT N) (nG N) (-1) (nG N) = -1 from if_pos rfl]
      exact ⟨Nat.le_refl _, fun c => absurd rfl c, fun _ => rfl, Or.inl rfl⟩
    · have hk2 : k < nG N := by
        have : k < nG N + 1 := hk
        omega
      rw [un_n e, un_n e, un_n e, show upd (nT N) (nG N) (-1) k = nT N k from if_neg e]
      exact h.2.2.2.2.1 k hk2
theorem WF_addO {N : NT} (h : WF N) {k : Nat} (ho : nO N < 16) (hk : k < nG N) : WF (addO N k) := by
  refine ⟨h.g, h.i, ho, (inC_same (N := N) (N2 := addO N k) rfl _).trans h.c, h.2.2.2.2.1, fun p hp => ?_⟩
  show un (nU N) (nO N) k p < nG N
  by_cases e : p = nO N
  · rw [e, un_s]; exact hk
  · rw [un_n e]
    have : p < nO N + 1 := hp
    exact h.u (by omega)
theorem WF_clr {N : NT} : WF (clrN N) := ⟨Nat.zero_le _, Nat.zero_le _, Nat.zero_le _, rfl, fun k hk => absurd hk (Nat.not_lt_zero _), fun p hp => absurd hp (Nat.not_lt_zero _)⟩
theorem WF_stk {N : NT} (h : WF N) {k : Nat} {b : Int32} (hb : b = -1 ∨ b = 0 ∨ b = 1) : WF (stkN N k b) := by
  refine ⟨h.g, h.i, h.o, (inC_same (N := N) (N2 := stkN N k b) rfl _).trans h.c, fun j hj => ?_, fun p hp => h.u hp⟩
  obtain ⟨a1, a2, a3, a4⟩ := h.2.2.2.2.1 j hj
  refine ⟨a1, a2, a3, ?_⟩
  show upd (nT N) k b j = -1 ∨ upd (nT N) k b j = 0 ∨ upd (nT N) k b j = 1
  unfold upd
  by_cases e : j = k
  · rw [if_pos e]; exact hb
  · rw [if_neg e]; exact a4
theorem inN_i (N : NT) (n : Nat) : nIn (inN N n) = nIn N + n := by
  induction n with
  | zero => rfl
  | succ n ih => show nIn (inN N n) + 1 = _; rw [ih]; omega
theorem WF_inN {N : NT} (h : WF N) : ∀ n, nG N + n ≤ 120 → nIn N + n ≤ 30 → WF (inN N n) := by
  intro n
  induction n with
  | zero => intro _ _; exact h
  | succ n ih =>
    intro h1 h2
    exact WF_addI (ih (by omega) (by omega)) (by rw [inN_g]; omega) (by rw [inN_i]; omega)
theorem WF_hf {N : NT} (h : WF N) {p q : Nat} (hp : p < nG N) (hq : q < nG N) (hg : nG N + 2 ≤ 120) : WF (hfN N p q) := by
  have h1 : WF (addG N 2 p q) := WF_addG h (by omega) (by omega) hp hq (fun c => by omega)
  have e1 : nG (addG N 2 p q) = nG N + 1 := rfl
  exact WF_addG h1 (by omega) (by omega) (by omega) (by omega) (fun c => by omega)
theorem WF_fu {N : NT} (h : WF N) {p q r : Nat} (hp : p < nG N) (hq : q < nG N) (hr : r < nG N) (hg : nG N + 5 ≤ 120) : WF (fuN N p q r) := by
  have h1 : WF (addG N 2 p q) := WF_addG h (by omega) (by omega) hp hq (fun c => by omega)
  have e1 : nG (addG N 2 p q) = nG N + 1 := rfl
  have h2 : WF (addG (addG N 2 p q) 2 (nG N) r) := WF_addG h1 (by omega) (by omega) (by omega) (by omega) (fun c => by omega)
  have e2 : nG (addG (addG N 2 p q) 2 (nG N) r) = nG N + 2 := rfl
  have h3 : WF (addG (addG (addG N 2 p q) 2 (nG N) r) 0 p q) := WF_addG h2 (by omega) (by omega) (by omega) (by omega) (fun c => by omega)
  have e3 : nG (addG (addG (addG N 2 p q) 2 (nG N) r) 0 p q) = nG N + 3 := rfl
  have h4 : WF (addG (addG (addG (addG N 2 p q) 2 (nG N) r) 0 p q) 0 (nG N) r) := WF_addG h3 (by omega) (by omega) (by omega) (by omega) (fun c => by omega)
  have e4 : nG (addG (addG (addG (addG N 2 p q) 2 (nG N) r) 0 p q) 0 (nG N) r) = nG N + 4 := rfl
  exact WF_addG h4 (by omega) (by omega) (by omega) (by omega) (fun c => by omega)
/-- the ripple: well-formed at each step, its carry a gate -/
theorem WF_rp {M : NT} (h : WF M) {w : Nat} (hw : 1 ≤ w ∧ w ≤ 6) (hM : nG M = 2 * w) (hO : nO M = 0) : ∀ k, k < w → WF (rpT M w k).1 ∧ (rpT M w k).2 < nG (rpT M w k).1 := by
  intro k
  induction k with
  | zero =>
    intro _
    have h1 := WF_hf h (p := 0) (q := w) (by omega) (by omega) (by omega)
    have e1 : nG (hfN M 0 w) = nG M + 2 := rfl
    have o1 : nO (hfN M 0 w) = nO M := rfl
    exact ⟨WF_addO h1 (by omega) (by omega), show nG M + 1 < nG M + 2 by omega⟩
  | succ k ih =>
    intro hk
    obtain ⟨i1, i2⟩ := ih (by omega)
    have hg := rpT_g M w k
    have h1 := WF_fu i1 (p := k + 1) (q := w + (k + 1)) (r := (rpT M w k).2) (by omega) (by omega) i2 (by omega)
    have e1 : nG (fuN (rpT M w k).1 (k + 1) (w + (k + 1)) (rpT M w k).2) = nG (rpT M w k).1 + 5 := rfl
    have o1 : nO (fuN (rpT M w k).1 (k + 1) (w + (k + 1)) (rpT M w k).2) = nO (rpT M w k).1 := rfl
    exact ⟨WF_addO h1 (by omega) (by omega), show nG (rpT M w k).1 + 4 < nG (rpT M w k).1 + 5 by omega⟩
theorem WF_rip {N : NT} (h : WF N) {w : Nat} (hw : 1 ≤ w ∧ w ≤ 6) (hg : nG N = 0) (hi : nIn N = 0) (ho : nO N = 0) : WF (ripN N w) := by
  have hM := WF_inN h (2 * w) (by omega) (by omega)
  have g := inN_g N (2 * w)
  have o := inN_o N (2 * w)
  have hr := WF_rp hM hw (by omega) (by omega) (w - 1) (by omega)
  have hq := rpT_g (inN N (2 * w)) w (w - 1)
  exact WF_addO hr.1 (by omega) hr.2
