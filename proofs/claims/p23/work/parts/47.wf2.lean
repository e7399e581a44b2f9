/-! the other adders and the multipliers are well-formed -/
theorem WF_he {M : NT} (h : WF M) {w : Nat} (hw : 1 ≤ w ∧ w ≤ 6) (hM : nG M = 2 * w) : ∀ k, k ≤ w → WF (heT M w k) := by
  intro k
  induction k with
  | zero => intro _; exact h
  | succ k ih =>
    intro hk
    have hg := heT_g M w k
    exact WF_hf (ih (by omega)) (by omega) (by omega) (by omega)
theorem WF_js {sp : Prop} [Decidable sp] {d k w : Nat} {P C : Nat → Nat} {s : JS} (h : WF s.1) (hk : k < w) (hd : 1 ≤ d) (hP : ∀ r, r < w → P r < nG s.1 ∧ C r < nG s.1) (hg : nG s.1 + 3 ≤ 120) : WF (jst sp d k P C s).1 := by
  by_cases c : jp sp d k = 0
  · rw [show jst sp d k P C s = s from if_pos c]; exact h
  · rw [jst_y c]
    have hj := jp_le (sp := sp) (d := d) (k := k) hd
    have b1 := hP k hk
    have b2 := hP (jp sp d k - 1) (by omega)
    have h1 : WF (addG s.1 0 (P k) (C (jp sp d k - 1))) := WF_addG h (by omega) (by omega) b1.1 b2.2 (fun c => by omega)
    have e1 : nG (addG s.1 0 (P k) (C (jp sp d k - 1))) = nG s.1 + 1 := rfl
    have h2 : WF (addG (addG s.1 0 (P k) (C (jp sp d k - 1))) 1 (C k) (nG s.1)) := WF_addG h1 (by omega) (by omega) (by omega) (by omega) (fun c => by omega)
    have e2 : nG (addG (addG s.1 0 (P k) (C (jp sp d k - 1))) 1 (C k) (nG s.1)) = nG s.1 + 2 := rfl
    exact WF_addG h2 (by omega) (by omega) (by omega) (by omega) (fun c => by omega)
theorem WF_jo {sp : Prop} [Decidable sp] {d w : Nat} {s : JS} (h : WF s.1) (hb : JB s w) (hd : 1 ≤ d) (hg : nG s.1 + 3 * w ≤ 120) : ∀ k, k ≤ w → WF (joT sp d s k).1 := by
  intro k
  induction k with
  | zero => intro _; exact h
  | succ k ih =>
    intro hk
    have hj := joT_g (sp := sp) (d := d) (s := s) k
    exact WF_js (ih (by omega)) (w := w) (by omega) hd (fun r hr => ⟨Nat.lt_of_lt_of_le (hb r hr).1 hj.1, Nat.lt_of_lt_of_le (hb r hr).2 hj.1⟩) (by omega)
theorem WF_jd {sp : Prop} [Decidable sp] {w : Nat} {s : JS} (h : WF s.1) (hb : JB s w) (hw : w ≤ 6) (hg : nG s.1 ≤ 40) : ∀ n, n ≤ 3 → WF (jdT sp w s n).1 := by
  intro n
  induction n with
  | zero => intro _; exact h
  | succ n ih =>
    intro hn
    have hj := jdT_g (sp := sp) (w := w) (s := s) n
    have hq : 3 * w * n ≤ 3 * w * 2 := Nat.mul_le_mul_left _ (by omega)
    exact WF_jo (ih (by omega)) (jdT_b hb n) Nat.one_le_two_pow (by omega) w (Nat.le_refl _)
theorem WF_oj {M : NT} {X C : Nat → Nat} (h : WF M) {w : Nat} (hX : ∀ r, r < w → X r < nG M ∧ C r < nG M) (hg : nG M + w ≤ 120) (ho : nO M + w ≤ 16) : ∀ q, q < w → WF (ojT M X C q) := by
  intro q
  induction q with
  | zero => intro hq; exact WF_addO h (by omega) (hX 0 hq).1
  | succ q ih =>
    intro hq
    have hj := ojT_g (M := M) (X := X) (C := C) q
    have b1 := hX (q + 1) hq
    have b2 := hX q (by omega)
    have h1 : WF (addG (ojT M X C q) 2 (X (q + 1)) (C q)) := WF_addG (ih (by omega)) (by omega) (by omega) (by omega) (by omega) (fun c => by omega)
    have e1 : nG (addG (ojT M X C q) 2 (X (q + 1)) (C q)) = nG (ojT M X C q) + 1 := rfl
    have e2 : nO (addG (ojT M X C q) 2 (X (q + 1)) (C q)) = nO (ojT M X C q) := rfl
    exact WF_addO h1 (by omega) (by omega)
theorem WF_joi {sp : Prop} [Decidable sp] {N : NT} (h : WF N) {w : Nat} (hw : 1 ≤ w ∧ w ≤ 6) (hg : nG N = 0) (hi : nIn N = 0) (ho : nO N = 0) : WF (joiN sp N w) := by
  have hM := WF_inN h (2 * w) (by omega) (by omega)
  have g := inN_g N (2 * w)
  have o := inN_o N (2 * w)
  have e9 := heT_g (inN N (2 * w)) w w
  have hE := WF_he hM hw (by omega) w (Nat.le_refl _)
  have hB : JB (heT (inN N (2 * w)) w w, (fun k => nG (inN N (2 * w)) + 2 * k), (fun k => nG (inN N (2 * w)) + 2 * k + 1)) w := fun r hr => ⟨show nG (inN N (2 * w)) + 2 * r < nG (heT (inN N (2 * w)) w w) by omega, show nG (inN N (2 * w)) + 2 * r + 1 < nG (heT (inN N (2 * w)) w w) by omega⟩
  have hrd : rdN w ≤ 3 := by
    unfold rdN
    by_cases a : w ≤ 1
    · rw [if_pos a]; omega
    · rw [if_neg a]
      by_cases b : w ≤ 2
      · rw [if_pos b]; omega
      · rw [if_neg b]
        by_cases c : w ≤ 4
        · rw [if_pos c]; omega
        · rw [if_neg c]; exact Nat.le_refl _
  have hJ := WF_jd (sp := sp) hE hB hw.2 (by show nG (heT (inN N (2 * w)) w w) ≤ 40; omega) (rdN w) hrd
  have hJb := jdT_b (sp := sp) hB (rdN w)
  have hJg := jdT_g (sp := sp) (w := w) (s := (heT (inN N (2 * w)) w w, (fun k => nG (inN N (2 * w)) + 2 * k), (fun k => nG (inN N (2 * w)) + 2 * k + 1))) (rdN w)
  have hq : 3 * w * rdN w ≤ 3 * w * 3 := Nat.mul_le_mul_left _ hrd
  obtain ⟨J, hJe⟩ : ∃ J, J = jdT sp w (heT (inN N (2 * w)) w w, (fun k => nG (inN N (2 * w)) + 2 * k), (fun k => nG (inN N (2 * w)) + 2 * k + 1)) (rdN w) := ⟨_, rfl⟩
  rw [← hJe] at hJ hJb hJg
  unfold joiN
  rw [← hJe]
  have k1 : nG (heT (inN N (2 * w)) w w) ≤ nG J.1 := hJg.1
  have k2 : nG J.1 ≤ nG (heT (inN N (2 * w)) w w) + 3 * w * rdN w := hJg.2.1
  have k3 : nO J.1 = nO (heT (inN N (2 * w)) w w) := hJg.2.2
  have hX : ∀ r, r < w → nG (inN N (2 * w)) + 2 * r < nG J.1 ∧ J.2.2 r < nG J.1 := fun r hr => ⟨by omega, (hJb r hr).2⟩
  have hO := WF_oj (X := fun k => nG (inN N (2 * w)) + 2 * k) (C := J.2.2) hJ hX (by omega) (by omega) (w - 1) (by omega)
  have hOg := ojT_g (M := J.1) (X := fun k => nG (inN N (2 * w)) + 2 * k) (C := J.2.2) (w - 1)
  have := (hX (w - 1) (by omega)).2
  exact WF_addO hO (by omega) (by omega)
