theorem WF_pr {M : NT} (h : WF M) {w : Nat} (hw : 1 ≤ w ∧ w ≤ 4) (hM : nG M = 2 * w) : ∀ n, n ≤ w * w → WF (prT M w n) := by
  have h16 : w * w ≤ 4 * 4 := Nat.mul_le_mul hw.2 hw.2
  intro n
  induction n with
  | zero => intro _; exact h
  | succ n ih =>
    intro hn
    have hg := prT_g M w n
    have h1 : n % w < w := Nat.mod_lt _ (by omega)
    have h2 : n / w < w := Nat.div_lt_of_lt_mul (by omega)
    exact WF_addG (ih (by omega)) (by omega) (by omega) (by omega) (by omega) (fun c => by omega)
/-- a row added to the line: all of its numbers are gates -/
theorem WF_al {pm : Nat → Nat} {ln w : Nat} {s : LnS} (h : WF s.1) (hln : 1 ≤ ln) (hpm : ∀ k, k < w → pm k < nG s.1) (hl : ∀ r, r < ln → s.2.1 r < nG s.1) (hg : nG s.1 + 5 * w ≤ 120) : ∀ k, k ≤ w → WF (alT pm ln s k).1 ∧ nG s.1 ≤ nG (alT pm ln s k).1 ∧ (∀ r, r < ln ∨ r < k → (alT pm ln s k).2.1 r < nG (alT pm ln s k).1) ∧ (k ≠ 0 → (alT pm ln s k).2.2 < nG (alT pm ln s k).1) := by
  intro k
  induction k with
  | zero => intro _; exact ⟨h, Nat.le_refl _, fun r hr => hl r (hr.resolve_right (Nat.not_lt_zero r)), fun c => absurd rfl c⟩
  | succ k ih =>
    intro hk
    obtain ⟨i1, i2, i3, i4⟩ := ih (by omega)
    have hA := (alT_g (pm := pm) (ln := ln) (s := s) k).1
    have hp := hpm k (by omega)
    by_cases h0 : k = 0
    · rw [al_0 h0]
      have hlk := i3 k (Or.inl (by omega))
      have e : nG (hfN (alT pm ln s k).1 ((alT pm ln s k).2.1 k) (pm k)) = nG (alT pm ln s k).1 + 2 := rfl
      refine ⟨WF_hf i1 hlk (by omega) (by omega), by show nG s.1 ≤ _; rw [e]; omega, fun r hr => ?_, fun _ => by show nG (alT pm ln s k).1 + 1 < _; rw [e]; omega⟩
      show un (alT pm ln s k).2.1 k (nG (alT pm ln s k).1) r < _
      rw [e]
      by_cases c : r = k
      · rw [c, un_s]; omega
      · rw [un_n c]; have := i3 r (by omega); omega
    · by_cases h1 : k < ln
      · rw [al_1 h0 h1]
        have hlk := i3 k (Or.inl h1)
        have hc := i4 h0
        have e : nG (fuN (alT pm ln s k).1 ((alT pm ln s k).2.1 k) (pm k) (alT pm ln s k).2.2) = nG (alT pm ln s k).1 + 5 := rfl
        refine ⟨WF_fu i1 hlk (by omega) hc (by omega), by show nG s.1 ≤ _; rw [e]; omega, fun r hr => ?_, fun _ => by show nG (alT pm ln s k).1 + 4 < _; rw [e]; omega⟩
        show un (alT pm ln s k).2.1 k (nG (alT pm ln s k).1 + 1) r < _
        rw [e]
        by_cases c : r = k
        · rw [c, un_s]; omega
        · rw [un_n c]; have := i3 r (by omega); omega
      · rw [al_2 h0 h1]
        have hc := i4 h0
        have e : nG (hfN (alT pm ln s k).1 (pm k) (alT pm ln s k).2.2) = nG (alT pm ln s k).1 + 2 := rfl
        refine ⟨WF_hf i1 (by omega) hc (by omega), by show nG s.1 ≤ _; rw [e]; omega, fun r hr => ?_, fun _ => by show nG (alT pm ln s k).1 + 1 < _; rw [e]; omega⟩
        show un (alT pm ln s k).2.1 k (nG (alT pm ln s k).1) r < _
        rw [e]
        by_cases c : r = k
        · rw [c, un_s]; omega
        · rw [un_n c]; have := i3 r (by omega); omega
theorem WF_mu {w b : Nat} {P : NT} (h : WF P) (hw : 1 ≤ w ∧ w ≤ 4) (hP : nG P = b + w * w) (hb : b = 2 * w) (hO : nO P = 0) : ∀ i, i < w → WF (muT w b P i).1 ∧ nG P ≤ nG (muT w b P i).1 ∧ (∀ r, r < (muT w b P i).2.2 → (muT w b P i).2.1 r < nG (muT w b P i).1) := by
  have h16 : w * w ≤ 4 * 4 := Nat.mul_le_mul hw.2 hw.2
  have h1w : w ≤ w * w := Nat.le_mul_self w
  intro i
  induction i with
  | zero => intro _; exact ⟨h, Nat.le_refl _, fun r hr => show b + r < nG P by have : r < w := hr; omega⟩
  | succ i ih =>
    intro hi
    obtain ⟨i1, i2, i3⟩ := ih (by omega)
    have hm := muT_g (w := w) (b := b) (M := P) i
    have hq : 5 * w * i ≤ 5 * w * 2 := Nat.mul_le_mul_left _ (by omega)
    have hiw : (i + 1) * w + w ≤ w * w := by rw [← Nat.succ_mul]; exact Nat.mul_le_mul_right _ (by omega)
    have h0 := i3 0 (by omega)
    have hS : WF (addO (muT w b P i).1 ((muT w b P i).2.1 0)) := WF_addO i1 (by omega) h0
    have eS : nG (addO (muT w b P i).1 ((muT w b P i).2.1 0)) = nG (muT w b P i).1 := rfl
    have hA := WF_al (pm := fun k => b + (i + 1) * w + k) (ln := (muT w b P i).2.2 - 1) (w := w) (s := (addO (muT w b P i).1 ((muT w b P i).2.1 0), (fun r => (muT w b P i).2.1 (r + 1)), 0)) hS (by omega)
      (fun k hk => show b + (i + 1) * w + k < nG (muT w b P i).1 by omega) (fun r hr => i3 (r + 1) (by omega)) (show nG (muT w b P i).1 + 5 * w ≤ 120 by omega) w (Nat.le_refl _)
    obtain ⟨a1, a2, a3, a4⟩ := hA
    refine ⟨a1, Nat.le_trans i2 a2, fun r hr => ?_⟩
    have hr2 : r < w + 1 := hr
    show un _ w _ r < _
    by_cases c : r = w
    · rw [c, un_s]; exact a4 (by omega)
    · rw [un_n c]; exact a3 r (Or.inr (by omega))
theorem WF_oa {M : NT} {Lf : Nat → Nat} (h : WF M) {n : Nat} (hl : ∀ r, r < n → Lf r < nG M) (ho : nO M + n ≤ 16) : ∀ q, q ≤ n → WF (oaT M Lf q) ∧ nG (oaT M Lf q) = nG M := by
  intro q
  induction q with
  | zero => intro _; exact ⟨h, rfl⟩
  | succ q ih =>
    intro hq
    obtain ⟨i1, i2⟩ := ih (by omega)
    have hO := oaT_g (M := M) (Lf := Lf) q
    exact ⟨WF_addO i1 (by omega) (by rw [i2]; exact hl q (by omega)), i2⟩
theorem WF_mul {N : NT} (h : WF N) {w : Nat} (hw : 1 ≤ w ∧ w ≤ 4) (hg : nG N = 0) (hi : nIn N = 0) (ho : nO N = 0) : WF (mulN N w) := by
  have h16 : w * w ≤ 4 * 4 := Nat.mul_le_mul hw.2 hw.2
  have hM := WF_inN h (2 * w) (by omega) (by omega)
  have g := inN_g N (2 * w)
  have o := inN_o N (2 * w)
  have hP := WF_pr hM hw (by omega) (w * w) (Nat.le_refl _)
  have gP := prT_g (inN N (2 * w)) w (w * w)
  have hU := WF_mu (b := nG (inN N (2 * w))) hP hw (by omega) (by omega) (by omega) (w - 1) (by omega)
  have hm := muT_g (w := w) (b := nG (inN N (2 * w))) (M := prT (inN N (2 * w)) w (w * w)) (w - 1)
  exact (WF_oa hU.1 hU.2.2 (by omega) _ (Nat.le_refl _)).1
theorem DL_un {dl : Nat → Nat} (h : DL dl) {k d : Nat} (hd : 1 ≤ d ∧ d ≤ 9) : DL (un dl k d) := by
  intro z hz
  by_cases c : z = k
  · rw [c, un_s]; exact hd
  · rw [un_n c]; exact h z hz
theorem WF_i0 {N : NT} (h : WF N) (h0 : nG N = 0) : nIn N = 0 := by
  have c := h.c
  rw [h0] at c
  exact c.symm
