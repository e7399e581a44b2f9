/-! the nets stay well-formed through every call -/
theorem cIn_0 {Ns : Nat → NT} {p : Int32} (h : cIn Ns p = 0) : inBd p 4 ∧ nG (Ns (ix p)) < 120 ∧ nIn (Ns (ix p)) < 30 := by
  unfold cIn at h
  by_cases c1 : inBd p 4
  · rw [if_pos c1] at h
    by_cases c2 : nG (Ns (ix p)) < 120 ∧ nIn (Ns (ix p)) < 30
    · exact ⟨c1, c2⟩
    · rw [if_neg c2] at h; exact absurd h (by decide)
  · rw [if_neg c1] at h; exact absurd h (by decide)
theorem if0 {q : Prop} [Decidable q] {x k : Nat} (h : (if q then x else k) = 0) (hk : k ≠ 0) : q ∧ x = 0 := by
  by_cases c : q
  · rw [if_pos c] at h; exact ⟨c, h⟩
  · rw [if_neg c] at h; exact absurd h hk
theorem OK_nets {st : ST} {C z : Nat} {N : NT} (h : OKS st) (hN : C = 0 → WF N) : OKS (stN C (upN st.1 z N) st.1, st.2) := by
  refine ⟨fun y hy => ?_, h.2⟩
  show WF (stN C (upN st.1 z N) st.1 y)
  unfold stN
  by_cases c : C = 0
  · rw [if_pos c]
    unfold upN
    by_cases d : y = z
    · rw [if_pos d]; exact hN c
    · rw [if_neg d]; exact h.1 y hy
  · rw [if_neg c]; exact h.1 y hy
theorem ok_input {st : ST} {p9 : Int32} (h : OKS st) : OKS (stN (cIn st.1 p9) (upN st.1 (ix p9) (addI (st.1 (ix p9)))) st.1, st.2) :=
  OK_nets h fun c => by
    obtain ⟨b, b1⟩ := if0 (k := 1) c (by decide)
    obtain ⟨b2, -⟩ := if0 (k := 3) (x := 0) b1 (by decide)
    exact WF_addI (h.1 _ (ix_lt b (by omega))) b2.1 b2.2
theorem ok_gate {st : ST} {p9 kd9 f9 s9 : Int32} (h : OKS st) : OKS (stN (cGa st.1 p9 kd9 f9 s9) (upN st.1 (ix p9) (addG (st.1 (ix p9)) (ix kd9) (ix f9) (if ix kd9 = 3 then ix f9 else ix s9))) st.1, st.2) :=
  OK_nets h fun c => by
    obtain ⟨b, b1⟩ := if0 (k := 1) c (by decide)
    obtain ⟨b2, b3⟩ := if0 (k := 1) b1 (by decide)
    obtain ⟨b4, b5⟩ := if0 (k := 1) b3 (by decide)
    obtain ⟨b6, b7⟩ := if0 (k := 1) b5 (by decide)
    obtain ⟨b8, -⟩ := if0 (k := 3) (x := 0) b7 (by decide)
    have hW := h.1 _ (ix_lt b (by omega))
    have hg := hW.g
    have hf := ix_lt b4 (by omega)
    refine WF_addG hW b8 (ix_lt b2 (by omega)) hf ?_ (fun q => if_pos q)
    by_cases d : ix kd9 = 3
    · rw [if_pos d]; exact hf
    · rw [if_neg d]
      rcases b6 with q | q
      · exfalso; apply d; rw [q]; exact ix_nI (by omega)
      · exact ix_lt q (by omega)
theorem ok_out {st : ST} {p9 g9 : Int32} (h : OKS st) : OKS (stN (cOu st.1 p9 g9) (upN st.1 (ix p9) (addO (st.1 (ix p9)) (ix g9))) st.1, st.2) :=
  OK_nets h fun c => by
    obtain ⟨b, b1⟩ := if0 (k := 1) c (by decide)
    obtain ⟨b2, b3⟩ := if0 (k := 1) b1 (by decide)
    obtain ⟨b4, -⟩ := if0 (k := 3) (x := 0) b3 (by decide)
    have hW := h.1 _ (ix_lt b (by omega))
    have hg := hW.g
    exact WF_addO hW b4 (ix_lt b2 (by omega))
theorem ok_clear {st : ST} {p9 : Int32} (h : OKS st) : OKS (stN (cCl p9) (upN st.1 (ix p9) (clrN (st.1 (ix p9)))) st.1, st.2) :=
  OK_nets h fun c => WF_clr
theorem ok_stick {st : ST} {p9 g9 b9 : Int32} (h : OKS st) : OKS (stN (cSt st.1 p9 g9 b9) (upN st.1 (ix p9) (stkN (st.1 (ix p9)) (ix g9) b9)) st.1, st.2) :=
  OK_nets h fun c => by
    obtain ⟨b, b1⟩ := if0 (k := 1) c (by decide)
    obtain ⟨b2, b3⟩ := if0 (k := 1) b1 (by decide)
    obtain ⟨b4, -⟩ := if0 (k := 2) (x := 0) b3 (by decide)
    refine WF_stk (h.1 _ (ix_lt b (by omega))) ?_
    have l1 : ¬ b9.toInt < -1 := fun q => b4.1 (Int32.lt_iff_toInt_lt.mpr q)
    have l2 := Int32.le_iff_toInt_le.mp b4.2
    rw [nI_toInt (by omega)] at l2
    have l3 : b9.toInt = -1 ∨ b9.toInt = 0 ∨ b9.toInt = 1 := by omega
    rcases l3 with q | q | q
    · exact Or.inl (Int32.toInt_inj.mp q)
    · exact Or.inr (Or.inl (Int32.toInt_inj.mp q))
    · exact Or.inr (Or.inr (Int32.toInt_inj.mp q))
theorem ok_cost {st : ST} {kd9 d9 x9 : Int32} (h : OKS st) : OKS (st.1, stN (cCo kd9 d9 x9) (un st.2.1 (ix kd9) (ix d9)) st.2.1, stN (cCo kd9 d9 x9) (un st.2.2 (ix kd9) (ix x9)) st.2.2) := by
  refine ⟨h.1, ?_⟩
  show DL (stN (cCo kd9 d9 x9) (un st.2.1 (ix kd9) (ix d9)) st.2.1)
  unfold stN
  by_cases c : cCo kd9 d9 x9 = 0
  · rw [if_pos c]
    obtain ⟨b, b1⟩ := if0 (k := 1) c (by decide)
    obtain ⟨b2, b3⟩ := if0 (k := 2) b1 (by decide)
    have := rg_ix b2.1 b2.2 (by omega) (by omega)
    exact DL_un h.2 this.2
  · rw [if_neg c]; exact h.2
theorem ok_adder {st : ST} {p9 m9 w9 : Int32} (h : OKS st) : OKS (stN (cAd st.1 p9 m9 w9) (upN st.1 (ix p9) (if ix m9 = 0 then ripN (st.1 (ix p9)) (ix w9) else joiN (ix m9 = 1) (st.1 (ix p9)) (ix w9))) st.1, st.2) :=
  OK_nets h fun c => by
    obtain ⟨b, b1⟩ := if0 (k := 1) c (by decide)
    obtain ⟨b2, b3⟩ := if0 (k := 2) b1 (by decide)
    obtain ⟨b4, b5⟩ := if0 (k := 2) b3 (by decide)
    obtain ⟨b6, -⟩ := if0 (k := 3) (x := 0) b5 (by decide)
    have hW := h.1 _ (ix_lt b (by omega))
    have hw := (rg_ix b4.1 b4.2 (by omega) (by omega)).2
    by_cases d : ix m9 = 0
    · rw [if_pos d]; exact WF_rip hW hw b6 (WF_i0 hW b6) (WF_o0 hW b6)
    · rw [if_neg d]; exact WF_joi hW hw b6 (WF_i0 hW b6) (WF_o0 hW b6)
theorem ok_multiplier {st : ST} {p9 w9 : Int32} (h : OKS st) : OKS (stN (cMu st.1 p9 w9) (upN st.1 (ix p9) (mulN (st.1 (ix p9)) (ix w9))) st.1, st.2) :=
  OK_nets h fun c => by
    obtain ⟨b, b1⟩ := if0 (k := 1) c (by decide)
    obtain ⟨b2, b3⟩ := if0 (k := 2) b1 (by decide)
    obtain ⟨b4, -⟩ := if0 (k := 3) (x := 0) b3 (by decide)
    have hW := h.1 _ (ix_lt b (by omega))
    have hw := (rg_ix b2.1 b2.2 (by omega) (by omega)).2
    exact WF_mul hW hw b4 (WF_i0 hW b4) (WF_o0 hW b4)
/-- both answers are the same number -/
theorem an_eq {x y : Int32} {f : Int64} (h : f = x.toInt64) (e : x = y) : lg_cmp f y.toInt64 = 0 := lg_eq.mpr (by rw [h, e])
