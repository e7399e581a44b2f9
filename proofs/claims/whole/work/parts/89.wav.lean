/-! the waves' totals are those time by time -/
theorem cCh_0 {p f v w : Int32} (h : cCh p f v w = 0) : inBd p 4 ∧ ((¬ f < nI 0 ∧ f ≤ nI 1073741823) ∧ (¬ v < nI 0 ∧ v ≤ nI 1073741823) ∧ (¬ w < nI 0 ∧ w ≤ nI 2)) := by
  unfold cCh at h
  by_cases c : inBd p 4
  · rw [if_pos c] at h
    by_cases d : (¬ f < nI 0 ∧ f ≤ nI 1073741823) ∧ (¬ v < nI 0 ∧ v ≤ nI 1073741823) ∧ (¬ w < nI 0 ∧ w ≤ nI 2)
    · exact ⟨c, d⟩
    · rw [if_neg d] at h; exact absurd h (by decide)
  · rw [if_neg c] at h; exact absurd h (by decide)
theorem wav_tk {N : NT} {dl : Nat → Nat} (hd : DL dl) (hN : WF N) {n0 n1 : Nat} {b0 b1 g : Nat → Int64} (h0 : ∀ z, z < nG N → b0 z = lv64 (bt N n0 z)) (h1 : ∀ z, z < nG N → b1 z = lv64 (bt N n1 z)) (hg : ∀ z, z < nG N → SEG N dl b0 b1 (min 17 (mxT N dl (nG N) / 64 + 1)) g z) (k : Nat) :
    chW N g b0 (min 17 (mxT N dl (nG N) / 64 + 1)) k = tkV N dl n0 n1 (mxT N dl (nG N) + 1) k := by
  sorry
