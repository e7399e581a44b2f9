/-- a refused call left the object as it was -/
theorem CW_rf {G : GG} {a : Nat → Nat} {st : ST} {C k : Nat} {A : Nat → NT} {H : Heap} (h : CW G a (stN C A st.1, st.2) H) (hC : C = k) (hk : k ≠ 0) : CW G a st H := by
  rw [stN_n hC hk] at h
  exact h
