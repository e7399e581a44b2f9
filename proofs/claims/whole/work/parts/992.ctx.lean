/-! what the law's loop stands on -/
section CTX
variable {p : Program} {l : Launch} {e : Env} {R : Room} {s : State} {m : MethodId} {args : Array Value} {below : List Frame} {meth : Method} {c : Code} {H : Heap} {locs : List Loc} {cells slots mc ms : Nat} {g : JFrame} {rest : List Value} {Qa : State → Outcome → State → Prop} {free : Addr → Prop}
/-- a call that throws nothing -/
theorem vx_run0 (h : vx_Run p l e R s m args below meth c H locs cells slots mc ms g rest Qa (fun _ _ _ => False) free) : va_Run p l e R s m args below meth c H locs cells slots mc ms g rest Qa free := fun T hT X => by
  rcases h T hT X with h | ⟨_, _, _, _, _, _, _, _, _, _, _, _, hx, _⟩
  · exact h
  · exact hx.elim
end CTX
theorem rm_ok {x y : Nat} (h1 : x ≤ 601024) (h2 : y ≤ 7293034) : x ≤ room_1.cells ∧ y ≤ room_1.slots := ⟨h1, h2⟩
theorem rng_ge {a : Nat → Nat} {k0 i n : Nat} (hA : ∀ k, k0 ≤ a k) : ∀ q, rng a i n q → k0 ≤ q := fun q h => by
  obtain ⟨k, _, _, e⟩ := h
  rw [e]; exact hA k
theorem mw_no {a : Nat → Nat} (ha : Inj a) : ∀ k, 93 ≤ k → k < 115 → ¬ orA (rng a 0 93) (rng a 115 1) (a k) := fun k h1 h2 c => c.elim (rng_no ha (by omega)) (rng_no ha (by omega))
theorem z_unB {st : ST} {p9 v9 : Int32} (hO : OKS st) (h : cUn st.1 p9 v9 = 0) : 2 ^ nIn (st.1 (ix p9)) < 2 ^ 31 := by
  obtain ⟨b, -⟩ := if0 (k := 1) h (by decide)
  have h1 := (hO.1 _ (ix_lt b (by omega))).2.1
  exact Nat.pow_lt_pow_right (by decide) (by omega)
/-- what is the same all along the law -/
def LC (p : Program) (s : State) (m : MethodId) (meth : Method) (c : Code) (b L : Nat) (xs : Nat → Int32) (G : GG) (a : Nat → Nat) (t9 : Nat) : Prop :=
  lw_At p s m meth c b L xs ∧ Inj a ∧ KK G s ∧ NW s ∧ LOW a t9 s s.heap ∧ TX a s s.heap ∧ NCX s ∧ (∀ k, s.heap.size ≤ a k)
