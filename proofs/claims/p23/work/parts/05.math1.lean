/-! a net as numbers: how many gates, inputs, outs; kind, first, second source and stuck bit of each gate; the outs -/
abbrev NT : Type := (Nat × Nat × Nat) × (Nat → Nat) × (Nat → Nat) × (Nat → Nat) × (Nat → Int32) × (Nat → Nat)
abbrev nG (N : NT) : Nat := N.1.1
abbrev nIn (N : NT) : Nat := N.1.2.1
abbrev nO (N : NT) : Nat := N.1.2.2
abbrev nK (N : NT) : Nat → Nat := N.2.1
abbrev nF (N : NT) : Nat → Nat := N.2.2.1
abbrev nS (N : NT) : Nat → Nat := N.2.2.2.1
abbrev nT (N : NT) : Nat → Int32 := N.2.2.2.2.1
abbrev nU (N : NT) : Nat → Nat := N.2.2.2.2.2
/-- how many of the first k gates are inputs -/
def inC (N : NT) : Nat → Nat
  | 0 => 0
  | k + 1 => inC N k + (if nK N k = 4 then 1 else 0)
def WF (N : NT) : Prop := nG N ≤ 120 ∧ nIn N ≤ 30 ∧ nO N ≤ 16 ∧ inC N (nG N) = nIn N ∧ (∀ k, k < nG N → nK N k ≤ 4 ∧ (nK N k ≠ 4 → nF N k < k ∧ nS N k < k) ∧ (nK N k = 3 → nS N k = nF N k) ∧ (nT N k = -1 ∨ nT N k = 0 ∨ nT N k = 1)) ∧ (∀ p, p < nO N → nU N p < nG N)
theorem WF.g {N : NT} (h : WF N) : nG N ≤ 120 := h.1
theorem WF.i {N : NT} (h : WF N) : nIn N ≤ 30 := h.2.1
theorem WF.o {N : NT} (h : WF N) : nO N ≤ 16 := h.2.2.1
theorem WF.c {N : NT} (h : WF N) : inC N (nG N) = nIn N := h.2.2.2.1
theorem WF.k {N : NT} (h : WF N) {k : Nat} (hk : k < nG N) : nK N k ≤ 4 := (h.2.2.2.2.1 k hk).1
theorem WF.fs {N : NT} (h : WF N) {k : Nat} (hk : k < nG N) (h4 : nK N k ≠ 4) : nF N k < k ∧ nS N k < k := (h.2.2.2.2.1 k hk).2.1 h4
theorem WF.n {N : NT} (h : WF N) {k : Nat} (hk : k < nG N) (h3 : nK N k = 3) : nS N k = nF N k := (h.2.2.2.2.1 k hk).2.2.1 h3
theorem WF.t {N : NT} (h : WF N) {k : Nat} (hk : k < nG N) : nT N k = -1 ∨ nT N k = 0 ∨ nT N k = 1 := (h.2.2.2.2.1 k hk).2.2.2
theorem WF.u {N : NT} (h : WF N) {p : Nat} (hp : p < nO N) : nU N p < nG N := h.2.2.2.2.2 p hp
theorem inC_le (N : NT) {j k : Nat} (h : j ≤ k) : inC N j ≤ inC N k := by
  induction k with
  | zero => rw [Nat.le_zero.mp h]; exact Nat.le_refl _
  | succ k ih =>
    rcases Nat.lt_or_ge j (k + 1) with q | q
    · exact Nat.le_trans (ih (by omega)) (Nat.le_add_right _ _)
    · rw [Nat.le_antisymm h q]; exact Nat.le_refl _
def un (f : Nat → Nat) (k x : Nat) : Nat → Nat := fun j => if j = k then x else f j
theorem un_s {f : Nat → Nat} {k x : Nat} : un f k x k = x := if_pos rfl
theorem un_n {f : Nat → Nat} {k x j : Nat} (h : j ≠ k) : un f k x j = f j := if_neg h
theorem upd_un (f : Nat → Nat) (k x : Nat) : upd (fun j => nI (f j)) k (nI x) = fun j => nI (un f k x j) := by
  funext j
  unfold upd un
  by_cases h : j = k <;> simp [h]
/-- a gate more; an out more; an input told; nothing left; a gate stuck -/
def addG (N : NT) (kd f s : Nat) : NT := ((nG N + 1, nIn N, nO N), un (nK N) (nG N) kd, un (nF N) (nG N) f, un (nS N) (nG N) s, upd (nT N) (nG N) (-1), nU N)
def addI (N : NT) : NT := ((nG N + 1, nIn N + 1, nO N), un (nK N) (nG N) 4, un (nF N) (nG N) 0, un (nS N) (nG N) 0, upd (nT N) (nG N) (-1), nU N)
def addO (N : NT) (k : Nat) : NT := ((nG N, nIn N, nO N + 1), nK N, nF N, nS N, nT N, un (nU N) (nO N) k)
def clrN (N : NT) : NT := ((0, 0, 0), nK N, nF N, nS N, nT N, nU N)
def stkN (N : NT) (k : Nat) (b : Int32) : NT := ((nG N, nIn N, nO N), nK N, nF N, nS N, upd (nT N) k b, nU N)
abbrev netO (a : Nat → Nat) (j g i o : Nat) : va_W := [(a j, .inr (3, [.ref (a (j + 1)), .ref (a (j + 3)), .ref (a (j + 5)), .ref (a (j + 7)), .ref (a (j + 9)), .int (nI g), .int (nI i), .int (nI o)]))]
abbrev netW (G : GG) (a : Nat → Nat) (j : Nat) (N : NT) : va_W := netO a j (nG N) (nIn N) (nO N) ++ (rowW G a (j + 1) 120 (fun k => nI (nK N k)) ++ (rowW G a (j + 3) 120 (fun k => nI (nF N k)) ++ (rowW G a (j + 5) 120 (fun k => nI (nS N k)) ++ (rowW G a (j + 7) 120 (nT N) ++ rowW G a (j + 9) 16 (fun k => nI (nU N k))))))
theorem netW_in {G : GG} {a : Nat → Nat} {j : Nat} {N : NT} : inR a j 11 (netW G a j N) := inR_app (inR_cons (k := j) (by omega) inR_nil) (inR_app (inR_mono (i := j + 1) (n := 2) rowW_in (by omega)) (inR_app (inR_mono (i := j + 3) (n := 2) rowW_in (by omega)) (inR_app (inR_mono (i := j + 5) (n := 2) rowW_in (by omega)) (inR_app (inR_mono (i := j + 7) (n := 2) rowW_in (by omega)) (inR_mono (i := j + 9) (n := 2) rowW_in (by omega))))))
abbrev incI (N : NT) : NT := ((nG N, nIn N + 1, nO N), nK N, nF N, nS N, nT N, nU N)
abbrev netR (G : GG) (a : Nat → Nat) (j : Nat) (N : NT) : va_W := rowW G a (j + 1) 120 (fun k => nI (nK N k)) ++ (rowW G a (j + 3) 120 (fun k => nI (nF N k)) ++ (rowW G a (j + 5) 120 (fun k => nI (nS N k)) ++ (rowW G a (j + 7) 120 (nT N) ++ rowW G a (j + 9) 16 (fun k => nI (nU N k)))))
theorem netR_in {G : GG} {a : Nat → Nat} {j : Nat} {N : NT} : inR a (j + 1) 10 (netR G a j N) := (inR_app (inR_mono (i := j + 1) (n := 2) rowW_in (by omega)) (inR_app (inR_mono (i := j + 3) (n := 2) rowW_in (by omega)) (inR_app (inR_mono (i := j + 5) (n := 2) rowW_in (by omega)) (inR_app (inR_mono (i := j + 7) (n := 2) rowW_in (by omega)) (inR_mono (i := j + 9) (n := 2) rowW_in (by omega))))))
theorem upd_fill {g v : Nat → Int32} {k : Nat} {x : Int32} (h : ∀ j, j < k → g j = v j) (hx : x = v k) : ∀ j, j < k + 1 → upd g k x j = v j := by
  intro j hj
  unfold upd
  by_cases e : j = k
  · rw [if_pos e, hx, e]
  · rw [if_neg e]; exact h j (by omega)
