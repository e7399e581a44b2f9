/-! words of 64 numbers -/
def evL (x : Int32) : Int64 := if x = 0 then 0 else -1
def jnW (kd : Nat) (x y : Int64) : Int64 := if kd = 0 then x &&& y else if kd = 1 then x ||| y else if kd = 2 then x ^^^ y else x ^^^ (-1)
def inW (p b : Nat) (q : Prop) [Decidable q] : Int64 := if q ∧ p < 6 then lowF p else evL ((nI b >>> (nI p &&& 31)) &&& nI 1)
def fwR (N : NT) (iw : Nat → Int64) (f : Nat → Int64) (k : Nat) : Int64 := if nK N k = 4 then iw (inC N k) else jnW (nK N k) (f (nF N k)) (f (nS N k))
def fw (N : NT) (iw : Nat → Int64) : Nat → Int64 := tb 0 (fun k f => if nT N k = -1 then fwR N iw f k else evL (nT N k))
theorem fw_st {N : NT} {iw : Nat → Int64} {k : Nat} (h : ¬ nT N k = -1) : fw N iw k = evL (nT N k) := by
  unfold fw
  rw [tb_eq, if_neg h]
theorem fwR_cong {N : NT} (hN : WF N) {iw : Nat → Int64} {f g : Nat → Int64} {k : Nat} (hk : k < nG N) (h : ∀ r, r < k → f r = g r) : fwR N iw f k = fwR N iw g k := by
  unfold fwR
  by_cases h4 : nK N k = 4
  · rw [if_pos h4, if_pos h4]
  · have hfs := hN.fs hk h4
    rw [if_neg h4, if_neg h4, h _ hfs.1, h _ hfs.2]
theorem fw_ns {N : NT} (hN : WF N) {iw : Nat → Int64} {k : Nat} (hk : k < nG N) (h : nT N k = -1) : fw N iw k = fwR N iw (fw N iw) k := by
  show tb _ _ k = _
  rw [tb_rec (k := k), if_pos h]
  · rfl
  · intro f g hfg
    by_cases h1 : nT N k = -1
    · rw [if_pos h1, if_pos h1]; exact fwR_cong hN hk hfg
    · rw [if_neg h1, if_neg h1]
theorem inC_in {N : NT} {k : Nat} (h : nK N k = 4) : inC N (k + 1) = inC N k + 1 := by
  show inC N k + _ = _
  rw [if_pos h]
theorem inC_ni {N : NT} {k : Nat} (h : ¬ nK N k = 4) : inC N (k + 1) = inC N k := by
  show inC N k + _ = _
  rw [if_neg h]; rfl
theorem inC_lt {N : NT} (hN : WF N) {k : Nat} (hk : k ≤ nG N) : inC N k ≤ 30 := by
  have h1 := inC_le N hk
  have h2 := hN.c
  have h3 := hN.i
  omega
theorem inC_lt1 {N : NT} (hN : WF N) {k : Nat} (hk : k < nG N) (h4 : nK N k = 4) : inC N k < 30 := by
  have h1 := inC_lt hN (k := k + 1) (by omega)
  rw [inC_in h4] at h1
  omega
/-- the value in a lane -/
def vlW (o : Nat → Int64) (n : Int32) : Nat → Int32
  | 0 => 0
  | p + 1 => vlW o n p + (((lushr_ (o p) n &&& 1).toInt32) <<< (nI p &&& 31))
/-- how two rows of words differ -/
def unW (o1 o2 : Nat → Int64) : Nat → Int64
  | 0 => 0
  | p + 1 => unW o1 o2 p ||| (o1 p ^^^ o2 p)
theorem jnW_3 {kd : Nat} {x y : Int64} (h : 3 ≤ kd) : jnW kd x y = x ^^^ (-1) := by
  unfold jnW
  rw [if_neg (by omega), if_neg (by omega), if_neg (by omega)]
/-- the first place of a bit that is set, below a bound -/
def fuT (x : Int64) : Nat → Option Nat
  | 0 => none
  | n + 1 => match fuT x n with
    | some z => some z
    | none => if (lushr_ x (nI n) &&& 1) = 0 then none else some n
def fuW (x : Int64) (n : Nat) : Option Nat := fuT x n
theorem fuT_none {x : Int64} : ∀ {n : Nat}, (∀ z, z < n → (lushr_ x (nI z) &&& 1) = 0) → fuT x n = none := by
  intro n
  induction n with
  | zero => intro _; rfl
  | succ n ih =>
    intro h
    show (match fuT x n with | some z => some z | none => if (lushr_ x (nI n) &&& 1) = 0 then none else some n) = none
    rw [ih (fun z hz => h z (by omega))]
    exact if_pos (h n (by omega))
theorem fuW_none {x : Int64} {n : Nat} (h : ∀ z, z < n → (lushr_ x (nI z) &&& 1) = 0) : fuW x n = none := fuT_none h
theorem fuW_some {x : Int64} {n r : Nat} (hr : r < n) (h1 : ¬ (lushr_ x (nI r) &&& 1) = 0) (h : ∀ z, z < r → (lushr_ x (nI z) &&& 1) = 0) : fuW x n = some r := by
  unfold fuW
  induction n with
  | zero => exact absurd hr (Nat.not_lt_zero _)
  | succ n ih =>
    show (match fuT x n with | some z => some z | none => if (lushr_ x (nI n) &&& 1) = 0 then none else some n) = some r
    by_cases e : r = n
    · subst e
      rw [fuT_none h]
      exact if_neg h1
    · rw [ih (by omega)]
theorem lg_eq {x y : Int64} : lg_cmp x y = 0 ↔ x = y := by
  unfold lg_cmp
  by_cases h : x > y
  · rw [if_pos h]
    constructor
    · intro c; exact absurd c (by decide)
    · intro c; subst c; exact absurd h Int64.lt_irrefl
  · rw [if_neg h]
    by_cases e : x = y
    · simp [e]
    · rw [if_neg e]
      constructor
      · intro c; exact absurd c (by decide)
      · intro c; exact absurd c e
