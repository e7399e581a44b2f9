/-! tables: a value a gate, out of those of lower gates -/
def tab {α : Type} (d : α) (st : Nat → (Nat → α) → α) : Nat → Nat → α
  | 0 => fun _ => d
  | k + 1 => fun j => if j = k then st k (tab d st k) else tab d st k j
def tb {α : Type} (d : α) (st : Nat → (Nat → α) → α) (k : Nat) : α := tab d st (k + 1) k
theorem tab_eq {α : Type} {d : α} {st : Nat → (Nat → α) → α} {n j : Nat} (h : j < n) : tab d st n j = tb d st j := by
  induction n with
  | zero => exact absurd h (Nat.not_lt_zero _)
  | succ n ih =>
    by_cases e : j = n
    · rw [e]; rfl
    · rw [show tab d st (n + 1) j = tab d st n j from if_neg e]
      exact ih (by omega)
theorem tb_eq {α : Type} {d : α} {st : Nat → (Nat → α) → α} (k : Nat) : tb d st k = st k (tab d st k) := if_pos rfl
theorem tb_rec {α : Type} {d : α} {st : Nat → (Nat → α) → α} {k : Nat} (h : ∀ f g : Nat → α, (∀ j, j < k → f j = g j) → st k f = st k g) : tb d st k = st k (tb d st) := by
  rw [tb_eq]
  exact h _ _ (fun j hj => tab_eq hj)
/-- the time of a gate; the latest of the first n -/
def tm (N : NT) (dl : Nat → Nat) : Nat → Nat := tb 0 (fun k f => if nK N k = 4 then 0 else dl (nK N k) + max (f (nF N k)) (f (nS N k)))
def mxT (N : NT) (dl : Nat → Nat) : Nat → Nat
  | 0 => 0
  | k + 1 => max (mxT N dl k) (tm N dl k)
def DL (dl : Nat → Nat) : Prop := ∀ z, z < 4 → 1 ≤ dl z ∧ dl z ≤ 9
theorem tm_in {N : NT} {dl : Nat → Nat} {k : Nat} (h : nK N k = 4) : tm N dl k = 0 := by
  unfold tm
  rw [tb_eq, if_pos h]
theorem tm_gt {N : NT} {dl : Nat → Nat} (hN : WF N) {k : Nat} (hk : k < nG N) (h : ¬ nK N k = 4) : tm N dl k = dl (nK N k) + max (tm N dl (nF N k)) (tm N dl (nS N k)) := by
  have hfs := hN.fs hk h
  show tb _ _ k = _
  rw [tb_rec (k := k), if_neg h]
  · rfl
  · intro f g hfg
    rw [if_neg h, if_neg h, hfg _ hfs.1, hfg _ hfs.2]
theorem tm_le {N : NT} {dl : Nat → Nat} (hN : WF N) (hd : DL dl) : ∀ (n k : Nat), k < n → k < nG N → tm N dl k ≤ 9 * k := by
  intro n
  induction n with
  | zero => intro k h; exact absurd h (Nat.not_lt_zero _)
  | succ n ih =>
    intro k h hk
    by_cases h4 : nK N k = 4
    · rw [tm_in h4]; exact Nat.zero_le _
    · rw [tm_gt hN hk h4]
      have hfs := hN.fs hk h4
      have h1 := ih (nF N k) (by omega) (by omega)
      have h2 := ih (nS N k) (by omega) (by omega)
      have h3 := hd (nK N k) (by have := hN.k hk; omega)
      omega
theorem tm_lt {N : NT} {dl : Nat → Nat} (hN : WF N) (hd : DL dl) {k : Nat} (hk : k < nG N) : tm N dl k ≤ 1071 := by
  have := tm_le hN hd (k + 1) k (Nat.lt_succ_self k) hk
  have := hN.g
  omega
theorem mxT_le {N : NT} {dl : Nat → Nat} (hN : WF N) (hd : DL dl) : ∀ n, n ≤ nG N → mxT N dl n ≤ 1071 := by
  intro n
  induction n with
  | zero => intro _; exact Nat.zero_le _
  | succ n ih =>
    intro h
    have h1 := ih (by omega)
    have h2 := tm_lt (dl := dl) hN hd (k := n) (by omega)
    show max _ _ ≤ _
    omega
theorem mxT_ge {N : NT} {dl : Nat → Nat} {n k : Nat} (h : k < n) : tm N dl k ≤ mxT N dl n := by
  induction n with
  | zero => exact absurd h (Nat.not_lt_zero _)
  | succ n ih =>
    show _ ≤ max _ _
    by_cases e : k = n
    · subst e; exact Nat.le_max_right _ _
    · exact Nat.le_trans (ih (by omega)) (Nat.le_max_left _ _)
/-- the bit that a kind makes of two -/
def jn (kd : Nat) (x y : Bool) : Bool := if kd = 0 then x && y else if kd = 1 then x || y else if kd = 2 then (x ^^ y) else !x
/-- the bit of a gate for a number -/
def bt (N : NT) (num : Nat) : Nat → Bool := tb false (fun k f => if nT N k = -1 then (if nK N k = 4 then num.testBit (inC N k) else jn (nK N k) (f (nF N k)) (f (nS N k))) else decide (nT N k = 1))
theorem bt_st {N : NT} {num k : Nat} (h : ¬ nT N k = -1) : bt N num k = decide (nT N k = 1) := by
  unfold bt
  rw [tb_eq, if_neg h]
theorem bt_in {N : NT} {num k : Nat} (h : nT N k = -1) (h4 : nK N k = 4) : bt N num k = num.testBit (inC N k) := by
  unfold bt
  rw [tb_eq, if_pos h, if_pos h4]
theorem bt_gt {N : NT} (hN : WF N) {num k : Nat} (hk : k < nG N) (h : nT N k = -1) (h4 : ¬ nK N k = 4) : bt N num k = jn (nK N k) (bt N num (nF N k)) (bt N num (nS N k)) := by
  have hfs := hN.fs hk h4
  show tb _ _ k = _
  rw [tb_rec (k := k), if_pos h, if_neg h4]
  · rfl
  · intro f g hfg
    rw [if_pos h, if_neg h4, if_pos h, if_neg h4, hfg _ hfs.1, hfg _ hfs.2]
/-- bits as ints, and the value of a net: its outs' bits by their places -/
def bi (x : Bool) : Int32 := if x then 1 else 0
def vlT (N : NT) (b : Nat → Bool) : Nat → Int32
  | 0 => 0
  | p + 1 => vlT N b p + (bi (b (nU N p)) <<< (nI p &&& 31))
def vl (N : NT) (num : Nat) : Int32 := vlT N (bt N num) (nO N)
/-- a gate or none, as an int; the first of the outs that is the latest; the next one back on the slowest path -/
def oI : Option Nat → Int32
  | none => -1
  | some g => nI g
theorem oI_none {o : Option Nat} (h : ∀ g, o = some g → g < 2 ^ 31) (c : oI o = -1) : o = none := by
  cases o with
  | none => rfl
  | some g =>
    have hg := h g rfl
    have h1 : (nI g).toInt = ((-1 : Int32)).toInt := congrArg Int32.toInt c
    rw [nI_toInt hg, show ((-1 : Int32)).toInt = -1 from rfl] at h1
    omega
theorem oI_some {o : Option Nat} (c : ¬ oI o = -1) : ∃ g, o = some g := by
  cases o with
  | none => exact absurd rfl c
  | some g => exact ⟨g, rfl⟩
def bsS (N : NT) (t : Nat → Nat) (p : Nat) : Option Nat → Option Nat
  | none => some (nU N p)
  | some g => if t g < t (nU N p) then some (nU N p) else some g
def bst (N : NT) (t : Nat → Nat) : Nat → Option Nat
  | 0 => none
  | p + 1 => bsS N t p (bst N t p)
theorem bst_lt {N : NT} (hN : WF N) {t : Nat → Nat} : ∀ p, p ≤ nO N → ∀ g, bst N t p = some g → g < nG N := by
  intro p
  induction p with
  | zero => intro _ g h; cases h
  | succ p ih =>
    intro hp g h
    have h1 : bsS N t p (bst N t p) = some g := h
    cases hb : bst N t p with
    | none => rw [hb] at h1; cases h1; exact hN.u (by omega)
    | some g2 =>
      rw [hb] at h1
      have h2 : (if t g2 < t (nU N p) then some (nU N p) else some g2) = some g := h1
      by_cases c : t g2 < t (nU N p)
      · rw [if_pos c] at h2; cases h2; exact hN.u (by omega)
      · rw [if_neg c] at h2; cases h2; exact ih (by omega) _ hb
def dlN (N : NT) (t : Nat → Nat) : Nat := match bst N t (nO N) with
  | none => 0
  | some g => t g
def nxt (N : NT) (dl t : Nat → Nat) (k : Nat) : Option Nat := if nK N k = 4 then none else some (if t (nF N k) + dl (nK N k) = t k then nF N k else nS N k)
