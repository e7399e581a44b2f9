/-! bits over time -/
def lv64 (b : Bool) : Int64 := if b then -1 else 0
/-- the bit of a gate at a time, 0 or later, when the net goes from n0 to n1 -/
def wvS (N : NT) (dl : Nat → Nat) (n0 n1 : Nat) (k : Nat) (f : Nat → Nat → Bool) (t : Nat) : Bool := if ¬ nT N k = -1 then decide (nT N k = 1) else if nK N k = 4 then bt N n1 k else if t < dl (nK N k) then jn (nK N k) (bt N n0 (nF N k)) (bt N n0 (nS N k)) else jn (nK N k) (f (nF N k) (t - dl (nK N k))) (f (nS N k) (t - dl (nK N k)))
def wv (N : NT) (dl : Nat → Nat) (n0 n1 : Nat) : Nat → Nat → Bool := tb (fun _ => false) (wvS N dl n0 n1)
/-- the bit at the time one less -/
def wp (N : NT) (dl : Nat → Nat) (n0 n1 k t : Nat) : Bool := if t = 0 then bt N n0 k else wv N dl n0 n1 k (t - 1)
theorem wv_giv {N : NT} {dl : Nat → Nat} {n0 n1 k : Nat} (h : ¬ nT N k = -1 ∨ nK N k = 4) (t : Nat) : wv N dl n0 n1 k t = bt N n1 k := by
  unfold wv
  rw [tb_eq]
  unfold wvS
  by_cases h1 : ¬ nT N k = -1
  · rw [if_pos h1, bt_st h1]
  · rcases h with h | h
    · exact absurd h h1
    · rw [if_neg h1, if_pos h]
theorem wv_gt {N : NT} {dl : Nat → Nat} (hN : WF N) {n0 n1 k : Nat} (hk : k < nG N) (h : nT N k = -1) (h4 : ¬ nK N k = 4) (t : Nat) : wv N dl n0 n1 k t = if t < dl (nK N k) then bt N n0 k else jn (nK N k) (wv N dl n0 n1 (nF N k) (t - dl (nK N k))) (wv N dl n0 n1 (nS N k) (t - dl (nK N k))) := by
  have hfs := hN.fs hk h4
  have e : wv N dl n0 n1 k = wvS N dl n0 n1 k (wv N dl n0 n1) := tb_rec (fun f g hfg => by
    funext t
    unfold wvS
    rw [hfg _ hfs.1, hfg _ hfs.2])
  rw [e]
  unfold wvS
  rw [if_neg (fun q => q h), if_neg h4, bt_gt hN hk h h4]
/-- counts of a word's bits, its highest one -/
def popT (w : Int64) : Nat → Nat
  | 0 => 0
  | n + 1 => popT w n + (if lb w n then 1 else 0)
def hiT (w : Int64) : Nat → Nat
  | 0 => 0
  | n + 1 => if lb w n then n else hiT w n
theorem hiT_lt (w : Int64) : ∀ n, hiT w (n + 1) ≤ n := by
  intro n
  induction n with
  | zero => show (if lb w 0 then 0 else 0) ≤ 0; by_cases h : lb w 0 = true <;> simp [h]
  | succ n ih =>
    show (if lb w (n + 1) then n + 1 else hiT w (n + 1)) ≤ n + 1
    by_cases h : lb w (n + 1) = true
    · rw [if_pos h]; omega
    · rw [if_neg h]; omega
theorem popT_le (w : Int64) : ∀ n, popT w n ≤ n := by
  intro n
  induction n with
  | zero => exact Nat.le_refl _
  | succ n ih =>
    show popT w n + _ ≤ _
    by_cases h : lb w n = true
    · rw [if_pos h]; omega
    · rw [if_neg h]; omega
/-- words of a gate: now, one before, and where they turn -/
def dlyN (kd : Nat) (f : Nat → Int64) (b1 b2 u : Nat) : Int64 := jnW kd (f (b1 + u)) (f (b2 + u))
def dlyW (kd : Nat) (f : Nat → Int64) (b1 b2 d : Nat) (pb : Int64) (u : Nat) : Int64 := lshl_ (dlyN kd f b1 b2 u) (nI d) ||| lushr_ (if u = 0 then pb else dlyN kd f b1 b2 (u - 1)) (nI 64 - nI d)
def pstW (f : Nat → Int64) (b : Nat) (pb : Int64) (u : Nat) : Int64 := if u = 0 then pb else f (b + (u - 1))
def trW (f : Nat → Int64) (b : Nat) (pb : Int64) (u : Nat) : Int64 := f (b + u) ^^^ (lshl_ (f (b + u)) (nI 1) ||| lushr_ (pstW f b pb u) (nI 63))
def cgX (f : Nat → Int64) (b : Nat) (pb : Int64) : Nat → Nat
  | 0 => 0
  | u + 1 => cgX f b pb u + popT (trW f b pb u) 64
def cgY (f : Nat → Int64) (b : Nat) (pb : Int64) (y : Nat) : Nat → Nat
  | 0 => y
  | u + 1 => if trW f b pb u = 0 then cgY f b pb y u else max (cgY f b pb y u) (u * 64 + hiT (trW f b pb u) 64)
theorem cgY_le {f : Nat → Int64} {b : Nat} {pb : Int64} {y : Nat} (hy : y ≤ 1087) : ∀ u, u ≤ 17 → cgY f b pb y u ≤ 1087 := by
  intro u
  induction u with
  | zero => intro _; exact hy
  | succ u ih =>
    intro hu
    have h1 := ih (by omega)
    have h2 : hiT (trW f b pb u) 64 ≤ 63 := hiT_lt (trW f b pb u) 63
    show (if _ then _ else _) ≤ _
    by_cases h : trW f b pb u = 0
    · rw [if_pos h]; exact h1
    · rw [if_neg h]
      exact Nat.max_le.mpr ⟨h1, by omega⟩
theorem popT_0 : ∀ n, popT 0 n = 0 := by
  intro n
  induction n with
  | zero => rfl
  | succ n ih =>
    show popT 0 n + _ = 0
    rw [ih]
    rw [lb_0]; rfl
/-- over all gates that are no inputs -/
def cnX (N : NT) (f w : Nat → Int64) (U : Nat) : Nat → Nat
  | 0 => 0
  | k + 1 => cnX N f w U k + (if nK N k = 4 then 0 else cgX f (k * 17) (w k) U)
def cnY (N : NT) (f w : Nat → Int64) (U : Nat) : Nat → Nat
  | 0 => 0
  | k + 1 => if nK N k = 4 then cnY N f w U k else cgY f (k * 17) (w k) (cnY N f w U k) U
def isO (N : NT) (k : Nat) : Prop := ∃ r, r < nO N ∧ nU N r = k
def cnZ (N : NT) (f w : Nat → Int64) (U : Nat) : Nat → Nat
  | 0 => 0
  | k + 1 => cnZ N f w U k + (if nK N k = 4 then 0 else if (∃ r, r < nO N ∧ nU N r = k) then cgX f (k * 17) (w k) U else 0)
theorem cnY_le {N : NT} {f w : Nat → Int64} {U : Nat} (hU : U ≤ 17) : ∀ k, cnY N f w U k ≤ 1087 := by
  intro k
  induction k with
  | zero => exact Nat.zero_le _
  | succ k ih =>
    show (if _ then _ else _) ≤ _
    by_cases h : nK N k = 4
    · rw [if_pos h]; exact ih
    · rw [if_neg h]; exact cgY_le ih U hU
theorem updL_seg {g v : Nat → Int64} {b u : Nat} {x : Int64} (h : ∀ r, r < u → g (b + r) = v r) (hx : x = v u) : ∀ r, r < u + 1 → vp_updL g (b + u) x (b + r) = v r := by
  intro r hr
  unfold vp_updL
  by_cases e : r = u
  · rw [e, if_pos rfl, hx]
  · rw [if_neg (by omega)]; exact h r (by omega)
theorem updL_out {g f : Nat → Int64} {b u : Nat} {x : Int64} (h : ∀ j, (j < b ∨ b + 17 ≤ j) → g j = f j) (hu : u < 17) : ∀ j, (j < b ∨ b + 17 ≤ j) → vp_updL g (b + u) x j = f j := by
  intro j hj
  unfold vp_updL
  rw [if_neg (by omega)]
  exact h j hj
/-- what the words of a gate are, out of those of lower ones -/
def SEG (N : NT) (dl : Nat → Nat) (w0 w1 : Nat → Int64) (U : Nat) (f : Nat → Int64) (r : Nat) : Prop := ((¬ nT N r = -1 ∨ nK N r = 4) → ∀ u, u < U → f (r * 17 + u) = w1 r) ∧ (nT N r = -1 → ¬ nK N r = 4 → ∀ u, u < U → f (r * 17 + u) = dlyW (nK N r) f (nF N r * 17) (nS N r * 17) (dl (nK N r)) (w0 r) u)
theorem dlyW_cong {kd b1 b2 d u : Nat} {pb : Int64} {f g : Nat → Int64} (h1 : ∀ v, v ≤ u → g (b1 + v) = f (b1 + v)) (h2 : ∀ v, v ≤ u → g (b2 + v) = f (b2 + v)) : dlyW kd g b1 b2 d pb u = dlyW kd f b1 b2 d pb u := by
  unfold dlyW dlyN
  rw [h1 u (Nat.le_refl _), h2 u (Nat.le_refl _), h1 (u - 1) (by omega), h2 (u - 1) (by omega)]
theorem SEG_keep {N : NT} (hN : WF N) {dl : Nat → Nat} {w0 w1 : Nat → Int64} {U : Nat} (hU : U ≤ 17) {f g : Nat → Int64} {k r : Nat} (hr : r < k) (hk : r < nG N) (h : ∀ j, (j < k * 17 ∨ k * 17 + 17 ≤ j) → g j = f j) (hs : SEG N dl w0 w1 U f r) : SEG N dl w0 w1 U g r := by
  refine ⟨fun hg u hu => ?_, fun ht h4 u hu => ?_⟩
  · rw [h _ (by omega)]; exact hs.1 hg u hu
  · have hfs := hN.fs hk h4
    rw [h _ (by omega), hs.2 ht h4 u hu]
    exact (dlyW_cong (fun v hv => h _ (by omega)) (fun v hv => h _ (by omega))).symm
theorem SEG_hold {N : NT} {dl : Nat → Nat} {w0 w1 : Nat → Int64} {U : Nat} {g : Nat → Int64} {k : Nat} (hg : ¬ nT N k = -1 ∨ nK N k = 4) (h : ∀ u, u < U → g (k * 17 + u) = w1 k) : SEG N dl w0 w1 U g k :=
  ⟨fun _ => h, fun ht h4 => absurd hg (fun q => q.elim (fun z => z ht) h4)⟩
theorem SEG_delay {N : NT} (hN : WF N) {dl : Nat → Nat} {w0 w1 : Nat → Int64} {U : Nat} (hU : U ≤ 17) {f g : Nat → Int64} {k : Nat} (hk : k < nG N) (ht : nT N k = -1) (h4 : ¬ nK N k = 4) (h : ∀ u, u < U → g (k * 17 + u) = dlyW (nK N k) f (nF N k * 17) (nS N k * 17) (dl (nK N k)) (w0 k) u) (ho : ∀ j, (j < k * 17 ∨ k * 17 + 17 ≤ j) → g j = f j) : SEG N dl w0 w1 U g k := by
  refine ⟨fun hg => absurd hg (fun q => q.elim (fun z => z ht) h4), fun _ _ u hu => ?_⟩
  have hfs := hN.fs hk h4
  rw [h u hu]
  exact (dlyW_cong (fun v hv => ho _ (by omega)) (fun v hv => ho _ (by omega))).symm
theorem shr6 {T : Nat} (hT : T < 2 ^ 31) : nI T >>> (nI 6 &&& 31) = nI (T / 64) := pk_shrN hT _ 6 (by decide)
theorem hiT_1 {x : Int64} : hiT x 1 = 0 := by
  show (if lb x 0 then 0 else 0) = 0
  by_cases h : lb x 0 = true <;> simp [h]
theorem hiT_y {x : Int64} {n : Nat} (h : lb x n = true) : hiT x (n + 1) = n := if_pos h
theorem hiT_n {x : Int64} {n : Nat} (h : lb x n = false) : hiT x (n + 1) = hiT x n := if_neg (by rw [h]; decide)
theorem popT_N (x : Int64) : ∀ n, popT x n = popN (uNl x) n := by
  intro n
  induction n with
  | zero => rfl
  | succ n ih =>
    show popT x n + _ = popN (uNl x) n + _
    rw [ih]; rfl
theorem bc_popT (x : Int64) : bcW x = nI (popT x 64) := by rw [popT_N]; exact bc_pop x
theorem cg_x1 {f : Nat → Int64} {b u x : Nat} {pb : Int64} : x + cgX f b pb (u + 1) = x + cgX f b pb u + popT (trW f b pb u) 64 := by
  show x + (cgX f b pb u + popT (trW f b pb u) 64) = _
  omega
theorem cg_x0 {f : Nat → Int64} {b u x : Nat} {pb : Int64} (h : trW f b pb u = 0) : x + cgX f b pb (u + 1) = x + cgX f b pb u := by
  rw [cg_x1, h, popT_0]; rfl
theorem cg_y1 {f : Nat → Int64} {b u y : Nat} {pb : Int64} (h : ¬ trW f b pb u = 0) : cgY f b pb y (u + 1) = max (cgY f b pb y u) (u * 64 + hiT (trW f b pb u) 64) := if_neg h
theorem cg_y0 {f : Nat → Int64} {b u y : Nat} {pb : Int64} (h : trW f b pb u = 0) : cgY f b pb y (u + 1) = cgY f b pb y u := if_pos h
theorem cg_z1 {f : Nat → Int64} {b u z : Nat} {pb : Int64} {q : Prop} [Decidable q] : (z + if q then cgX f b pb (u + 1) else 0) = (z + if q then cgX f b pb u else 0) + if q then popT (trW f b pb u) 64 else 0 := by
  by_cases h : q
  · rw [if_pos h, if_pos h, if_pos h]
    exact cg_x1
  · rw [if_neg h, if_neg h, if_neg h]
theorem cg_z0 {f : Nat → Int64} {b u z : Nat} {pb : Int64} {q : Prop} [Decidable q] (h : trW f b pb u = 0) : (z + if q then cgX f b pb (u + 1) else 0) = (z + if q then cgX f b pb u else 0) := by
  rw [cg_z1, h, popT_0]
  by_cases hq : q <;> simp [hq]
theorem cn_x1 {N : NT} {f w : Nat → Int64} {U k : Nat} (h : ¬ nK N k = 4) : cnX N f w U (k + 1) = cnX N f w U k + cgX f (k * 17) (w k) U := by
  show _ + _ = _
  rw [if_neg h]
theorem cn_x0 {N : NT} {f w : Nat → Int64} {U k : Nat} (h : nK N k = 4) : cnX N f w U (k + 1) = cnX N f w U k := by
  show _ + _ = _
  rw [if_pos h]; rfl
theorem cn_y1 {N : NT} {f w : Nat → Int64} {U k : Nat} (h : ¬ nK N k = 4) : cnY N f w U (k + 1) = cgY f (k * 17) (w k) (cnY N f w U k) U := if_neg h
theorem cn_y0 {N : NT} {f w : Nat → Int64} {U k : Nat} (h : nK N k = 4) : cnY N f w U (k + 1) = cnY N f w U k := if_pos h
theorem cn_z1 {N : NT} {f w : Nat → Int64} {U k : Nat} (h : ¬ nK N k = 4) : cnZ N f w U (k + 1) = cnZ N f w U k + (if (∃ r, r < nO N ∧ nU N r = k) then cgX f (k * 17) (w k) U else 0) := by
  show _ + _ = _
  rw [if_neg h]
theorem cn_z0 {N : NT} {f w : Nat → Int64} {U k : Nat} (h : nK N k = 4) : cnZ N f w U (k + 1) = cnZ N f w U k := by
  show _ + _ = _
  rw [if_pos h]; rfl
