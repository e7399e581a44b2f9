/-! bits for a number, values, truth tables, changes, by certificates -/
section CT
variable {N : NT} {K : KN} {n o : Nat} {dl : Nat → Nat}
def icK (K : KN) : Nat → Nat
  | 0 => 0
  | k + 1 => icK K k + (if kK K k = 4 then 1 else 0)
theorem ic_ct (hR : Rp N K n o) : ∀ m, m ≤ nG N → inC N m = icK K m := by
  intro m
  induction m with
  | zero => intro _; rfl
  | succ m ih =>
    intro hm
    show inC N m + _ = icK K m + _
    rw [ih (by omega), hR.k (by omega)]
def bbB (K : KN) (n num B : Nat) : Bool := allU (fun k => B.testBit k == (if kT K k = 0 then (if kK K k = 4 then num.testBit (icK K k) else jn (kK K k) (B.testBit (kF K k)) (B.testBit (kS K k))) else Nat.beq (kT K k) 2)) n
theorem bt_ct {num B : Nat} (hN : WF N) (hR : Rp N K n o) (h : bbB K n num B = true) : ∀ m k, k < m → k < nG N → bt N num k = B.testBit k := by
  intro m
  induction m with
  | zero => intro k hk; exact absurd hk (Nat.not_lt_zero _)
  | succ m ih =>
    intro k hkm hk
    have hkn : k < n := by rw [← hR.1]; exact hk
    have hc0 := allU_at h hkn
    have hc := eq_of_beq hc0
    have ht := hR.t hk
    by_cases c : kT K k = 0
    · rw [if_pos c] at hc
      have h1 := sC_0 (ht.trans c)
      rw [← hR.k hk, ← hR.f hk, ← hR.s hk] at hc
      by_cases h4 : nK N k = 4
      · rw [if_pos h4] at hc
        rw [bt_in h1 h4, hc, ic_ct hR k (by omega)]
      · rw [if_neg h4] at hc
        have hfs := hN.fs hk h4
        rw [bt_gt hN hk h1 h4, hc, ih _ (by omega) (by omega), ih _ (by omega) (by omega)]
    · rw [if_neg c] at hc
      rw [bt_st (sC_n ht c), hc, sC_1 ht (hN.t hk)]
def vN (b : Nat → Bool) : Nat → Nat
  | 0 => 0
  | p + 1 => vN b p + (if b p then 2 ^ p else 0)
theorem bi_sh : ∀ p, p < 16 → ∀ b : Bool, bi b <<< (nI p &&& 31) = nI (if b then 2 ^ p else 0) := by decide +kernel
theorem vl_ct {b b2 : Nat → Bool} (hN : WF N) (h : ∀ p, p < nO N → b (nU N p) = b2 p) : ∀ p, p ≤ nO N → vlT N b p = nI (vN b2 p) := by
  have ho := hN.o
  intro p
  induction p with
  | zero => intro _; rfl
  | succ p ih =>
    intro hp
    show vlT N b p + _ = nI (vN b2 p + _)
    rw [ih (by omega), h p (by omega), bi_sh p (by omega), nI_add]
theorem vN_lt (b : Nat → Bool) : ∀ p, vN b p < 2 ^ p := by
  intro p
  induction p with
  | zero => exact Nat.one_pos
  | succ p ih =>
    show vN b p + _ < _
    have : (if b p then 2 ^ p else 0) ≤ 2 ^ p := by split <;> omega
    rw [Nat.pow_succ]
    omega
theorem vl1_ct {num B v : Nat} (hN : WF N) (hR : Rp N K n o) (h : bbB K n num B = true) (hv : Nat.beq (vN (fun p => B.testBit (kU K p)) o) v = true) : vl N num = nI v := by
  unfold vl
  rw [vl_ct hN (b2 := fun p => B.testBit (kU K p)) (fun p hp => by rw [bt_ct hN hR h (nU N p + 1) _ (Nat.lt_succ_self _) (hN.u hp), hR.u hp]) _ (Nat.le_refl _), hR.2.1, Nat.eq_of_beq_eq_true hv]
/-! truth tables: the bit of a gate for all numbers of i bits -/
def opK (kd mask x y : Nat) : Nat := if kd = 0 then x &&& y else if kd = 1 then x ||| y else if kd = 2 then x ^^^ y else mask ^^^ x
theorem op_ct {kd q x y t : Nat} (ht : t < q) : (opK kd (2 ^ q - 1) x y).testBit t = jn kd (x.testBit t) (y.testBit t) := by
  unfold opK jn
  by_cases h0 : kd = 0
  · rw [if_pos h0, if_pos h0, Nat.testBit_and]
  · rw [if_neg h0, if_neg h0]
    by_cases h1 : kd = 1
    · rw [if_pos h1, if_pos h1, Nat.testBit_or]
    · rw [if_neg h1, if_neg h1]
      by_cases h2 : kd = 2
      · rw [if_pos h2, if_pos h2, Nat.testBit_xor]
      · rw [if_neg h2, if_neg h2, Nat.testBit_xor, Nat.testBit_two_pow_sub_one, decide_eq_true ht]; cases x.testBit t <;> rfl
def paB (i q : Nat) (Pt : List Nat) : Bool := allU (fun r => allU (fun num => (Pt.getD r 0).testBit num == num.testBit r) q) i
def ttB (K : KN) (n i q mask : Nat) (Pt T : List Nat) : Bool := allU (fun k => if kT K k = 0 then (if kK K k = 4 then Nat.beq (T.getD k 0) (Pt.getD (icK K k) 0) && Nat.blt (icK K k) i else Nat.beq (T.getD k 0) (opK (kK K k) mask (T.getD (kF K k) 0) (T.getD (kS K k) 0))) else Nat.beq (T.getD k 0) (if kT K k = 2 then mask else 0)) n
theorem tt_ct {i q mask : Nat} {Pt T : List Nat} (hN : WF N) (hR : Rp N K n o) (hm : Nat.beq mask (2 ^ q - 1) = true) (hP : paB i q Pt = true) (h : ttB K n i q mask Pt T = true) {num : Nat} (hn : num < q) : ∀ m k, k < m → k < nG N → bt N num k = (T.getD k 0).testBit num := by
  have hm := Nat.eq_of_beq_eq_true hm
  subst hm
  intro m
  induction m with
  | zero => intro k hk; exact absurd hk (Nat.not_lt_zero _)
  | succ m ih =>
    intro k hkm hk
    have hkn : k < n := by rw [← hR.1]; exact hk
    have hc := allU_at h hkn
    have ht := hR.t hk
    by_cases c : kT K k = 0
    · simp only [if_pos c] at hc
      have h1 := sC_0 (ht.trans c)
      rw [← hR.k hk, ← hR.f hk, ← hR.s hk] at hc
      by_cases h4 : nK N k = 4
      · rw [if_pos h4] at hc
        obtain ⟨c1, c2⟩ := and2 hc
        rw [bt_in h1 h4, Nat.eq_of_beq_eq_true c1, ic_ct hR k (by omega)]
        have c3 : icK K k < i := Nat.le_of_ble_eq_true c2
        have c4 := allU_at hP c3
        have c5 := allU_at c4 hn
        exact (eq_of_beq c5).symm
      · rw [if_neg h4] at hc
        have hfs := hN.fs hk h4
        rw [bt_gt hN hk h1 h4, Nat.eq_of_beq_eq_true hc, op_ct hn, ih _ (by omega) (by omega), ih _ (by omega) (by omega)]
    · simp only [if_neg c] at hc
      rw [bt_st (sC_n ht c), Nat.eq_of_beq_eq_true hc]
      rcases hN.t hk with q1 | q1 | q1
      · exact absurd q1 (sC_n ht c)
      · rw [← ht, q1, if_neg (by decide)]; exact (Nat.zero_testBit num).symm
      · rw [← ht, q1, if_pos (by decide), Nat.testBit_two_pow_sub_one]
        exact (show decide ((1 : Int32) = 1) = true by decide).trans (decide_eq_true hn).symm
/-! off and unseen -/
def vT (K : KN) (o : Nat) (T : List Nat) (num : Nat) : Nat := vN (fun p => (T.getD (kU K p) 0).testBit num) o
theorem vT_ct {q : Nat} {T : List Nat} (hN : WF N) (hR : Rp N K n o) (h : ∀ num, num < q → ∀ m k, k < m → k < nG N → bt N num k = (T.getD k 0).testBit num) {num : Nat} (hn : num < q) : vl N num = nI (vT K o T num) := by
  unfold vl vT
  rw [vl_ct hN (b2 := fun p => (T.getD (kU K p) 0).testBit num) (fun p hp => by rw [h num hn (nU N p + 1) _ (Nat.lt_succ_self _) (hN.u hp), hR.u hp]) _ (Nat.le_refl _), hR.2.1]
theorem abs_0 (x : Int32) : absI (x - x) = 0 := by rw [Int32.sub_self]; decide
theorem gap_0 {op : Nat} : ∀ m, (∀ x, x < m → gapN N op x = 0) → AX N op m = 0 ∧ AY N op m = nI 0 ∧ AZ N op m = nI 0 ∧ AV N op m = -1 ∧ ∀ mo, AU N op mo m = nI 0 := by
  intro m
  induction m with
  | zero => intro _; exact ⟨rfl, rfl, rfl, rfl, fun _ => rfl⟩
  | succ m ih =>
    intro h
    obtain ⟨i1, i2, i3, i4, i5⟩ := ih (fun x hx => h x (by omega))
    have hz : ¬ 0 < gapN N op m := by rw [h m (by omega)]; decide
    refine ⟨?_, ?_, ?_, ?_, fun mo => ?_⟩
    · show AX N op m + _ = 0; rw [if_neg hz, i1]
    · exact (if_neg hz).trans i2
    · exact (if_neg hz).trans i3
    · exact (if_neg hz).trans i4
    · exact (if_neg hz).trans (i5 mo)
theorem off0_ct {op i q : Nat} {T : List Nat} (hN : WF N) (hR : Rp N K n o) (hi : nIn N = i) (hq : Nat.beq (2 ^ i) q = true) (h : ∀ num, num < q → ∀ m k, k < m → k < nG N → bt N num k = (T.getD k 0).testBit num) (hv : allU (fun num => Nat.beq (vT K o T num) (dueN op (i / 2) num)) q = true) : (∀ w, offV N op w = if w = 0 then nI 0 else if w = 1 then nI 0 else if w = 2 then nI 0 else -1) ∧ ∀ mo, AU N op mo (2 ^ nIn N) = nI 0 := by
  have hq := Nat.eq_of_beq_eq_true hq
  have g := gap_0 (N := N) (op := op) q (fun x hx => by
    unfold gapN
    rw [vT_ct hN hR h hx, allU_eq hv hx, hi]
    exact abs_0 _)
  rw [← hq, ← hi] at g
  refine ⟨fun w => ?_, fun mo => g.2.2.2.2 mo⟩
  unfold offV
  rw [g.1, g.2.1, g.2.2.1, g.2.2.2.1]
def gaK (K : KN) (o : Nat) (T : List Nat) (op h num : Nat) : Int32 := absI (nI (vT K o T num) - nI (dueN op h num))
def gX (g : Nat → Int32) : Nat → Nat
  | 0 => 0
  | n + 1 => gX g n + (if 0 < g n then 1 else 0)
def gY (g : Nat → Int32) : Nat → Int32
  | 0 => nI 0
  | n + 1 => if 0 < g n then (if gY g n < g n then g n else gY g n) else gY g n
def gZ (g : Nat → Int32) : Nat → Int32
  | 0 => nI 0
  | n + 1 => if 0 < g n then gZ g n + g n else gZ g n
def gV (g : Nat → Int32) : Nat → Int32
  | 0 => -1
  | n + 1 => if 0 < g n then (if gX g n = 0 then nI n else gV g n) else gV g n
def gU (g : Nat → Int32) (mo : Nat) : Nat → Int32
  | 0 => nI 0
  | n + 1 => if 0 < g n then (if g n - g n / nI mo * nI mo = 0 then gU g mo n + nI 1 else gU g mo n) else gU g mo n
theorem gap_c {op : Nat} {g : Nat → Int32} : ∀ m, (∀ x, x < m → gapN N op x = g x) → AX N op m = gX g m ∧ AY N op m = gY g m ∧ AZ N op m = gZ g m ∧ AV N op m = gV g m ∧ ∀ mo, AU N op mo m = gU g mo m := by
  intro m
  induction m with
  | zero => intro _; exact ⟨rfl, rfl, rfl, rfl, fun _ => rfl⟩
  | succ m ih =>
    intro h
    obtain ⟨i1, i2, i3, i4, i5⟩ := ih (fun x hx => h x (by omega))
    have hz := h m (by omega)
    refine ⟨?_, ?_, ?_, ?_, fun mo => ?_⟩
    · show AX N op m + _ = gX g m + _; rw [hz, i1]
    · show (if 0 < gapN N op m then (if AY N op m < gapN N op m then gapN N op m else AY N op m) else AY N op m) = _
      rw [hz, i2]; rfl
    · show (if 0 < gapN N op m then AZ N op m + gapN N op m else AZ N op m) = _
      rw [hz, i3]; rfl
    · show (if 0 < gapN N op m then (if AX N op m = 0 then nI m else AV N op m) else AV N op m) = _
      rw [hz, i1, i4]; rfl
    · show (if 0 < gapN N op m then (if gapN N op m - gapN N op m / nI mo * nI mo = 0 then AU N op mo m + nI 1 else AU N op mo m) else AU N op mo m) = _
      rw [hz, i5]; rfl
def ofK (g : Nat → Int32) (q w : Nat) : Int32 := if w = 0 then nI (gX g q) else if w = 1 then gY g q else if w = 2 then gZ g q else gV g q
theorem off_ct {op i q : Nat} {T : List Nat} (hN : WF N) (hR : Rp N K n o) (hi : nIn N = i) (hq : Nat.beq (2 ^ i) q = true) (h : ∀ num, num < q → ∀ m k, k < m → k < nG N → bt N num k = (T.getD k 0).testBit num) : (∀ w, offV N op w = ofK (gaK K o T op (i / 2)) q w) ∧ ∀ mo, AU N op mo (2 ^ nIn N) = gU (gaK K o T op (i / 2)) mo q := by
  have hq := Nat.eq_of_beq_eq_true hq
  have g := gap_c (N := N) (op := op) (g := gaK K o T op (i / 2)) q (fun x hx => by
    unfold gapN gaK
    rw [vT_ct hN hR h hx, hi])
  rw [hi, hq]
  refine ⟨fun w => ?_, fun mo => g.2.2.2.2 mo⟩
  unfold offV ofK
  rw [hi, hq, g.1, g.2.1, g.2.2.1, g.2.2.2.1]
/-! unlike -/
def obK (K : KN) (o : Nat) (T : List Nat) (num r : Nat) : Bool := if r < o then (T.getD (kU K r) 0).testBit num else false
def dfK (f g : Nat → Bool) : Nat → Bool
  | 0 => false
  | r + 1 => dfK f g r || (f r ^^ g r)
theorem ob_ct {q : Nat} {T : List Nat} (hN : WF N) (hR : Rp N K n o) (h : ∀ num, num < q → ∀ m k, k < m → k < nG N → bt N num k = (T.getD k 0).testBit num) {num : Nat} (hn : num < q) (r : Nat) : ob N num r = obK K o T num r := by
  unfold ob obK
  rw [hR.2.1]
  by_cases c : r < o
  · have hr : r < nO N := by rw [hR.2.1]; exact c
    rw [if_pos c, if_pos c, h num hn _ _ (Nat.lt_succ_self _) (hN.u hr), hR.u hr]
  · rw [if_neg c, if_neg c]
theorem df_c {M : NT} {num : Nat} {f g : Nat → Bool} (h1 : ∀ r, ob N num r = f r) (h2 : ∀ r, ob M num r = g r) : ∀ r, dfT N M num r = dfK f g r := by
  intro r
  induction r with
  | zero => rfl
  | succ r ih =>
    show (dfT N M num r || (ob N num r ^^ ob M num r)) = (dfK f g r || (f r ^^ g r))
    rw [ih, h1, h2]
theorem uns_m {M : NT} {q : Nat} {r : Int32} (h : unS N M q r) (hd : ∀ x, x < q → dfT N M x 16 = false) : r = -1 := by
  rcases h with h | ⟨x, hx, _, h1, _⟩
  · exact h.1
  · rw [hd x hx] at h1; cases h1
theorem uns_v {M : NT} {q v : Nat} {r : Int32} (h : unS N M q r) (hv : v < q) (hd : dfT N M v 16 = true) (hz : ∀ x, x < v → dfT N M x 16 = false) : r = nI v := by
  rcases h with ⟨_, h⟩ | ⟨x, hx, e, h1, h2⟩
  · rw [h v hv] at hd; cases hd
  · rcases Nat.lt_trichotomy x v with c | c | c
    · rw [hz x c] at h1; cases h1
    · rw [e, c]
    · rw [h2 v c] at hd; cases hd
theorem df_self {num : Nat} : ∀ r, dfT N N num r = false := by
  intro r
  induction r with
  | zero => rfl
  | succ r ih =>
    show (dfT N N num r || (ob N num r ^^ ob N num r)) = false
    rw [ih]; cases ob N num r <;> rfl
/-! changes -/
def wvB (K : KN) (n : Nat) (dl : Nat → Nat) (B0 B1 q mask : Nat) (V : List Nat) : Bool := allU (fun k => if kT K k ≠ 0 ∨ kK K k = 4 then Nat.beq (V.getD k 0) (if B1.testBit k then mask else 0) else Nat.beq (V.getD k 0) ((opK (kK K k) mask (V.getD (kF K k) 0) (V.getD (kS K k) 0) <<< dl (kK K k) ||| (if B0.testBit k then 2 ^ dl (kK K k) - 1 else 0)) % 2 ^ q)) n
theorem wv_ct {n0 n1 B0 B1 q mask : Nat} {V : List Nat} (hN : WF N) (hR : Rp N K n o) (hm : Nat.beq mask (2 ^ q - 1) = true) (h0 : ∀ k, k < nG N → bt N n0 k = B0.testBit k) (h1 : ∀ k, k < nG N → bt N n1 k = B1.testBit k) (h : wvB K n dl B0 B1 q mask V = true) : ∀ m k, k < m → k < nG N → ∀ t, t < q → wv N dl n0 n1 k t = (V.getD k 0).testBit t := by
  have hm := Nat.eq_of_beq_eq_true hm
  subst hm
  intro m
  induction m with
  | zero => intro k hk; exact absurd hk (Nat.not_lt_zero _)
  | succ m ih =>
    intro k hkm hk t ht
    have hkn : k < n := by rw [← hR.1]; exact hk
    have hc := allU_at h hkn
    have hst := hR.t hk
    by_cases c : kT K k ≠ 0 ∨ kK K k = 4
    · simp only [if_pos c] at hc
      have g : ¬ nT N k = -1 ∨ nK N k = 4 := c.elim (fun c => Or.inl (sC_n hst c)) (fun c => Or.inr ((hR.k hk).trans c))
      rw [wv_giv g t, Nat.eq_of_beq_eq_true hc, h1 k hk]
      by_cases e : B1.testBit k = true
      · rw [if_pos e, e, Nat.testBit_two_pow_sub_one, decide_eq_true ht]
      · rw [if_neg e, Bool.eq_false_iff.mpr e]; simp
    · simp only [if_neg c] at hc
      have c1 : kT K k = 0 := Classical.byContradiction fun q1 => c (Or.inl q1)
      have h1' := sC_0 (hst.trans c1)
      have h4 : ¬ nK N k = 4 := fun q1 => c (Or.inr ((hR.k hk).symm.trans q1))
      rw [← hR.k hk, ← hR.f hk, ← hR.s hk] at hc
      have hfs := hN.fs hk h4
      rw [wv_gt hN hk h1' h4, Nat.eq_of_beq_eq_true hc, Nat.testBit_mod_two_pow, decide_eq_true ht, Bool.true_and, Nat.testBit_or, Nat.testBit_shiftLeft]
      generalize hd : dl (nK N k) = d
      by_cases ct : t < d
      · rw [if_pos ct, h0 k hk, decide_eq_false (by omega : ¬ d ≤ t), Bool.false_and, Bool.false_or]
        by_cases e : B0.testBit k = true
        · rw [if_pos e, e, Nat.testBit_two_pow_sub_one, decide_eq_true ct]
        · rw [if_neg e, Bool.eq_false_iff.mpr e]; simp
      · have z : (if B0.testBit k = true then 2 ^ d - 1 else 0).testBit t = false := by
          by_cases e : B0.testBit k = true
          · rw [if_pos e, Nat.testBit_two_pow_sub_one, decide_eq_false ct]
          · rw [if_neg e]; simp
        rw [if_neg ct, z, Bool.or_false, decide_eq_true (by omega : d ≤ t), Bool.true_and, op_ct (by omega), ih _ (by omega) (by omega) _ (by omega), ih _ (by omega) (by omega) _ (by omega)]
/-- is there a change at the time t of the gate k -/
def chK (K : KN) (B0 : Nat) (V : List Nat) (t k : Nat) : Bool := (V.getD k 0).testBit t != (if t = 0 then B0.testBit k else (V.getD k 0).testBit (t - 1))
def oMk (K : KN) (o : Nat) (k : Nat) : Bool := K.2.any (fun u => Nat.beq u k)
def rXK (K : KN) (B0 : Nat) (V : List Nat) (t : Nat) : Nat → Nat
  | 0 => 0
  | k + 1 => rXK K B0 V t k + (if kK K k ≠ 4 ∧ chK K B0 V t k = true then 1 else 0)
def rYK (K : KN) (B0 : Nat) (V : List Nat) (t y : Nat) : Nat → Nat
  | 0 => y
  | k + 1 => if kK K k ≠ 4 ∧ chK K B0 V t k = true then max (rYK K B0 V t y k) t else rYK K B0 V t y k
def rZK (K : KN) (ob : Nat) (B0 : Nat) (V : List Nat) (t : Nat) : Nat → Nat
  | 0 => 0
  | k + 1 => rZK K ob B0 V t k + (if kK K k ≠ 4 ∧ chK K B0 V t k = true then (if ob.testBit k then 1 else 0) else 0)
def tXK (K : KN) (n B0 : Nat) (V : List Nat) : Nat → Nat
  | 0 => 0
  | q + 1 => tXK K n B0 V q + rXK K B0 V q n
def tYK (K : KN) (n B0 : Nat) (V : List Nat) : Nat → Nat
  | 0 => 0
  | q + 1 => rYK K B0 V q (tYK K n B0 V q) n
def tZK (K : KN) (n ob B0 : Nat) (V : List Nat) : Nat → Nat
  | 0 => 0
  | q + 1 => tZK K n ob B0 V q + rZK K ob B0 V q n
section TK
variable {n0 n1 B0 q : Nat} {V : List Nat}
theorem ch_ct (hR : Rp N K n o) (h0 : ∀ k, k < nG N → bt N n0 k = B0.testBit k) (h : ∀ k, k < nG N → ∀ t, t < q → wv N dl n0 n1 k t = (V.getD k 0).testBit t) {k t : Nat} (hk : k < nG N) (ht : t < q) : (nK N k ≠ 4 ∧ ¬ wv N dl n0 n1 k t = wp N dl n0 n1 k t) ↔ (kK K k ≠ 4 ∧ chK K B0 V t k = true) := by
  rw [hR.k hk]
  have e : wp N dl n0 n1 k t = (if t = 0 then B0.testBit k else (V.getD k 0).testBit (t - 1)) := by
    unfold wp
    by_cases c : t = 0
    · rw [if_pos c, if_pos c, h0 k hk]
    · rw [if_neg c, if_neg c, h k hk _ (by omega)]
  rw [e, h k hk t ht]
  unfold chK
  exact ⟨fun ⟨a1, a2⟩ => ⟨a1, bne_iff_ne.mpr a2⟩, fun ⟨a1, a2⟩ => ⟨a1, bne_iff_ne.mp a2⟩⟩
theorem rX_ct (hR : Rp N K n o) (h0 : ∀ k, k < nG N → bt N n0 k = B0.testBit k) (h : ∀ k, k < nG N → ∀ t, t < q → wv N dl n0 n1 k t = (V.getD k 0).testBit t) {t : Nat} (ht : t < q) : ∀ k, k ≤ nG N → rX N dl n0 n1 t k = rXK K B0 V t k := by
  intro k
  induction k with
  | zero => intro _; rfl
  | succ k ih =>
    intro hk
    show rX N dl n0 n1 t k + _ = rXK K B0 V t k + _
    rw [ih (by omega)]
    have c := ch_ct hR h0 h (k := k) (by omega) ht
    by_cases d : kK K k ≠ 4 ∧ chK K B0 V t k = true
    · rw [if_pos d, if_pos (c.mpr d)]
    · rw [if_neg d, if_neg (fun q => d (c.mp q))]
theorem rY_ct (hR : Rp N K n o) (h0 : ∀ k, k < nG N → bt N n0 k = B0.testBit k) (h : ∀ k, k < nG N → ∀ t, t < q → wv N dl n0 n1 k t = (V.getD k 0).testBit t) {t y : Nat} (ht : t < q) : ∀ k, k ≤ nG N → rY N dl n0 n1 t y k = rYK K B0 V t y k := by
  intro k
  induction k with
  | zero => intro _; rfl
  | succ k ih =>
    intro hk
    show (if nK N k ≠ 4 ∧ ¬ wv N dl n0 n1 k t = wp N dl n0 n1 k t then max (rY N dl n0 n1 t y k) t else rY N dl n0 n1 t y k) = (if kK K k ≠ 4 ∧ chK K B0 V t k = true then max (rYK K B0 V t y k) t else rYK K B0 V t y k)
    rw [ih (by omega)]
    have c := ch_ct hR h0 h (k := k) (by omega) ht
    by_cases d : kK K k ≠ 4 ∧ chK K B0 V t k = true
    · rw [if_pos d, if_pos (c.mpr d)]
    · rw [if_neg d, if_neg (fun q => d (c.mp q))]
theorem is_ct (hR : Rp N K n o) {k : Nat} : (∃ r, r < nO N ∧ nU N r = k) ↔ (ouK K o).testBit k = true := by
  have h := ou_ct hR (nO N) (Nat.le_refl _) k
  rw [hR.2.1] at h
  rw [← h]
  have g : ∀ p, p ≤ nO N → (ouT N p k = true ↔ ∃ r, r < p ∧ nU N r = k) := by
    intro p
    induction p with
    | zero => intro _; exact ⟨fun q => absurd (show false = true from q) (by decide), fun ⟨r, hr, _⟩ => absurd hr (Nat.not_lt_zero _)⟩
    | succ p ih =>
      intro hp
      show setT (ouT N p) (nU N p) k = true ↔ _
      unfold setT
      by_cases c : k = nU N p
      · rw [if_pos c]; exact ⟨fun _ => ⟨p, Nat.lt_succ_self _, c.symm⟩, fun _ => rfl⟩
      · rw [if_neg c, ih (by omega)]
        constructor
        · rintro ⟨r, h1, h2⟩; exact ⟨r, by omega, h2⟩
        · rintro ⟨r, h1, h2⟩
          by_cases d : r = p
          · exact absurd (h2.symm.trans (by rw [d])) c
          · exact ⟨r, by omega, h2⟩
  have g := g (nO N) (Nat.le_refl _)
  rw [hR.2.1] at g
  rw [hR.2.1]
  exact g.symm
theorem rZ_ct (hR : Rp N K n o) (h0 : ∀ k, k < nG N → bt N n0 k = B0.testBit k) (h : ∀ k, k < nG N → ∀ t, t < q → wv N dl n0 n1 k t = (V.getD k 0).testBit t) {t : Nat} (ht : t < q) : ∀ k, k ≤ nG N → rZ N dl n0 n1 t k = rZK K (ouK K o) B0 V t k := by
  intro k
  induction k with
  | zero => intro _; rfl
  | succ k ih =>
    intro hk
    show rZ N dl n0 n1 t k + _ = rZK K (ouK K o) B0 V t k + _
    rw [ih (by omega)]
    have c := ch_ct hR h0 h (k := k) (by omega) ht
    have z := is_ct hR (k := k)
    by_cases d : kK K k ≠ 4 ∧ chK K B0 V t k = true
    · rw [if_pos d, if_pos (c.mpr d)]
      by_cases y : (ouK K o).testBit k = true
      · rw [if_pos y, if_pos (z.mpr y)]
      · rw [if_neg y, if_neg (fun q => y (z.mp q))]
    · rw [if_neg d, if_neg (fun q => d (c.mp q))]
theorem tk_ct (hR : Rp N K n o) (h0 : ∀ k, k < nG N → bt N n0 k = B0.testBit k) (h : ∀ k, k < nG N → ∀ t, t < q → wv N dl n0 n1 k t = (V.getD k 0).testBit t) : ∀ m, m ≤ q → tkX N dl n0 n1 m = tXK K n B0 V m ∧ tkY N dl n0 n1 m = tYK K n B0 V m ∧ tkZ N dl n0 n1 m = tZK K n (ouK K o) B0 V m := by
  intro m
  induction m with
  | zero => intro _; exact ⟨rfl, rfl, rfl⟩
  | succ m ih =>
    intro hm
    obtain ⟨i1, i2, i3⟩ := ih (by omega)
    refine ⟨?_, ?_, ?_⟩
    · show tkX N dl n0 n1 m + rX N dl n0 n1 m (nG N) = tXK K n B0 V m + rXK K B0 V m n
      rw [i1, rX_ct hR h0 h (by omega) _ (Nat.le_refl _), hR.1]
    · show rY N dl n0 n1 m (tkY N dl n0 n1 m) (nG N) = rYK K B0 V m (tYK K n B0 V m) n
      rw [i2, rY_ct hR h0 h (by omega) _ (Nat.le_refl _), hR.1]
    · show tkZ N dl n0 n1 m + rZ N dl n0 n1 m (nG N) = tZK K n (ouK K o) B0 V m + rZK K (ouK K o) B0 V m n
      rw [i3, rZ_ct hR h0 h (by omega) _ (Nat.le_refl _), hR.1]
end TK
/-- changes: the three answers -/
theorem chg_ct {n0 n1 B0 B1 q mask x y z : Nat} {T V : List Nat} (hN : WF N) (hR : Rp N K n o) (hT : tmB K n dl T = true) (hq : Nat.beq (mxL T n + 1) q = true) (hm : Nat.beq mask (2 ^ q - 1) = true) (h0 : bbB K n n0 B0 = true) (h1 : bbB K n n1 B1 = true) (h : wvB K n dl B0 B1 q mask V = true) (hx : Nat.beq (tXK K n B0 V q) x = true) (hy : Nat.beq (tYK K n B0 V q) y = true) (hz : Nat.beq (tZK K n (ouK K o) B0 V q) z = true) : tkV N dl n0 n1 (mxT N dl (nG N) + 1) 0 = x ∧ tkV N dl n0 n1 (mxT N dl (nG N) + 1) 1 = y ∧ tkV N dl n0 n1 (mxT N dl (nG N) + 1) 2 = z := by
  have e : mxT N dl (nG N) + 1 = q := by
    rw [mxT_ct (T := T) (fun k hk => tm_ct hN hR hT _ _ (Nat.lt_succ_self _) hk) _ (Nat.le_refl _), hR.1]
    exact Nat.eq_of_beq_eq_true hq
  have b0 := fun k hk => bt_ct hN hR h0 (k + 1) k (Nat.lt_succ_self _) hk
  have b1 := fun k hk => bt_ct hN hR h1 (k + 1) k (Nat.lt_succ_self _) hk
  have w := fun k hk => wv_ct hN hR hm b0 b1 h (k + 1) k (Nat.lt_succ_self _) hk
  obtain ⟨i1, i2, i3⟩ := tk_ct (o := o) hR b0 w q (Nat.le_refl _)
  rw [e]
  exact ⟨i1.trans (Nat.eq_of_beq_eq_true hx), i2.trans (Nat.eq_of_beq_eq_true hy), i3.trans (Nat.eq_of_beq_eq_true hz)⟩
end CT
