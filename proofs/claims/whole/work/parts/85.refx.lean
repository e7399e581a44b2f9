/-! a net's value is below 65536; how far it is off -/
def vlN (N : NT) (b : Nat → Bool) : Nat → Nat
  | 0 => 0
  | p + 1 => vlN N b p + (if b (nU N p) then 2 ^ p else 0)
theorem vlN_lt (N : NT) (b : Nat → Bool) : ∀ p, vlN N b p < 2 ^ p := by
  intro p
  induction p with
  | zero => show 0 < 1; omega
  | succ p ih =>
    have h1 : vlN N b (p + 1) = vlN N b p + (if b (nU N p) then 2 ^ p else 0) := rfl
    rw [h1, Nat.pow_succ]
    by_cases c : b (nU N p) = true
    · rw [if_pos c]; omega
    · rw [if_neg c]; omega
theorem bi_shl {x : Bool} {p : Nat} (hp : p < 31) : bi x <<< (nI p &&& 31) = nI (if x then 2 ^ p else 0) := by
  cases x
  · show (0 : Int32) <<< (nI p &&& 31) = nI 0
    have hs : ∀ l, l < 32 → ((nI l &&& 31).toBitVec.smod 32).toNat = l := by decide +kernel
    have h2 := pk_shlN (n := 0) _ p (hs p (by omega)) (by omega)
    rw [show (0 : Int32) = nI 0 from rfl, h2, Nat.zero_mul]
  · exact shl1 hp
theorem vlT_N {N : NT} {b : Nat → Bool} : ∀ p, p ≤ 16 → vlT N b p = nI (vlN N b p) := by
  intro p
  induction p with
  | zero => intro _; rfl
  | succ p ih =>
    intro hp
    show vlT N b p + (bi (b (nU N p)) <<< (nI p &&& 31)) = nI (vlN N b p + _)
    rw [ih (by omega), bi_shl (by omega), nI_add]
theorem vl_N {N : NT} (hN : WF N) {n : Nat} : vl N n = nI (vlN N (bt N n) (nO N)) := vlT_N _ hN.o
theorem vlN_65 {N : NT} (hN : WF N) {b : Nat → Bool} : vlN N b (nO N) < 65536 := Nat.lt_of_lt_of_le (vlN_lt N b (nO N)) (Nat.pow_le_pow_right (by omega) hN.o)
def vlG (b : Nat → Bool) : Nat → Nat
  | 0 => 0
  | p + 1 => vlG b p + (if b p then 2 ^ p else 0)
theorem vlG_lt (b : Nat → Bool) : ∀ p, vlG b p < 2 ^ p := by
  intro p
  induction p with
  | zero => show 0 < 1; omega
  | succ p ih =>
    have h1 : vlG b (p + 1) = vlG b p + (if b p then 2 ^ p else 0) := rfl
    rw [h1, Nat.pow_succ]
    by_cases c : b p = true
    · rw [if_pos c]; omega
    · rw [if_neg c]; omega
theorem vlG_inj {b c : Nat → Bool} : ∀ p, vlG b p = vlG c p ↔ ∀ r, r < p → b r = c r := by
  intro p
  induction p with
  | zero => exact ⟨fun _ r h => absurd h (Nat.not_lt_zero r), fun _ => rfl⟩
  | succ p ih =>
    have h1 : vlG b (p + 1) = vlG b p + (if b p then 2 ^ p else 0) := rfl
    have h2 : vlG c (p + 1) = vlG c p + (if c p then 2 ^ p else 0) := rfl
    have l1 := vlG_lt b p
    have l2 := vlG_lt c p
    constructor
    · intro h
      rw [h1, h2] at h
      have e : b p = c p := by
        cases hb : b p <;> cases hc : c p <;> rw [hb, hc] at h
        · exfalso; simp at h; omega
        · exfalso; simp at h; omega
      have h3 : vlG b p = vlG c p := by rw [e] at h; omega
      intro r hr
      rcases Nat.lt_succ_iff_lt_or_eq.mp hr with q | q
      · exact ih.mp h3 r q
      · rw [q]; exact e
    · intro h
      rw [h1, h2, ih.mpr (fun r hr => h r (by omega)), h p (by omega)]
theorem dfT_f {N M : NT} {n : Nat} : ∀ p, dfT N M n p = false ↔ ∀ r, r < p → ob N n r = ob M n r := by
  intro p
  induction p with
  | zero => exact ⟨fun _ r h => absurd h (Nat.not_lt_zero r), fun _ => rfl⟩
  | succ p ih =>
    have e : dfT N M n (p + 1) = (dfT N M n p || (ob N n p ^^ ob M n p)) := rfl
    rw [e, Bool.or_eq_false_iff, ih]
    constructor
    · intro h r hr
      rcases Nat.lt_succ_iff_lt_or_eq.mp hr with q | q
      · exact h.1 r q
      · rw [q]; have := h.2; cases h1 : ob N n p <;> cases h2 : ob M n p <;> rw [h1, h2] at this <;> first | rfl | (exact absurd this (by decide))
    · intro h
      refine ⟨fun r hr => h r (by omega), ?_⟩
      rw [h p (by omega)]; cases ob M n p <;> rfl
/-- two nets answer alike where all their outs do -/
theorem vlN_ob {N : NT} {n : Nat} : ∀ p, p ≤ 16 → nO N ≤ p → vlN N (bt N n) (nO N) = vlG (ob N n) p := by
  intro p hp ho
  have key : ∀ q, q ≤ nO N → vlN N (bt N n) q = vlG (ob N n) q := by
    intro q
    induction q with
    | zero => intro _; rfl
    | succ q ih =>
      intro hq
      show vlN N (bt N n) q + _ = vlG (ob N n) q + _
      rw [ih (by omega), show ob N n q = bt N n (nU N q) from if_pos (by omega)]
  have k2 : ∀ d, vlG (ob N n) (nO N + d) = vlG (ob N n) (nO N) := by
    intro d
    induction d with
    | zero => rfl
    | succ d ih =>
      show vlG (ob N n) (nO N + d) + (if ob N n (nO N + d) then 2 ^ (nO N + d) else 0) = _
      have e : ob N n (nO N + d) = false := if_neg (by omega)
      rw [e, ih]; rfl
  rw [key _ (Nat.le_refl _), ← k2 (p - nO N)]
  congr 1; omega
theorem vl_df {N M : NT} (hN : WF N) (hM : WF M) {n : Nat} : vl N n = vl M n ↔ dfT N M n 16 = false := by
  have h1 := hN.o
  have h2 := hM.o
  have l1 := vlN_65 hN (b := bt N n)
  have l2 := vlN_65 hM (b := bt M n)
  rw [vl_N hN, vl_N hM, nI_eq (by omega) (by omega), vlN_ob 16 (by omega) h1, vlN_ob 16 (by omega) h2, vlG_inj, dfT_f]
theorem unS_eq {N M : NT} {K : Nat} (hK : K < 2 ^ 31) {r1 r2 : Int32} (h1 : unS N M K r1) (h2 : unS N M K r2) : r1 = r2 := by
  rcases h1 with ⟨e1, a1⟩ | ⟨n, hn, e1, a1, b1⟩ <;> rcases h2 with ⟨e2, a2⟩ | ⟨k, hk, e2, a2, b2⟩
  · rw [e1, e2]
  · have := a1 k hk; rw [a2] at this; cases this
  · have := a2 n hn; rw [a1] at this; cases this
  · rw [e1, e2]
    congr 1
    rcases Nat.lt_trichotomy n k with q | q | q
    · have := b2 n q; rw [a1] at this; cases this
    · exact q
    · have := b1 k q; rw [a2] at this; cases this
theorem dueN_lt {op h n : Nat} (hn : n < 4096) : dueN op h n < 2 ^ 25 := by
  unfold dueN
  have h1 : n % 2 ^ h ≤ n := Nat.mod_le _ _
  have h2 : n / 2 ^ h ≤ n := Nat.div_le_self _ _
  by_cases c : op = 0
  · rw [if_pos c]; omega
  · rw [if_neg c]
    have h3 : n % 2 ^ h * (n / 2 ^ h) ≤ 4095 * 4095 := Nat.mul_le_mul (by omega) (by omega)
    omega
theorem nI_subI {a b : Nat} (ha : a < 2 ^ 30) (hb : b < 2 ^ 30) : (nI a - nI b).toInt = (a : Int) - b := by
  rw [Int32.toInt_sub, nI_toInt (by omega), nI_toInt (by omega)]
  rw [Int.bmod_eq_of_le_mul_two] <;> omega
theorem gap_cs {a b : Nat} (ha : a < 2 ^ 30) (hb : b < 2 ^ 30) : (b ≤ a ∧ nI a - nI b = nI (a - b) ∧ absI (nI a - nI b) = nI (a - b)) ∨ (a < b ∧ (nI a - nI b).toInt = -((b - a : Nat) : Int) ∧ absI (nI a - nI b) = nI (b - a)) := by
  by_cases c : b ≤ a
  · left
    have e : nI a - nI b = nI (a - b) := pk_sub c
    refine ⟨c, e, ?_⟩
    rw [e]
    exact if_pos (by rw [Int32.le_iff_toInt_le, nI_toInt (by omega)]; show (0 : Int) ≤ _; omega)
  · right
    have e := nI_subI ha hb
    refine ⟨by omega, by omega, ?_⟩
    have hn : ¬ (0 : Int32) ≤ nI a - nI b := by
      rw [Int32.le_iff_toInt_le, e]; show ¬ (0 : Int) ≤ _; omega
    unfold absI
    rw [if_neg hn]
    apply Int32.toInt_inj.mp
    rw [Int32.toInt_sub, e, nI_toInt (by omega)]
    show ((0 : Int) - _).bmod _ = _
    rw [Int.bmod_eq_of_le_mul_two] <;> omega
theorem gap_N {N : NT} (hN : WF N) {op n : Nat} (hn : n < 4096) : ∃ g, gapN N op n = nI g ∧ g < 2 ^ 26 ∧ ((vl N n - nI (dueN op (nIn N / 2) n) = nI g) ∨ (0 < g ∧ (vl N n - nI (dueN op (nIn N / 2) n)).toInt = -(g : Int))) := by
  have l1 := vlN_65 hN (b := bt N n)
  have l2 := dueN_lt (op := op) (h := nIn N / 2) hn
  unfold gapN
  rw [vl_N hN]
  rcases gap_cs (a := vlN N (bt N n) (nO N)) (b := dueN op (nIn N / 2) n) (by omega) (by omega) with ⟨c, e1, e2⟩ | ⟨c, e1, e2⟩
  · exact ⟨_, e2, by omega, Or.inl e1⟩
  · exact ⟨_, e2, by omega, Or.inr ⟨by omega, e1⟩⟩
theorem gap_0 {N : NT} (hN : WF N) {op n : Nat} (hn : n < 4096) (h : ¬ 0 < gapN N op n) : gapN N op n = 0 := by
  obtain ⟨g, e, hg, -⟩ := gap_N hN (op := op) hn
  rw [e] at h ⊢
  by_cases c : g = 0
  · rw [c]; rfl
  · exact absurd (by rw [Int32.lt_iff_toInt_lt, nI_toInt (by omega)]; show (0 : Int) < _; omega) h
theorem AY_ge {N : NT} {op : Nat} : ∀ n, 0 ≤ AY N op n := by
  intro n
  induction n with
  | zero => exact Int32.le_refl _
  | succ n ih =>
    show 0 ≤ (if 0 < gapN N op n then (if AY N op n < gapN N op n then gapN N op n else AY N op n) else AY N op n)
    by_cases c : 0 < gapN N op n
    · rw [if_pos c]
      by_cases d : AY N op n < gapN N op n
      · rw [if_pos d]; exact Int32.le_of_lt c
      · rw [if_neg d]; exact ih
    · rw [if_neg c]; exact ih
theorem AV_AX {N : NT} {op : Nat} : ∀ n, n < 2 ^ 31 → (AX N op n = 0 → AV N op n = -1) ∧ (AX N op n ≠ 0 → ¬ AV N op n = -1) := by
  intro n
  induction n with
  | zero => intro _; exact ⟨fun _ => rfl, fun h => absurd rfl h⟩
  | succ n ih =>
    intro hn
    have i := ih (by omega)
    have e1 : AX N op (n + 1) = AX N op n + (if 0 < gapN N op n then 1 else 0) := rfl
    have e2 : AV N op (n + 1) = if 0 < gapN N op n then (if AX N op n = 0 then nI n else AV N op n) else AV N op n := rfl
    rw [e1, e2]
    by_cases c : 0 < gapN N op n
    · rw [if_pos c, if_pos c]
      refine ⟨fun h => by omega, fun _ => ?_⟩
      by_cases d : AX N op n = 0
      · rw [if_pos d]
        intro q
        have h1 : (nI n).toInt = ((-1 : Int32)).toInt := congrArg Int32.toInt q
        rw [nI_toInt (by omega), show ((-1 : Int32)).toInt = -1 from rfl] at h1
        omega
      · rw [if_neg d]; exact i.2 d
    · rw [if_neg c, if_neg c]; exact i
theorem rem_neg {x : Int32} {g m : Nat} (hg : g < 2 ^ 26) (hm : 1 ≤ m ∧ m ≤ 99) (h : x.toInt = -(g : Int)) : x - x / nI m * nI m = 0 ↔ nI g - nI g / nI m * nI m = 0 := by
  have d1 : (x / nI m).toInt = -((g / m : Nat) : Int) := by
    rw [Int32.toInt_div, h, nI_toInt (by omega), Int.neg_tdiv, Int.natCast_tdiv_eq_ediv, ← Int.natCast_ediv]
    have h9 : g / m ≤ g := Nat.div_le_self _ _
    generalize g / m = q at h9 ⊢
    rw [Int.bmod_eq_of_le_mul_two] <;> omega
  have hgm : g / m * m ≤ g := Nat.div_mul_le_self _ _
  have d2 : (x / nI m * nI m).toInt = -((g / m * m : Nat) : Int) := by
    rw [Int32.toInt_mul, d1, nI_toInt (by omega), Int.neg_mul, ← Int.natCast_mul]
    generalize g / m * m = q at hgm ⊢
    rw [Int.bmod_eq_of_le_mul_two] <;> omega
  have d3 : (x - x / nI m * nI m).toInt = -((g - g / m * m : Nat) : Int) := by
    rw [Int32.toInt_sub, d2, h]
    generalize g / m * m = q at hgm ⊢
    rw [Int.bmod_eq_of_le_mul_two] <;> omega
  have e : nI g - nI g / nI m * nI m = nI (g - g / m * m) := by
    rw [pk_div (by omega) (by omega) (by omega), pk_mul, pk_sub hgm]
  rw [e]
  have z1 : x - x / nI m * nI m = 0 ↔ g - g / m * m = 0 := by
    rw [← Int32.toInt_inj, d3]; show _ = (0 : Int) ↔ _; omega
  have z2 : nI (g - g / m * m) = 0 ↔ g - g / m * m = 0 := by
    rw [← Int32.toInt_inj, nI_toInt (by omega)]; show _ = (0 : Int) ↔ _; omega
  rw [z1, z2]
theorem un_X {N : NT} (hN : WF N) {op n m : Nat} (hn : n < 4096) (hm : 1 ≤ m ∧ m ≤ 99) : (vl N n - nI (dueN op (nIn N / 2) n) = 0 ↔ ¬ 0 < gapN N op n) ∧ (vl N n - nI (dueN op (nIn N / 2) n) - (vl N n - nI (dueN op (nIn N / 2) n)) / nI m * nI m = 0 ↔ gapN N op n - gapN N op n / nI m * nI m = 0) := by
  obtain ⟨g, e, hg, h | ⟨h0, h⟩⟩ := gap_N hN (op := op) hn
  · rw [e, h]
    refine ⟨?_, Iff.rfl⟩
    rw [← Int32.toInt_inj, Int32.lt_iff_toInt_lt, nI_toInt (by omega)]
    show _ = (0 : Int) ↔ ¬ (0 : Int) < _
    omega
  · rw [e]
    refine ⟨?_, rem_neg hg hm h⟩
    rw [← Int32.toInt_inj, h, Int32.lt_iff_toInt_lt, nI_toInt (by omega)]
    show _ = (0 : Int) ↔ ¬ (0 : Int) < _
    omega
theorem le_mx {x : Int32} : x ≤ nI 2147483647 := by
  rw [Int32.le_iff_toInt_le, nI_toInt (by decide)]
  have := Int32.toInt_lt x
  omega
