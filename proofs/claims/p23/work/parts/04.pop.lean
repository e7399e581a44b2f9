/-! counting bits: by bytes -/
def popN (X : Nat) : Nat → Nat
  | 0 => 0
  | n + 1 => popN X n + (if X.testBit n then 1 else 0)
def pc8 (b : Nat) : Nat := b % 2 + b / 2 % 2 + b / 4 % 2 + b / 8 % 2 + b / 16 % 2 + b / 32 % 2 + b / 64 % 2 + b / 128 % 2
theorem popN_add (X m : Nat) : ∀ n, popN X (m + n) = popN X m + popN (X / 2 ^ m) n := by
  intro n
  induction n with
  | zero => rfl
  | succ n ih =>
    show popN X (m + n) + _ = popN X m + (popN (X / 2 ^ m) n + _)
    rw [ih, Nat.testBit_div_two_pow, Nat.add_comm n m, Nat.add_assoc]
    rfl
theorem tb_mod (X n : Nat) : (if X.testBit n then 1 else 0) = X / 2 ^ n % 2 := by
  rw [Nat.testBit_eq_decide_div_mod_eq]
  rcases Nat.mod_two_eq_zero_or_one (X / 2 ^ n) with h | h <;> simp [h]
theorem popN_8 (X : Nat) : popN X 8 = pc8 X := by
  simp only [popN, tb_mod, pc8]
  simp
theorem and_cons {u v p q : Nat} (hu : u < 256) (hp : p < 256) : (u + 256 * v) &&& (p + 256 * q) = (u &&& p) + 256 * (v &&& q) := by
  have h1 : ((u + 256 * v) &&& (p + 256 * q)) % 2 ^ 8 = u &&& p := by
    rw [Nat.and_mod_two_pow]
    congr 1 <;> omega
  have h2 : ((u + 256 * v) &&& (p + 256 * q)) / 2 ^ 8 = v &&& q := by
    rw [Nat.and_div_two_pow]
    congr 1 <;> omega
  omega
def m5 : Nat → Nat
  | 0 => 0
  | n + 1 => 85 + 256 * m5 n
def m3 : Nat → Nat
  | 0 => 0
  | n + 1 => 51 + 256 * m3 n
def m0 : Nat → Nat
  | 0 => 0
  | n + 1 => 15 + 256 * m0 n
def f1 (n X : Nat) : Nat := X - ((X / 2) &&& m5 n)
def f2 (n X : Nat) : Nat := (X &&& m3 n) + ((X / 4) &&& m3 n)
def f3 (n X : Nat) : Nat := (X + X / 16) &&& m0 n
def g1 (b : Nat) : Nat := b - ((b / 2) &&& 85)
def g2 (b : Nat) : Nat := (b &&& 51) + ((b / 4) &&& 51)
def g3 (b : Nat) : Nat := b % 16 + b / 16
def pcs : Nat → Nat → Nat
  | 0, _ => 0
  | n + 1, X => pc8 (X % 256) + 256 * pcs n (X / 256)
theorem g1_fact : ∀ b, b < 256 → ∀ y, y < 2 → ((b / 2 + 128 * y) &&& 85) = (b / 2) &&& 85 ∧ ((b / 2) &&& 85) ≤ b := by decide +kernel
theorem g2_fact : ∀ b, b < 256 → ∀ y, y < 4 → ((b / 4 + 64 * y) &&& 51) = (b / 4) &&& 51 := by decide +kernel
theorem gs_fact : ∀ b, b < 256 → g1 b < 256 ∧ g2 (g1 b) < 256 ∧ g2 (g1 b) % 16 ≤ 4 ∧ g2 (g1 b) / 16 ≤ 4 ∧ g3 (g2 (g1 b)) = pc8 b := by decide +kernel
theorem g3_fact : ∀ z, z < 256 → z &&& 15 = z % 16 := by decide +kernel
theorem f1_le (n : Nat) : ∀ X, X < 256 ^ n → ((X / 2) &&& m5 n) ≤ X := by
  induction n with
  | zero => intro X _; show (X / 2 &&& 0) ≤ X; rw [Nat.and_zero]; exact Nat.zero_le _
  | succ n ih =>
    intro X hX
    have hX2 : X / 256 < 256 ^ n := by rw [Nat.pow_succ] at hX; omega
    have h := ih _ hX2
    have e : X / 2 = (X % 256 / 2 + 128 * (X / 256 % 2)) + 256 * (X / 256 / 2) := by omega
    show (X / 2 &&& (85 + 256 * m5 n)) ≤ X
    rw [e, and_cons (by omega) (by omega)]
    have h9 := g1_fact (X % 256) (by omega) (X / 256 % 2) (by omega)
    rw [h9.1]
    have := h9.2
    omega
theorem f1_s (n X : Nat) (hX : X < 256 ^ (n + 1)) : f1 (n + 1) X = g1 (X % 256) + 256 * f1 n (X / 256) := by
  have hX2 : X / 256 < 256 ^ n := by rw [Nat.pow_succ] at hX; omega
  have h := f1_le n _ hX2
  have e : X / 2 = (X % 256 / 2 + 128 * (X / 256 % 2)) + 256 * (X / 256 / 2) := by omega
  have h9 := g1_fact (X % 256) (by omega) (X / 256 % 2) (by omega)
  have k : (X / 2 &&& m5 (n + 1)) = (X % 256 / 2 &&& 85) + 256 * (X / 256 / 2 &&& m5 n) := by
    show (X / 2 &&& (85 + 256 * m5 n)) = _
    rw [e, and_cons (by omega) (by omega), h9.1]
  unfold f1 g1
  rw [k]
  have := h9.2
  omega
theorem f2_s (n X : Nat) : f2 (n + 1) X = g2 (X % 256) + 256 * f2 n (X / 256) := by
  have e4 : X / 4 = (X % 256 / 4 + 64 * (X / 256 % 4)) + 256 * (X / 256 / 4) := by omega
  have e0 : X = X % 256 + 256 * (X / 256) := by omega
  have h9 := g2_fact (X % 256) (by omega) (X / 256 % 4) (by omega)
  have k1 : (X / 4 &&& m3 (n + 1)) = (X % 256 / 4 &&& 51) + 256 * (X / 256 / 4 &&& m3 n) := by
    show (X / 4 &&& (51 + 256 * m3 n)) = _
    rw [e4, and_cons (by omega) (by omega), h9]
  have k2 : (X &&& m3 (n + 1)) = (X % 256 &&& 51) + 256 * (X / 256 &&& m3 n) := by
    show (X &&& (51 + 256 * m3 n)) = _
    rw [show (X &&& (51 + 256 * m3 n)) = ((X % 256 + 256 * (X / 256)) &&& (51 + 256 * m3 n)) by rw [← e0], and_cons (by omega) (by omega)]
  unfold f2 g2
  rw [k1, k2]
  omega
theorem f3_s (n X : Nat) (h1 : X % 16 ≤ 4) (h2 : X / 16 % 16 ≤ 4) (h3 : X / 256 % 16 ≤ 4) : f3 (n + 1) X = g3 (X % 256) + 256 * f3 n (X / 256) := by
  have e : X + X / 16 = (X % 256 + X % 256 / 16 + 16 * (X / 256 % 16)) + 256 * (X / 256 + X / 256 / 16) := by omega
  have hl : X % 256 + X % 256 / 16 + 16 * (X / 256 % 16) < 256 := by omega
  unfold f3 g3
  show (X + X / 16) &&& (15 + 256 * m0 n) = _
  rw [e, and_cons hl (by omega), g3_fact _ hl]
  have e3 : (X % 256 + X % 256 / 16 + 16 * (X / 256 % 16)) % 16 = X % 256 % 16 + X % 256 / 16 := by
    rw [show X % 256 + X % 256 / 16 + 16 * (X / 256 % 16) = 16 * (X % 256 / 16 + X / 256 % 16) + (X % 256 % 16 + X % 256 / 16) by omega, Nat.mul_add_mod, Nat.mod_eq_of_lt (by omega)]
  rw [e3]
theorem f123 (n : Nat) : ∀ X, X < 256 ^ n → f3 n (f2 n (f1 n X)) = pcs n X ∧ f2 n (f1 n X) % 16 ≤ 4 ∧ f1 n X < 256 ^ n ∧ f2 n (f1 n X) < 256 ^ n := by
  induction n with
  | zero =>
    intro X hX
    have : X = 0 := by have : (256:Nat) ^ 0 = 1 := rfl; omega
    subst this
    decide
  | succ n ih =>
    intro X hX
    have hX2 : X / 256 < 256 ^ n := by rw [Nat.pow_succ] at hX; omega
    obtain ⟨i1, i2, i3, i4⟩ := ih _ hX2
    obtain ⟨q1, q2, q3, q4, q5⟩ := gs_fact (X % 256) (by omega)
    rw [f1_s n X hX]
    have a1 : (g1 (X % 256) + 256 * f1 n (X / 256)) % 256 = g1 (X % 256) := by omega
    have a2 : (g1 (X % 256) + 256 * f1 n (X / 256)) / 256 = f1 n (X / 256) := by omega
    rw [f2_s n, a1, a2]
    have b1 : (g2 (g1 (X % 256)) + 256 * f2 n (f1 n (X / 256))) % 256 = g2 (g1 (X % 256)) := by omega
    have b2 : (g2 (g1 (X % 256)) + 256 * f2 n (f1 n (X / 256))) / 256 = f2 n (f1 n (X / 256)) := by omega
    rw [f3_s n _ (by omega) (by omega) (by rw [b2]; exact i2), b1, b2, i1, q5]
    refine ⟨rfl, by omega, ?_, ?_⟩ <;> rw [Nat.pow_succ] <;> omega
/-- the whole count -/
theorem pc8_le (b : Nat) : pc8 b ≤ 8 := by unfold pc8; omega
theorem pc8_mod (b : Nat) : pc8 (b % 256) = pc8 b := by unfold pc8; omega
theorem popN_64 (X : Nat) : popN X 64 = pc8 X + pc8 (X / 256) + pc8 (X / 256 / 256) + pc8 (X / 256 / 256 / 256) + pc8 (X / 256 / 256 / 256 / 256) + pc8 (X / 256 / 256 / 256 / 256 / 256) + pc8 (X / 256 / 256 / 256 / 256 / 256 / 256) + pc8 (X / 256 / 256 / 256 / 256 / 256 / 256 / 256) := by
  rw [show (64 : Nat) = 8 + 56 from rfl, popN_add, show (56 : Nat) = 8 + 48 from rfl, popN_add, show (48 : Nat) = 8 + 40 from rfl, popN_add, show (40 : Nat) = 8 + 32 from rfl, popN_add, show (32 : Nat) = 8 + 24 from rfl, popN_add, show (24 : Nat) = 8 + 16 from rfl, popN_add, show (16 : Nat) = 8 + 8 from rfl, popN_add]
  simp only [popN_8, show (2 : Nat) ^ 8 = 256 from rfl]
  omega
/-- Long.bitCount, step by step -/
def bc1 (x : Int64) : Int64 := x - (lushr_ x (nI 1) &&& 6148914691236517205)
def bc2 (x : Int64) : Int64 := (x &&& 3689348814741910323) + (lushr_ x (nI 2) &&& 3689348814741910323)
def bc3 (x : Int64) : Int64 := (x + lushr_ x (nI 4)) &&& 1085102592571150095
def bc4 (x : Int64) : Int64 := x + lushr_ x (nI 8)
def bc5 (x : Int64) : Int64 := x + lushr_ x (nI 16)
def bc6 (x : Int64) : Int64 := x + lushr_ x (nI 32)
def bcW (x : Int64) : Int32 := (bc6 (bc5 (bc4 (bc3 (bc2 (bc1 x)))))).toInt32 &&& nI 127
def uNl (x : Int64) : Nat := x.toBitVec.toNat
theorem uNl_lt (x : Int64) : uNl x < 18446744073709551616 := x.toBitVec.isLt
theorem uNl_shr {x : Int64} {k : Nat} (hk : k < 64) : uNl (lushr_ x (nI k)) = uNl x / 2 ^ k := by
  unfold uNl
  rw [lushr_bv hk, BitVec.toNat_ushiftRight, Nat.shiftRight_eq_div_pow]
theorem uNl_and {x y : Int64} : uNl (x &&& y) = uNl x &&& uNl y := by
  unfold uNl
  rw [Int64.toBitVec_and, BitVec.toNat_and]
theorem uNl_add {x y : Int64} (h : uNl x + uNl y < 18446744073709551616) : uNl (x + y) = uNl x + uNl y := by
  unfold uNl at h ⊢
  rw [Int64.toBitVec_add, BitVec.toNat_add]
  exact Nat.mod_eq_of_lt h
theorem uNl_sub {x y : Int64} (h : uNl y ≤ uNl x) : uNl (x - y) = uNl x - uNl y := by
  have hx := uNl_lt x
  have hy := uNl_lt y
  unfold uNl at h hx hy ⊢
  rw [Int64.toBitVec_sub, BitVec.toNat_sub]
  omega
theorem pcs_8 (X : Nat) : pcs 8 X = pc8 X + 256 * (pc8 (X / 256) + 256 * (pc8 (X / 256 / 256) + 256 * (pc8 (X / 256 / 256 / 256) + 256 * (pc8 (X / 256 / 256 / 256 / 256) + 256 * (pc8 (X / 256 / 256 / 256 / 256 / 256) + 256 * (pc8 (X / 256 / 256 / 256 / 256 / 256 / 256) + 256 * pc8 (X / 256 / 256 / 256 / 256 / 256 / 256 / 256))))))) := by
  simp only [pcs, pc8_mod]
  omega
theorem fold8 {c0 c1 c2 c3 c4 c5 c6 c7 y3 y4 y5 y6 : Nat} (p0 : c0 ≤ 8) (p1 : c1 ≤ 8) (p2 : c2 ≤ 8) (p3 : c3 ≤ 8) (p4 : c4 ≤ 8) (p5 : c5 ≤ 8) (p6 : c6 ≤ 8) (p7 : c7 ≤ 8)
    (e3 : y3 = c0 + 256 * (c1 + 256 * (c2 + 256 * (c3 + 256 * (c4 + 256 * (c5 + 256 * (c6 + 256 * c7))))))) (e4 : y4 = y3 + y3 / 2 ^ 8) (e5 : y5 = y4 + y4 / 2 ^ 16) (e6 : y6 = y5 + y5 / 2 ^ 32) : y6 % 128 = c0 + c1 + c2 + c3 + c4 + c5 + c6 + c7 := by
  have d3 : y3 / 2 ^ 8 = c1 + 256 * c2 + 65536 * c3 + 16777216 * c4 + 4294967296 * c5 + 1099511627776 * c6 + 281474976710656 * c7 := by clear e4 e5 e6; omega
  rw [d3] at e4
  have f4 : y4 = (c0 + c1) + 256 * (c1 + c2) + 65536 * (c2 + c3) + 16777216 * (c3 + c4) + 4294967296 * (c4 + c5) + 1099511627776 * (c5 + c6) + 281474976710656 * (c6 + c7) + 72057594037927936 * c7 := by clear e5 e6 d3; omega
  clear e3 e4 d3
  have d4 : y4 / 2 ^ 16 = (c2 + c3) + 256 * (c3 + c4) + 65536 * (c4 + c5) + 16777216 * (c5 + c6) + 4294967296 * (c6 + c7) + 1099511627776 * c7 := by clear e5 e6; omega
  rw [d4] at e5
  have f5 : y5 = (c0 + c1 + c2 + c3) + 256 * (c1 + c2 + c3 + c4) + 65536 * (c2 + c3 + c4 + c5) + 16777216 * (c3 + c4 + c5 + c6) + 4294967296 * (c4 + c5 + c6 + c7) + 1099511627776 * (c5 + c6 + c7) + 281474976710656 * (c6 + c7) + 72057594037927936 * c7 := by clear e6 d4; omega
  clear f4 e5 d4
  have d5 : y5 / 2 ^ 32 = (c4 + c5 + c6 + c7) + 256 * (c5 + c6 + c7) + 65536 * (c6 + c7) + 16777216 * c7 := by clear e6; omega
  rw [d5] at e6
  clear d5
  have f6 : y6 = (c0 + c1 + c2 + c3 + c4 + c5 + c6 + c7) + 128 * (2 * ((c1 + c2 + c3 + c4) + (c5 + c6 + c7)) + 512 * ((c2 + c3 + c4 + c5) + (c6 + c7)) + 131072 * ((c3 + c4 + c5 + c6) + c7) + 33554432 * (c4 + c5 + c6 + c7) + 8589934592 * (c5 + c6 + c7) + 2199023255552 * (c6 + c7) + 562949953421312 * c7) := by omega
  rw [f6, Nat.add_mul_mod_self_left, Nat.mod_eq_of_lt (by omega)]
theorem bc_pop (x : Int64) : bcW x = nI (popN (uNl x) 64) := by
  have hX := uNl_lt x
  have hX' : uNl x < 256 ^ 8 := hX
  obtain ⟨i1, -, i3, i4⟩ := f123 8 (uNl x) hX'
  have e1 : uNl (bc1 x) = f1 8 (uNl x) := by
    unfold bc1
    have k : uNl (lushr_ x (nI 1) &&& 6148914691236517205) = (uNl x / 2) &&& m5 8 := by
      rw [uNl_and, uNl_shr (by omega)]; rfl
    rw [uNl_sub (by rw [k]; exact f1_le 8 _ hX'), k]; rfl
  have e2 : uNl (bc2 (bc1 x)) = f2 8 (f1 8 (uNl x)) := by
    unfold bc2
    have k1 : uNl (bc1 x &&& 3689348814741910323) = f1 8 (uNl x) &&& m3 8 := by rw [uNl_and, e1]; rfl
    have k2 : uNl (lushr_ (bc1 x) (nI 2) &&& 3689348814741910323) = (f1 8 (uNl x) / 4) &&& m3 8 := by rw [uNl_and, uNl_shr (by omega), e1]; rfl
    have i4' : (f1 8 (uNl x) &&& m3 8) + ((f1 8 (uNl x) / 4) &&& m3 8) < 18446744073709551616 := i4
    rw [uNl_add (by rw [k1, k2]; exact i4'), k1, k2]; rfl
  have e3 : uNl (bc3 (bc2 (bc1 x))) = pcs 8 (uNl x) := by
    unfold bc3
    have hb : f2 8 (f1 8 (uNl x)) ≤ 9838263505978427528 := by
      have h1 : ∀ Y : Nat, Y &&& m3 8 ≤ m3 8 := fun Y => Nat.and_le_right
      have h2 := h1 (f1 8 (uNl x))
      have h3 := h1 (f1 8 (uNl x) / 4)
      have h4 : m3 8 = 3689348814741910323 := rfl
      show (f1 8 (uNl x) &&& m3 8) + ((f1 8 (uNl x) / 4) &&& m3 8) ≤ _
      omega
    rw [uNl_and, uNl_add (by rw [uNl_shr (by omega), e2]; omega), uNl_shr (by omega), e2, ← i1]; rfl
  have e3' := e3.trans (pcs_8 _)
  have p0 := pc8_le (uNl x)
  have p1 := pc8_le (uNl x / 256)
  have p2 := pc8_le (uNl x / 256 / 256)
  have p3 := pc8_le (uNl x / 256 / 256 / 256)
  have p4 := pc8_le (uNl x / 256 / 256 / 256 / 256)
  have p5 := pc8_le (uNl x / 256 / 256 / 256 / 256 / 256)
  have p6 := pc8_le (uNl x / 256 / 256 / 256 / 256 / 256 / 256)
  have p7 := pc8_le (uNl x / 256 / 256 / 256 / 256 / 256 / 256 / 256)
  rw [popN_64]
  generalize pc8 (uNl x) = c0 at *
  generalize pc8 (uNl x / 256) = c1 at *
  generalize pc8 (uNl x / 256 / 256) = c2 at *
  generalize pc8 (uNl x / 256 / 256 / 256) = c3 at *
  generalize pc8 (uNl x / 256 / 256 / 256 / 256) = c4 at *
  generalize pc8 (uNl x / 256 / 256 / 256 / 256 / 256) = c5 at *
  generalize pc8 (uNl x / 256 / 256 / 256 / 256 / 256 / 256) = c6 at *
  generalize pc8 (uNl x / 256 / 256 / 256 / 256 / 256 / 256 / 256) = c7 at *
  have e4 : uNl (bc4 (bc3 (bc2 (bc1 x)))) = uNl (bc3 (bc2 (bc1 x))) + uNl (bc3 (bc2 (bc1 x))) / 2 ^ 8 := by
    unfold bc4
    rw [uNl_add (by rw [uNl_shr (by omega)]; omega), uNl_shr (by omega)]
  have e5 : uNl (bc5 (bc4 (bc3 (bc2 (bc1 x))))) = uNl (bc4 (bc3 (bc2 (bc1 x)))) + uNl (bc4 (bc3 (bc2 (bc1 x)))) / 2 ^ 16 := by
    unfold bc5
    rw [uNl_add (by rw [uNl_shr (by omega)]; omega), uNl_shr (by omega)]
  have e6 : uNl (bc6 (bc5 (bc4 (bc3 (bc2 (bc1 x)))))) = uNl (bc5 (bc4 (bc3 (bc2 (bc1 x))))) + uNl (bc5 (bc4 (bc3 (bc2 (bc1 x))))) / 2 ^ 32 := by
    unfold bc6
    rw [uNl_add (by rw [uNl_shr (by omega)]; omega), uNl_shr (by omega)]
  have hlow : uNl (bc6 (bc5 (bc4 (bc3 (bc2 (bc1 x)))))) % 128 = c0 + c1 + c2 + c3 + c4 + c5 + c6 + c7 := fold8 p0 p1 p2 p3 p4 p5 p6 p7 e3' e4 e5 e6
  unfold bcW
  generalize bc6 (bc5 (bc4 (bc3 (bc2 (bc1 x))))) = z at hlow ⊢
  rw [← hlow]
  apply Int32.toBitVec_inj.mp
  rw [Int32.toBitVec_and]
  apply BitVec.eq_of_toNat_eq
  rw [BitVec.toNat_and]
  have hz : z.toInt32.toBitVec.toNat = uNl z % 4294967296 := by
    rw [Int64.toBitVec_toInt32, BitVec.signExtend_eq_setWidth_of_le _ (by decide), BitVec.toNat_setWidth, show (2 : Nat) ^ 32 = 4294967296 from rfl, uNl]
  rw [hz, show (nI 127).toBitVec.toNat = 2 ^ 7 - 1 from rfl, Nat.and_two_pow_sub_one_eq_mod]
  have h128 : uNl z % 4294967296 % 2 ^ 7 = uNl z % 128 := by omega
  rw [h128]
  show _ = (BitVec.ofNat 32 (uNl z % 128)).toNat
  rw [BitVec.toNat_ofNat]
  omega
