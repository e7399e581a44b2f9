/-! the reference: its rows lie flat; they are read off the same nets -/
abbrev FN : Type := Nat → Int32
def KF (Ns : Nat → NT) : FN := fun j => nI (nK (Ns (j / 120)) (j % 120))
def TF (Ns : Nat → NT) : FN := fun j => nT (Ns (j / 120)) (j % 120)
def UF (Ns : Nat → NT) : FN := fun j => nI (nU (Ns (j / 16)) (j % 16))
def MF (Ns : Nat → NT) : FN := fun z => nI (nG (Ns z))
def IF (Ns : Nat → NT) : FN := fun z => nI (nIn (Ns z))
def OF (Ns : Nat → NT) : FN := fun z => nI (nO (Ns z))
def FS (Ns : Nat → NT) (fs sc : FN) : Prop := ∀ z, z < 4 → ∀ k, k < 120 → k < nG (Ns z) → nK (Ns z) k ≠ 4 → fs (120 * z + k) = nI (nF (Ns z) k) ∧ sc (120 * z + k) = nI (nS (Ns z) k)
theorem upN_s {Ns : Nat → NT} {z : Nat} {N : NT} : upN Ns z N z = N := if_pos rfl
theorem upN_n {Ns : Nat → NT} {z y : Nat} {N : NT} (h : y ≠ z) : upN Ns z N y = Ns y := if_neg h
theorem upN_self {Ns : Nat → NT} {z : Nat} : upN Ns z (Ns z) = Ns := by
  funext y; unfold upN
  by_cases h : y = z
  · rw [if_pos h, h]
  · rw [if_neg h]
theorem dm {z k n : Nat} (hk : k < n) : (n * z + k) / n = z ∧ (n * z + k) % n = k := by
  constructor
  · rw [Nat.mul_add_div (by omega), Nat.div_eq_of_lt hk, Nat.add_zero]
  · rw [Nat.mul_add_mod, Nat.mod_eq_of_lt hk]
theorem KF_at {Ns : Nat → NT} {z k : Nat} (h : k < 120) : KF Ns (120 * z + k) = nI (nK (Ns z) k) := by
  unfold KF; rw [(dm h).1, (dm h).2]
theorem TF_at {Ns : Nat → NT} {z k : Nat} (h : k < 120) : TF Ns (120 * z + k) = nT (Ns z) k := by
  unfold TF; rw [(dm h).1, (dm h).2]
theorem UF_at {Ns : Nat → NT} {z k : Nat} (h : k < 16) : UF Ns (16 * z + k) = nI (nU (Ns z) k) := by
  unfold UF; rw [(dm h).1, (dm h).2]
theorem MF_U {Ns : Nat → NT} {z : Nat} {N : NT} : MF (upN Ns z N) z = nI (nG N) := by unfold MF; rw [upN_s]
theorem IF_U {Ns : Nat → NT} {z : Nat} {N : NT} : IF (upN Ns z N) z = nI (nIn N) := by unfold IF; rw [upN_s]
theorem OF_U {Ns : Nat → NT} {z : Nat} {N : NT} : OF (upN Ns z N) z = nI (nO N) := by unfold OF; rw [upN_s]
theorem MF_set {Ns : Nat → NT} {z x : Nat} {N N' : NT} (h : nG N' = x) : upd (MF (upN Ns z N)) z (nI x) = MF (upN Ns z N') := by
  funext j; unfold upd MF upN
  by_cases c : j = z
  · rw [if_pos c, if_pos c, h]
  · rw [if_neg c, if_neg c, if_neg c]
theorem IF_set {Ns : Nat → NT} {z x : Nat} {N N' : NT} (h : nIn N' = x) : upd (IF (upN Ns z N)) z (nI x) = IF (upN Ns z N') := by
  funext j; unfold upd IF upN
  by_cases c : j = z
  · rw [if_pos c, if_pos c, h]
  · rw [if_neg c, if_neg c, if_neg c]
theorem OF_set {Ns : Nat → NT} {z x : Nat} {N N' : NT} (h : nO N' = x) : upd (OF (upN Ns z N)) z (nI x) = OF (upN Ns z N') := by
  funext j; unfold upd OF upN
  by_cases c : j = z
  · rw [if_pos c, if_pos c, h]
  · rw [if_neg c, if_neg c, if_neg c]
theorem KF_set {Ns : Nat → NT} {z g x : Nat} {N N' : NT} (hg : g < 120) (h : nK N' = un (nK N) g x) : upd (KF (upN Ns z N)) (120 * z + g) (nI x) = KF (upN Ns z N') := by
  funext j; unfold upd KF upN
  by_cases c : j = 120 * z + g
  · rw [if_pos c, c, (dm hg).1, (dm hg).2, if_pos rfl, h, un_s]
  · rw [if_neg c]
    by_cases d : j / 120 = z
    · rw [if_pos d, if_pos d, h, un_n (by omega)]
    · rw [if_neg d, if_neg d]
theorem TF_set {Ns : Nat → NT} {z g : Nat} {x : Int32} {N N' : NT} (hg : g < 120) (h : nT N' = upd (nT N) g x) : upd (TF (upN Ns z N)) (120 * z + g) x = TF (upN Ns z N') := by
  funext j; unfold TF upN
  by_cases c : j = 120 * z + g
  · rw [c, pk_us, (dm hg).1, (dm hg).2, if_pos rfl, h, pk_us]
  · rw [pk_un c]
    by_cases d : j / 120 = z
    · rw [if_pos d, if_pos d, h, pk_un (by omega)]
    · rw [if_neg d, if_neg d]
theorem UF_set {Ns : Nat → NT} {z g x : Nat} {N N' : NT} (hg : g < 16) (h : nU N' = un (nU N) g x) : upd (UF (upN Ns z N)) (16 * z + g) (nI x) = UF (upN Ns z N') := by
  funext j; unfold upd UF upN
  by_cases c : j = 16 * z + g
  · rw [if_pos c, c, (dm hg).1, (dm hg).2, if_pos rfl, h, un_s]
  · rw [if_neg c]
    by_cases d : j / 16 = z
    · rw [if_pos d, if_pos d, h, un_n (by omega)]
    · rw [if_neg d, if_neg d]
theorem KF_same {Ns : Nat → NT} {z : Nat} {N N' : NT} (h : nK N' = nK N) : KF (upN Ns z N') = KF (upN Ns z N) := by
  funext j; unfold KF upN
  by_cases d : j / 120 = z
  · rw [if_pos d, if_pos d, h]
  · rw [if_neg d, if_neg d]
theorem TF_same {Ns : Nat → NT} {z : Nat} {N N' : NT} (h : nT N' = nT N) : TF (upN Ns z N') = TF (upN Ns z N) := by
  funext j; unfold TF upN
  by_cases d : j / 120 = z
  · rw [if_pos d, if_pos d, h]
  · rw [if_neg d, if_neg d]
theorem UF_same {Ns : Nat → NT} {z : Nat} {N N' : NT} (h : nU N' = nU N) : UF (upN Ns z N') = UF (upN Ns z N) := by
  funext j; unfold UF upN
  by_cases d : j / 16 = z
  · rw [if_pos d, if_pos d, h]
  · rw [if_neg d, if_neg d]
theorem MF_same {Ns : Nat → NT} {z : Nat} {N N' : NT} (h : nG N' = nG N) : MF (upN Ns z N') = MF (upN Ns z N) := by
  funext j; unfold MF upN
  by_cases d : j = z
  · rw [if_pos d, if_pos d, h]
  · rw [if_neg d, if_neg d]
theorem IF_same {Ns : Nat → NT} {z : Nat} {N N' : NT} (h : nIn N' = nIn N) : IF (upN Ns z N') = IF (upN Ns z N) := by
  funext j; unfold IF upN
  by_cases d : j = z
  · rw [if_pos d, if_pos d, h]
  · rw [if_neg d, if_neg d]
theorem OF_same {Ns : Nat → NT} {z : Nat} {N N' : NT} (h : nO N' = nO N) : OF (upN Ns z N') = OF (upN Ns z N) := by
  funext j; unfold OF upN
  by_cases d : j = z
  · rw [if_pos d, if_pos d, h]
  · rw [if_neg d, if_neg d]
theorem FS_set {Ns : Nat → NT} {z : Nat} {N N' : NT} {fs sc : FN} {x y : Int32} (h : FS (upN Ns z N) fs sc) (hg : nG N < 120) (h1 : nG N' = nG N + 1) (h2 : ∀ k, k < nG N → nK N' k = nK N k ∧ nF N' k = nF N k ∧ nS N' k = nS N k)
    (h3 : nK N' (nG N) ≠ 4 → x = nI (nF N' (nG N)) ∧ y = nI (nS N' (nG N))) : FS (upN Ns z N') (upd fs (120 * z + nG N) x) (upd sc (120 * z + nG N) y) := by
  intro r hr k h120 hk h4
  by_cases e : r = z
  · subst e
    rw [upN_s] at hk h4 ⊢
    by_cases c : k = nG N
    · subst c; rw [pk_us, pk_us]; exact h3 h4
    · have := h2 k (by omega)
      rw [pk_un (by omega), pk_un (by omega), this.2.1, this.2.2]
      have h9 := h r hr k h120
      rw [upN_s] at h9
      exact h9 (by omega) (by rw [← this.1]; exact h4)
  · rw [upN_n e] at hk h4 ⊢
    have h9 := h r hr k h120
    rw [upN_n e] at h9
    rw [pk_un (by omega), pk_un (by omega)]; exact h9 hk h4
theorem FS_G {Ns : Nat → NT} {z : Nat} {N : NT} {fs sc : FN} {kd f s : Nat} {v : Int32} (h : FS (upN Ns z N) fs sc) (hg : nG N < 120) (hv : v = nI s) : FS (upN Ns z (addG N kd f s)) (upd fs (120 * z + nG N) (nI f)) (upd sc (120 * z + nG N) v) :=
  FS_set h hg rfl (fun k hk => ⟨un_n (by omega), un_n (by omega), un_n (by omega)⟩) (fun _ => by
    rw [hv]
    show nI f = nI (un (nF N) (nG N) f (nG N)) ∧ nI s = nI (un (nS N) (nG N) s (nG N))
    rw [un_s, un_s]; exact ⟨rfl, rfl⟩)
theorem FS_I {Ns : Nat → NT} {z : Nat} {N : NT} {fs sc : FN} {x y : Int32} (h : FS (upN Ns z N) fs sc) (hg : nG N < 120) : FS (upN Ns z (addI N)) (upd fs (120 * z + nG N) x) (upd sc (120 * z + nG N) y) :=
  FS_set h hg rfl (fun k hk => ⟨un_n (by omega), un_n (by omega), un_n (by omega)⟩) (fun c => absurd (show un (nK N) (nG N) 4 (nG N) = 4 from un_s) c)
theorem FS_same {Ns : Nat → NT} {z : Nat} {N N' : NT} {fs sc : FN} (h : FS (upN Ns z N) fs sc) (h1 : nG N' = nG N) (h2 : nK N' = nK N) (h3 : nF N' = nF N) (h4 : nS N' = nS N) : FS (upN Ns z N') fs sc := by
  intro r hr k h120 hk h9
  by_cases e : r = z
  · subst e
    have h8 := h r hr k h120
    rw [upN_s] at hk h9 h8 ⊢
    rw [h3, h4]
    exact h8 (by omega) (by rw [← h2]; exact h9)
  · have h8 := h r hr k h120
    rw [upN_n e] at hk h9 h8 ⊢
    exact h8 hk h9
/-! its cells: the object at 93, its rows behind it -/
abbrev modO (a : Nat → Nat) (cy th : Int32) : va_W := [(a 93, .inr (12, [.ref (a 94), .ref (a 95), .ref (a 96), .ref (a 97), .ref (a 98), .ref (a 99), .ref (a 100), .ref (a 101), .ref (a 102), .ref (a 103), .ref (a 104), .ref (a 105), .ref (a 106), .ref (a 107), .ref (a 108), .ref (a 109), .ref (a 110), .ref (a 111), .ref (a 112), .ref (a 113), .ref (a 114), .int cy, .int th]))]
abbrev ar1 (G : GG) (a : Nat → Nat) (i n : Nat) (f : FN) : va_W := [(a i, .inl (gI G, n, .inl f))]
abbrev sixW (G : GG) (a : Nat → Nat) (Ns : Nat → NT) (fs sc : FN) : va_W := ar1 G a 94 480 (KF Ns) ++ (ar1 G a 95 480 fs ++ (ar1 G a 96 480 sc ++ (ar1 G a 97 480 (TF Ns) ++ (ar1 G a 98 4 (MF Ns) ++ ar1 G a 99 4 (IF Ns)))))
abbrev twoW (G : GG) (a : Nat → Nat) (Ns : Nat → NT) : va_W := ar1 G a 100 64 (UF Ns) ++ ar1 G a 101 4 (OF Ns)
theorem six_same {G : GG} {a : Nat → Nat} {Ns : Nat → NT} {z : Nat} {N N' : NT} {fs sc : FN} {H : Heap} (h : PP G (sixW G a (upN Ns z N) fs sc) H) (h1 : nG N' = nG N) (h2 : nIn N' = nIn N) (h3 : nK N' = nK N) (h4 : nT N' = nT N) : PP G (sixW G a (upN Ns z N') fs sc) H := by
  unfold sixW
  rw [KF_same h3, TF_same h4, MF_same h1, IF_same h2]; exact h
theorem two_same {G : GG} {a : Nat → Nat} {Ns : Nat → NT} {z : Nat} {N N' : NT} {H : Heap} (h : PP G (twoW G a (upN Ns z N)) H) (h1 : nO N' = nO N) (h2 : nU N' = nU N) : PP G (twoW G a (upN Ns z N')) H := by
  unfold twoW
  rw [UF_same h2, OF_same h1]; exact h
theorem isIn_0 {x : Int32} {n : Nat} (hn : n + 1 < 2 ^ 31) : (¬ x < nI 0 ∧ x ≤ nI n) ↔ inBd x (n + 1) := by
  constructor
  · exact fun h => ⟨h.1, le_S hn h.2⟩
  · exact fun h => ⟨h.1, Int32.not_lt.mp (fun c => by
      have a1 := Int32.lt_iff_toInt_lt.mp c
      have a2 := Int32.lt_iff_toInt_lt.mp h.2
      rw [nI_toInt (by omega)] at a1
      rw [nI_toInt hn] at a2
      omega)⟩
/-- a gate of a net, told with one less than how many there are -/
theorem isIn_g {x : Int32} {n : Nat} (hn : n < 2 ^ 30) : (¬ x < nI 0 ∧ x ≤ nI n - nI 1) ↔ inBd x n := by
  cases n with
  | zero =>
    constructor
    · intro h
      exfalso
      apply h.1
      refine Int32.lt_of_le_of_lt h.2 ?_
      decide
    · intro h
      exact absurd h.2 h.1
  | succ m =>
    rw [show nI (m + 1) - nI 1 = nI m from nI_pred m]
    exact isIn_0 (by omega)
