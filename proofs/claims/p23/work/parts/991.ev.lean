/-! nets by certificates: what a closed net answers, out of tables that are checked gate by gate -/
def allU (f : Nat → Bool) : Nat → Bool
  | 0 => true
  | n + 1 => f n && allU f n
theorem allU_at {f : Nat → Bool} : ∀ {n k : Nat}, allU f n = true → k < n → f k = true := by
  intro n
  induction n with
  | zero => intro k _ h; exact absurd h (Nat.not_lt_zero _)
  | succ n ih =>
    intro k h hk
    have h2 : (f n && allU f n) = true := h
    rw [Bool.and_eq_true] at h2
    by_cases e : k = n
    · rw [e]; exact h2.1
    · exact ih h2.2 (by omega)
theorem allU_eq {f g : Nat → Nat} {n k : Nat} (h : allU (fun k => Nat.beq (f k) (g k)) n = true) (hk : k < n) : f k = g k := by
  have h2 := allU_at h hk
  exact Nat.eq_of_beq_eq_true h2
theorem and2 {x y : Bool} (h : (x && y) = true) : x = true ∧ y = true := by
  rw [Bool.and_eq_true] at h; exact h
/-- a net's gates (kind, sources, stuck: 0 not, 1 at 0, 2 at 1) and outs -/
abbrev KN : Type := List (Nat × Nat × Nat × Nat) × List Nat
def gK (K : KN) (k : Nat) : Nat × Nat × Nat × Nat := K.1.getD k (0, 0, 0, 0)
def kK (K : KN) (k : Nat) : Nat := (gK K k).1
def kF (K : KN) (k : Nat) : Nat := (gK K k).2.1
def kS (K : KN) (k : Nat) : Nat := (gK K k).2.2.1
def kT (K : KN) (k : Nat) : Nat := (gK K k).2.2.2
def kU (K : KN) (p : Nat) : Nat := K.2.getD p 0
def sC (t : Int32) : Nat := if t = -1 then 0 else if t = 0 then 1 else 2
def rpB (N : NT) (K : KN) (n o : Nat) : Bool := Nat.beq (nG N) n && (Nat.beq (nO N) o && (allU (fun k => Nat.beq (nK N k) (kK K k) && (Nat.beq (nF N k) (kF K k) && (Nat.beq (nS N k) (kS K k) && Nat.beq (sC (nT N k)) (kT K k)))) n && allU (fun p => Nat.beq (nU N p) (kU K p)) o))
def Rp (N : NT) (K : KN) (n o : Nat) : Prop := nG N = n ∧ nO N = o ∧ (∀ k, k < n → nK N k = kK K k ∧ nF N k = kF K k ∧ nS N k = kS K k ∧ sC (nT N k) = kT K k) ∧ (∀ p, p < o → nU N p = kU K p)
theorem rp_ct {N : NT} {K : KN} {n o : Nat} (h : rpB N K n o = true) : Rp N K n o := by
  obtain ⟨h1, h⟩ := and2 h
  obtain ⟨h2, h⟩ := and2 h
  obtain ⟨h3, h4⟩ := and2 h
  refine ⟨Nat.eq_of_beq_eq_true h1, Nat.eq_of_beq_eq_true h2, fun k hk => ?_, fun p hp => allU_eq h4 hp⟩
  have a0 := allU_at h3 hk
  obtain ⟨a1, a⟩ := and2 a0
  obtain ⟨a2, a⟩ := and2 a
  obtain ⟨a3, a4⟩ := and2 a
  exact ⟨Nat.eq_of_beq_eq_true a1, Nat.eq_of_beq_eq_true a2, Nat.eq_of_beq_eq_true a3, Nat.eq_of_beq_eq_true a4⟩
section CT
variable {N : NT} {K : KN} {n o : Nat} {dl : Nat → Nat}
theorem Rp.k (h : Rp N K n o) {k : Nat} (hk : k < nG N) : nK N k = kK K k := (h.2.2.1 k (by rw [← h.1]; exact hk)).1
theorem Rp.f (h : Rp N K n o) {k : Nat} (hk : k < nG N) : nF N k = kF K k := (h.2.2.1 k (by rw [← h.1]; exact hk)).2.1
theorem Rp.s (h : Rp N K n o) {k : Nat} (hk : k < nG N) : nS N k = kS K k := (h.2.2.1 k (by rw [← h.1]; exact hk)).2.2.1
theorem Rp.t (h : Rp N K n o) {k : Nat} (hk : k < nG N) : sC (nT N k) = kT K k := (h.2.2.1 k (by rw [← h.1]; exact hk)).2.2.2
theorem Rp.u (h : Rp N K n o) {p : Nat} (hp : p < nO N) : nU N p = kU K p := h.2.2.2 p (by rw [← h.2.1]; exact hp)
theorem sC_0 {t : Int32} (h : sC t = 0) : t = -1 := by
  unfold sC at h
  by_cases c : t = -1
  · exact c
  · rw [if_neg c] at h
    by_cases d : t = 0
    · rw [if_pos d] at h; exact absurd h (by decide)
    · rw [if_neg d] at h; exact absurd h (by decide)
theorem sC_n {t : Int32} {x : Nat} (h : sC t = x) (hx : x ≠ 0) : ¬ t = -1 := fun c => hx (by rw [← h, c]; rfl)
theorem sC_1 {t : Int32} {x : Nat} (h : sC t = x) (ht : t = -1 ∨ t = 0 ∨ t = 1) : decide (t = 1) = Nat.beq x 2 := by
  subst h
  rcases ht with e | e | e <;> rw [e] <;> decide
/-! times -/
def tmB (K : KN) (n : Nat) (dl : Nat → Nat) (T : List Nat) : Bool := allU (fun k => Nat.beq (T.getD k 0) (if kK K k = 4 then 0 else dl (kK K k) + max (T.getD (kF K k) 0) (T.getD (kS K k) 0))) n
theorem tm_ct {T : List Nat} (hN : WF N) (hR : Rp N K n o) (h : tmB K n dl T = true) : ∀ m k, k < m → k < nG N → tm N dl k = T.getD k 0 := by
  intro m
  induction m with
  | zero => intro k hk; exact absurd hk (Nat.not_lt_zero _)
  | succ m ih =>
    intro k hkm hk
    have hkn : k < n := by rw [← hR.1]; exact hk
    have hc := allU_eq h hkn
    rw [← hR.k hk, ← hR.f hk, ← hR.s hk] at hc
    by_cases h4 : nK N k = 4
    · rw [tm_in h4, hc, if_pos h4]
    · have hfs := hN.fs hk h4
      rw [tm_gt hN hk h4, hc, if_neg h4, ih _ (by omega) (by omega), ih _ (by omega) (by omega)]
def mxL (T : List Nat) : Nat → Nat
  | 0 => 0
  | k + 1 => max (mxL T k) (T.getD k 0)
theorem mxT_ct {T : List Nat} (h : ∀ k, k < nG N → tm N dl k = T.getD k 0) : ∀ m, m ≤ nG N → mxT N dl m = mxL T m := by
  intro m
  induction m with
  | zero => intro _; rfl
  | succ m ih =>
    intro hm
    show max _ _ = max _ _
    rw [ih (by omega), h m (by omega)]
def bsK (K : KN) (T : List Nat) (p : Nat) : Option Nat → Option Nat
  | none => some (kU K p)
  | some g => if T.getD g 0 < T.getD (kU K p) 0 then some (kU K p) else some g
def bstK (K : KN) (T : List Nat) : Nat → Option Nat
  | 0 => none
  | p + 1 => bsK K T p (bstK K T p)
theorem bst_ct {T : List Nat} {t : Nat → Nat} (hN : WF N) (hR : Rp N K n o) (h : ∀ k, k < nG N → t k = T.getD k 0) : ∀ p, p ≤ nO N → bst N t p = bstK K T p := by
  intro p
  induction p with
  | zero => intro _; rfl
  | succ p ih =>
    intro hp
    show bsS N t p (bst N t p) = bsK K T p (bstK K T p)
    rw [← ih (by omega)]
    cases hb : bst N t p with
    | none => show some (nU N p) = some (kU K p); rw [hR.u (by omega)]
    | some g =>
      have hg := bst_lt hN p (by omega) g hb
      show (if t g < t (nU N p) then some (nU N p) else some g) = (if T.getD g 0 < T.getD (kU K p) 0 then some (kU K p) else some g)
      rw [h g hg, h _ (hN.u (by omega)), hR.u (by omega)]
def dlK (K : KN) (T : List Nat) (o : Nat) : Nat := match bstK K T o with
  | none => 0
  | some g => T.getD g 0
theorem dlN_ct {T : List Nat} {t : Nat → Nat} (hN : WF N) (hR : Rp N K n o) (h : ∀ k, k < nG N → t k = T.getD k 0) : dlN N t = dlK K T o := by
  unfold dlN dlK
  have e := bst_ct hN hR h (nO N) (Nat.le_refl _)
  rw [hR.2.1] at e
  rw [hR.2.1, ← e]
  cases hb : bst N t o with
  | none => rfl
  | some g => exact h g (bst_lt hN o (by rw [hR.2.1]; exact Nat.le_refl _) g hb)
/-! the slowest path, told gate by gate -/
def nxK (K : KN) (dl : Nat → Nat) (T : List Nat) (k : Nat) : Option Nat := if kK K k = 4 then none else some (if T.getD (kF K k) 0 + dl (kK K k) = T.getD k 0 then kF K k else kS K k)
theorem nx_ct {T : List Nat} (hN : WF N) (hR : Rp N K n o) (h : ∀ k, k < nG N → tm N dl k = T.getD k 0) {k : Nat} (hk : k < nG N) : nxt N dl (tm N dl) k = nxK K dl T k := by
  unfold nxt nxK
  rw [← hR.k hk, ← hR.f hk, ← hR.s hk]
  by_cases h4 : nK N k = 4
  · rw [if_pos h4, if_pos h4]
  · have hfs := hN.fs hk h4
    rw [if_neg h4, if_neg h4, h (nF N k) (by omega), h k hk]
def pthB (K : KN) (n o : Nat) (dl : Nat → Nat) (T P : List Nat) (z : Nat) : Bool := decide (bstK K T o = P[0]?) && (Nat.beq P.length z && allU (fun i => Nat.blt (P.getD i 0) n && decide (nxK K dl T (P.getD i 0) = P[i + 1]?)) z)
theorem pt_ct {T P : List Nat} {z : Nat} (hN : WF N) (hR : Rp N K n o) (h : ∀ k, k < nG N → tm N dl k = T.getD k 0) (hp : pthB K n o dl T P z = true) : ∀ m, pt N dl m = P[m]? := by
  obtain ⟨p0, hp⟩ := and2 hp
  obtain ⟨pz, hp⟩ := and2 hp
  have pz := Nat.eq_of_beq_eq_true pz
  intro m
  induction m with
  | zero =>
    show bst N (tm N dl) (nO N) = _
    rw [bst_ct hN hR h _ (Nat.le_refl _), hR.2.1]
    exact of_decide_eq_true p0
  | succ m ih =>
    show (pt N dl m).bind (fun k => nxt N dl (tm N dl) k) = _
    rw [ih]
    by_cases c : m < z
    · have a0 := allU_at hp c
      obtain ⟨a1, a2⟩ := and2 a0
      have a2 := of_decide_eq_true a2
      have a1 : P.getD m 0 < n := Nat.le_of_ble_eq_true a1
      have e : P[m]? = some (P.getD m 0) := by
        rw [List.getD_eq_getElem?_getD, List.getElem?_eq_getElem (by omega)]; rfl
      rw [e, ← a2]
      exact nx_ct hN hR h (by rw [hR.1]; exact a1)
    · rw [List.getElem?_eq_none (by omega), List.getElem?_eq_none (by omega)]; rfl
/-! areas, loads, idle gates -/
def arK (K : KN) (ar : Nat → Nat) : Nat → Nat
  | 0 => 0
  | k + 1 => arK K ar k + (if kK K k = 4 then 0 else ar (kK K k))
theorem ar_ct {ar : Nat → Nat} (hR : Rp N K n o) : ∀ m, m ≤ nG N → arT N ar m = arK K ar m := by
  intro m
  induction m with
  | zero => intro _; rfl
  | succ m ih =>
    intro hm
    show arT N ar m + _ = arK K ar m + _
    rw [ih (by omega), hR.k (by omega)]
def ldK (K : KN) (j : Nat) : Nat → Nat
  | 0 => 0
  | k + 1 => ldK K j k + (if kK K k = 4 then 0 else (if kF K k = j then 1 else 0) + (if kS K k = j then (if kK K k = 3 then 0 else 1) else 0))
def luK (K : KN) (j : Nat) : Nat → Nat
  | 0 => 0
  | p + 1 => luK K j p + (if kU K p = j then 1 else 0)
theorem ld_ct (hR : Rp N K n o) : ∀ m, m ≤ nG N → ∀ j, ldT N m j = nI (ldK K j m) := by
  intro m
  induction m with
  | zero => intro _ j; rfl
  | succ m ih =>
    intro hm j
    have ih := ih (by omega)
    have hk := hR.k (k := m) (by omega)
    have hf := hR.f (k := m) (by omega)
    have hs := hR.s (k := m) (by omega)
    show ldS N (ldT N m) m j = nI (ldK K j m + _)
    unfold ldS
    rw [← hk, ← hf, ← hs]
    by_cases h4 : nK N m = 4
    · rw [if_pos h4, if_pos h4]; exact ih j
    · rw [if_neg h4, if_neg h4]
      generalize nF N m = f
      generalize nS N m = s
      have c3 : (if nK N m = 3 then nI 0 else nI 1) = nI (if nK N m = 3 then 0 else 1) := by
        by_cases c : nK N m = 3
        · rw [if_pos c, if_pos c]
        · rw [if_neg c, if_neg c]
      rw [c3]
      generalize (if nK N m = 3 then 0 else 1) = x
      have u1 : ∀ j, upd (ldT N m) f (ldT N m f + nI 1) j = nI (ldK K j m + (if f = j then 1 else 0)) := by
        intro j
        unfold upd
        by_cases e : j = f
        · rw [if_pos e, if_pos e.symm, e, ih, nI_add]
        · rw [if_neg e, if_neg (show ¬ f = j from fun q => e q.symm)]; exact ih j
      show upd (upd (ldT N m) f (ldT N m f + nI 1)) s (upd (ldT N m) f (ldT N m f + nI 1) s + nI x) j = _
      by_cases e : j = s
      · rw [e, show upd (upd (ldT N m) f (ldT N m f + nI 1)) s (upd (ldT N m) f (ldT N m f + nI 1) s + nI x) s = upd (ldT N m) f (ldT N m f + nI 1) s + nI x from if_pos rfl, u1, nI_add, if_pos rfl, Nat.add_assoc]
      · rw [show upd (upd (ldT N m) f (ldT N m f + nI 1)) s (upd (ldT N m) f (ldT N m f + nI 1) s + nI x) j = upd (ldT N m) f (ldT N m f + nI 1) j from if_neg e, u1, if_neg (show ¬ s = j from fun q => e q.symm), Nat.add_zero]
theorem lo_ct (hR : Rp N K n o) : ∀ p, p ≤ nO N → ∀ j, loT N p j = nI (ldK K j n + luK K j p) := by
  intro p
  induction p with
  | zero => intro _ j; show ldT N (nG N) j = _; rw [ld_ct hR _ (Nat.le_refl _), hR.1]; rfl
  | succ p ih =>
    intro hp j
    have ih := ih (by omega)
    show upd (loT N p) (nU N p) (loT N p (nU N p) + nI 1) j = nI (ldK K j n + (luK K j p + _))
    rw [hR.u (by omega)]
    unfold upd
    by_cases e : j = kU K p
    · rw [if_pos e, if_pos e.symm, e, ih, nI_add, Nat.add_assoc]
    · rw [if_neg e, if_neg (show ¬ kU K p = j from fun q => e q.symm)]; exact ih j
theorem ldK_le (j : Nat) : ∀ m, ldK K j m ≤ 2 * m := by
  intro m
  induction m with
  | zero => exact Nat.le_refl _
  | succ m ih =>
    show ldK K j m + _ ≤ _
    have : (if kK K m = 4 then 0 else (if kF K m = j then 1 else 0) + (if kS K m = j then (if kK K m = 3 then 0 else 1) else 0)) ≤ 2 := by
      (repeat' split) <;> omega
    omega
theorem luK_le (j : Nat) : ∀ m, luK K j m ≤ m := by
  intro m
  induction m with
  | zero => exact Nat.le_refl _
  | succ m ih =>
    show luK K j m + _ ≤ _
    have : (if kU K m = j then 1 else 0) ≤ 1 := by split <;> omega
    omega
def mxK (f : Nat → Nat) : Nat → Nat
  | 0 => 0
  | k + 1 => if mxK f k < f k then f k else mxK f k
theorem mxA_ct {f : Nat → Int32} {g : Nat → Nat} (h : ∀ k, f k = nI (g k)) (hg : ∀ k, g k < 2 ^ 31) : ∀ m, mxA f m = nI (mxK g m) ∧ mxK g m < 2 ^ 31 := by
  intro m
  induction m with
  | zero => exact ⟨rfl, show 0 < 2 ^ 31 by decide⟩
  | succ m ih =>
    have e : mxA f (m + 1) = if mxA f m < f m then f m else mxA f m := rfl
    have e2 : mxK g (m + 1) = if mxK g m < g m then g m else mxK g m := rfl
    rw [e, e2, ih.1, h m]
    by_cases c : mxK g m < g m
    · rw [if_pos c, if_pos (nI_lt c (hg m))]; exact ⟨rfl, hg m⟩
    · rw [if_neg c, if_neg (fun q => c (cv_lt ih.2 (hg m) q))]; exact ⟨rfl, ih.2⟩
theorem load_ct {v : Nat} (hN : WF N) (hR : Rp N K n o) (h : Nat.beq (mxK (fun j => ldK K j n + luK K j o) n) v = true) : mxA (loT N (nO N)) (nG N) = nI v := by
  have hn := hN.g
  have ho := hN.o
  have e := (mxA_ct (f := loT N (nO N)) (g := fun j => ldK K j n + luK K j o) (fun k => by
    show loT N (nO N) k = nI (ldK K k n + luK K k o)
    rw [lo_ct hR _ (Nat.le_refl _), hR.2.1]) (fun k => by
    show ldK K k n + luK K k o < 2 ^ 31
    have h1 := ldK_le (K := K) k n
    have h2 := luK_le (K := K) k o
    have h3 := hR.1
    have h4 := hR.2.1
    omega) (nG N)).1
  rw [e, hR.1, Nat.eq_of_beq_eq_true h]
def mbK (K : KN) : Nat → Nat → Nat
  | B, 0 => B
  | B, n + 1 => mbK K (if B.testBit n ∧ kK K n ≠ 4 then B ||| 1 <<< kF K n ||| 1 <<< kS K n else B) n
def ouK (K : KN) : Nat → Nat
  | 0 => 0
  | p + 1 => ouK K p ||| 1 <<< kU K p
def idK (K : KN) (B : Nat) : Nat → Nat
  | 0 => 0
  | m + 1 => idK K B m + (if kK K m ≠ 4 ∧ B.testBit m = false then 1 else 0)
theorem tb_set {B k j : Nat} : (B ||| 1 <<< k).testBit j = if j = k then true else B.testBit j := by
  rw [Nat.testBit_or, Nat.testBit_shiftLeft]
  by_cases e : j = k
  · subst e; simp
  · rw [if_neg e]
    by_cases c : k ≤ j
    · have : (1 : Nat).testBit (j - k) = false := by
        obtain ⟨d, hd⟩ : ∃ d, j - k = d + 1 := ⟨j - k - 1, by omega⟩
        rw [hd, Nat.testBit_succ]; simp
      rw [this]; simp
    · simp [c]
theorem mb_ct (hR : Rp N K n o) : ∀ m, m ≤ nG N → ∀ (f : Nat → Bool) (B : Nat), (∀ j, f j = B.testBit j) → ∀ j, mbD N f m j = (mbK K B m).testBit j := by
  intro m
  induction m with
  | zero => intro _ f B h j; exact h j
  | succ m ih =>
    intro hm f B h j
    show mbD N (mbS N m f) m j = (mbK K (if B.testBit m ∧ kK K m ≠ 4 then B ||| 1 <<< kF K m ||| 1 <<< kS K m else B) m).testBit j
    apply ih (by omega)
    intro j
    unfold mbS
    rw [← hR.k (by omega), ← hR.f (by omega), ← hR.s (by omega), h m]
    by_cases c : B.testBit m = true ∧ nK N m ≠ 4
    · rw [if_pos c, if_pos c, tb_set, tb_set]
      unfold setT
      rw [h j]
    · rw [if_neg c, if_neg c]; exact h j
theorem ou_ct (hR : Rp N K n o) : ∀ p, p ≤ nO N → ∀ j, ouT N p j = (ouK K p).testBit j := by
  intro p
  induction p with
  | zero => intro _ j; exact (Nat.zero_testBit j).symm
  | succ p ih =>
    intro hp j
    show setT (ouT N p) (nU N p) j = (ouK K p ||| 1 <<< kU K p).testBit j
    rw [tb_set, hR.u (by omega)]
    unfold setT
    rw [ih (by omega) j]
theorem id_ct (hR : Rp N K n o) {F : Nat → Bool} {B : Nat} (h : ∀ j, F j = B.testBit j) : ∀ m, m ≤ nG N → idT N F m = idK K B m := by
  intro m
  induction m with
  | zero => intro _; rfl
  | succ m ih =>
    intro hm
    show idT N F m + _ = idK K B m + _
    rw [ih (by omega), hR.k (by omega), h m]
theorem idle_ct {v : Nat} (hR : Rp N K n o) (h : Nat.beq (idK K (mbK K (ouK K o) n) n) v = true) : idT N (mbD N (ouT N (nO N)) (nG N)) (nG N) = v := by
  rw [id_ct hR (B := mbK K (ouK K o) n) (fun j => by
    rw [mb_ct hR _ (Nat.le_refl _) _ (ouK K o) (fun j => by rw [ou_ct hR _ (Nat.le_refl _), hR.2.1]), hR.1]) _ (Nat.le_refl _), hR.1]
  exact Nat.eq_of_beq_eq_true h
end CT
