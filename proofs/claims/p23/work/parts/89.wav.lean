/-! the waves' totals are those time by time -/
theorem cCh_0 {p f v w : Int32} (h : cCh p f v w = 0) : inBd p 4 ∧ ((¬ f < nI 0 ∧ f ≤ nI 1073741823) ∧ (¬ v < nI 0 ∧ v ≤ nI 1073741823) ∧ (¬ w < nI 0 ∧ w ≤ nI 2)) := by
  unfold cCh at h
  by_cases c : inBd p 4
  · rw [if_pos c] at h
    by_cases d : (¬ f < nI 0 ∧ f ≤ nI 1073741823) ∧ (¬ v < nI 0 ∧ v ≤ nI 1073741823) ∧ (¬ w < nI 0 ∧ w ≤ nI 2)
    · exact ⟨c, d⟩
    · rw [if_neg d] at h; exact absurd h (by decide)
  · rw [if_neg c] at h; exact absurd h (by decide)
theorem lb_ge {x : Int64} {i : Nat} (h : 64 ≤ i) : lb x i = false := by
  unfold lb
  exact BitVec.getLsbD_of_ge _ _ h
theorem nI_s64 {d : Nat} (h : d ≤ 64) : nI 64 - nI d = nI (64 - d) := by
  rw [← show nI (64 - d) + nI d = nI 64 by rw [nI_add]; congr 1; omega]
  exact Int32.add_sub_cancel _ _
section WAV
variable {N : NT} {dl : Nat → Nat} {n0 n1 U : Nat} {b0 b1 g : Nat → Int64}
theorem dly_bit {kd B1 B2 d u i : Nat} {pb : Int64} {f : Nat → Int64} (h1 : 1 ≤ d) (h2 : d ≤ 9) (hi : i < 64) : lb (dlyW kd f B1 B2 d pb u) i = if d ≤ i then jn kd (lb (f (B1 + u)) (i - d)) (lb (f (B2 + u)) (i - d)) else if u = 0 then lb pb (64 - d + i) else jn kd (lb (f (B1 + (u - 1))) (64 - d + i)) (lb (f (B2 + (u - 1))) (64 - d + i)) := by
  unfold dlyW
  rw [nI_s64 (by omega), lb_or, lb_shl (by omega) hi, lb_shr (by omega)]
  by_cases c : d ≤ i
  · rw [if_pos c, lb_ge (i := 64 - d + i) (by omega)]
    unfold dlyN
    rw [lb_jnW (i := i - d) (by omega)]
    simp [c]
  · rw [if_neg c]
    by_cases z : u = 0
    · rw [if_pos z, if_pos z]
      simp [c]
    · rw [if_neg z, if_neg z]
      unfold dlyN
      rw [lb_jnW (i := 64 - d + i) (by omega)]
      simp [c]
theorem wv_bit (hN : WF N) (hd : DL dl) (h0 : ∀ z, z < nG N → b0 z = lv64 (bt N n0 z)) (h1 : ∀ z, z < nG N → b1 z = lv64 (bt N n1 z)) (hg : ∀ z, z < nG N → SEG N dl b0 b1 U g z) : ∀ n z, z < n → z < nG N → ∀ u, u < U → ∀ i, i < 64 → lb (g (z * 17 + u)) i = wv N dl n0 n1 z (64 * u + i) := by
  intro n
  induction n with
  | zero => exact fun z h => absurd h (Nat.not_lt_zero _)
  | succ n ih =>
    intro z hz hzg u hu i hi
    by_cases c : ¬ nT N z = -1 ∨ nK N z = 4
    · rw [(hg z hzg).1 c u hu, h1 z hzg, lb_lv hi, wv_giv c]
    · have ct : nT N z = -1 := Classical.byContradiction fun q => c (Or.inl q)
      have c4 : ¬ nK N z = 4 := fun q => c (Or.inr q)
      have hfs := hN.fs hzg c4
      have hk := hN.k hzg
      have hdd := hd (nK N z) (by omega)
      rw [(hg z hzg).2 ct c4 u hu, dly_bit hdd.1 hdd.2 hi, wv_gt hN hzg ct c4]
      by_cases e : dl (nK N z) ≤ i
      · rw [if_pos e, if_neg (by omega), ih _ (by omega) (by omega) u hu _ (by omega), ih _ (by omega) (by omega) u hu _ (by omega)]
        rw [show 64 * u + (i - dl (nK N z)) = 64 * u + i - dl (nK N z) by omega]
      · rw [if_neg e]
        by_cases w : u = 0
        · rw [if_pos w, if_pos (by omega), h0 z hzg, lb_lv (by omega)]
        · rw [if_neg w, if_neg (by omega), ih _ (by omega) (by omega) (u - 1) (by omega) _ (by omega), ih _ (by omega) (by omega) (u - 1) (by omega) _ (by omega)]
          rw [show 64 * (u - 1) + (64 - dl (nK N z) + i) = 64 * u + i - dl (nK N z) by omega]
theorem tr_bit (hN : WF N) (hd : DL dl) (h0 : ∀ z, z < nG N → b0 z = lv64 (bt N n0 z)) (h1 : ∀ z, z < nG N → b1 z = lv64 (bt N n1 z)) (hg : ∀ z, z < nG N → SEG N dl b0 b1 U g z) {z u i : Nat} (hz : z < nG N) (hu : u < U) (hi : i < 64) : lb (trW g (z * 17) (b0 z) u) i = (wv N dl n0 n1 z (64 * u + i) ^^ wp N dl n0 n1 z (64 * u + i)) := by
  have B := fun u hu i hi => wv_bit hN hd h0 h1 hg (z + 1) z (by omega) hz u hu i hi
  unfold trW
  rw [lb_xor, lb_or, lb_shl (by omega) hi, lb_shr (by omega), B u hu i hi]
  congr 1
  unfold wp pstW
  by_cases c : 1 ≤ i
  · rw [lb_ge (i := 63 + i) (by omega), if_neg (show ¬ 64 * u + i = 0 by omega), B u hu (i - 1) (by omega)]
    rw [show 64 * u + (i - 1) = 64 * u + i - 1 by omega]
    simp [c]
  · have e : i = 0 := by omega
    subst e
    by_cases w : u = 0
    · rw [if_pos w, if_pos (by omega), h0 z hz, lb_lv (by omega)]
      simp
    · rw [if_neg w, if_neg (by omega), B (u - 1) (by omega) (63 + 0) (by omega)]
      rw [show 64 * (u - 1) + (63 + 0) = 64 * u + 0 - 1 by omega]
      simp
/-- how often a gate changes before a time -/
def csN (N : NT) (dl : Nat → Nat) (n0 n1 z : Nat) : Nat → Nat
  | 0 => 0
  | t + 1 => csN N dl n0 n1 z t + (if ¬ wv N dl n0 n1 z t = wp N dl n0 n1 z t then 1 else 0)
theorem xor_ne {x y : Bool} : (x ^^ y) = true ↔ ¬ x = y := by cases x <;> cases y <;> simp
theorem pop_cs (hN : WF N) (hd : DL dl) (h0 : ∀ z, z < nG N → b0 z = lv64 (bt N n0 z)) (h1 : ∀ z, z < nG N → b1 z = lv64 (bt N n1 z)) (hg : ∀ z, z < nG N → SEG N dl b0 b1 U g z) {z u : Nat} (hz : z < nG N) (hu : u < U) : ∀ i, i ≤ 64 → csN N dl n0 n1 z (64 * u) + popT (trW g (z * 17) (b0 z) u) i = csN N dl n0 n1 z (64 * u + i) := by
  intro i
  induction i with
  | zero => intro _; rfl
  | succ i ih =>
    intro hi
    have h := ih (by omega)
    have e := tr_bit hN hd h0 h1 hg hz hu (i := i) (by omega)
    show _ + (popT _ i + (if lb (trW g (z * 17) (b0 z) u) i = true then 1 else 0)) = csN N dl n0 n1 z (64 * u + i) + (if ¬ wv N dl n0 n1 z (64 * u + i) = wp N dl n0 n1 z (64 * u + i) then 1 else 0)
    rw [← h, e]
    by_cases c : wv N dl n0 n1 z (64 * u + i) = wp N dl n0 n1 z (64 * u + i)
    · rw [if_neg (fun q => xor_ne.mp q c), if_neg (fun q => q c)]; omega
    · rw [if_pos (xor_ne.mpr c), if_pos c]; omega
theorem cgX_cs (hN : WF N) (hd : DL dl) (h0 : ∀ z, z < nG N → b0 z = lv64 (bt N n0 z)) (h1 : ∀ z, z < nG N → b1 z = lv64 (bt N n1 z)) (hg : ∀ z, z < nG N → SEG N dl b0 b1 U g z) {z : Nat} (hz : z < nG N) : ∀ u, u ≤ U → cgX g (z * 17) (b0 z) u = csN N dl n0 n1 z (64 * u) := by
  intro u
  induction u with
  | zero => intro _; rfl
  | succ u ih =>
    intro hu
    show cgX g (z * 17) (b0 z) u + popT _ 64 = _
    rw [ih (by omega), pop_cs hN hd h0 h1 hg hz (by omega) 64 (by omega)]
    rw [show 64 * (u + 1) = 64 * u + 64 by omega]
/-- after its time a gate is still -/
theorem wv_late (hN : WF N) (hd : DL dl) : ∀ n z, z < n → z < nG N → ∀ t, tm N dl z ≤ t → wv N dl n0 n1 z t = bt N n1 z := by
  intro n
  induction n with
  | zero => exact fun z h => absurd h (Nat.not_lt_zero _)
  | succ n ih =>
    intro z hz hzg t ht
    by_cases c : ¬ nT N z = -1 ∨ nK N z = 4
    · exact wv_giv c t
    · have ct : nT N z = -1 := Classical.byContradiction fun q => c (Or.inl q)
      have c4 : ¬ nK N z = 4 := fun q => c (Or.inr q)
      have hfs := hN.fs hzg c4
      have e := tm_gt (dl := dl) hN hzg c4
      have l1 := Nat.le_max_left (tm N dl (nF N z)) (tm N dl (nS N z))
      have l2 := Nat.le_max_right (tm N dl (nF N z)) (tm N dl (nS N z))
      rw [wv_gt hN hzg ct c4, if_neg (by omega), ih _ (by omega) (by omega) _ (by omega), ih _ (by omega) (by omega) _ (by omega), bt_gt hN hzg ct c4]
theorem wv_wp (hN : WF N) (hd : DL dl) {z t : Nat} (hz : z < nG N) (ht : tm N dl z < t) : wv N dl n0 n1 z t = wp N dl n0 n1 z t := by
  unfold wp
  rw [if_neg (by omega), wv_late hN hd (z + 1) z (by omega) hz t (by omega), wv_late hN hd (z + 1) z (by omega) hz (t - 1) (by omega)]
theorem cs_late (hN : WF N) (hd : DL dl) {z q : Nat} (hz : z < nG N) (hq : tm N dl z < q) : ∀ r, q ≤ r → csN N dl n0 n1 z r = csN N dl n0 n1 z q := by
  intro r
  induction r with
  | zero => intro h; rw [show q = 0 by omega]
  | succ r ih =>
    intro h
    by_cases e : q = r + 1
    · rw [e]
    · show csN N dl n0 n1 z r + _ = _
      rw [ih (by omega), if_neg (fun c => c (wv_wp hN hd hz (by omega)))]; rfl
/-- sums over gates, and over times -/
def sP (N : NT) (dl : Nat → Nat) (n0 n1 : Nat) (P : Nat → Prop) [DecidablePred P] : Nat → Nat → Nat
  | 0, _ => 0
  | k + 1, q => sP N dl n0 n1 P k q + (if P k then csN N dl n0 n1 k q else 0)
def rP (N : NT) (dl : Nat → Nat) (n0 n1 : Nat) (P : Nat → Prop) [DecidablePred P] (t : Nat) : Nat → Nat
  | 0 => 0
  | k + 1 => rP N dl n0 n1 P t k + (if P k then (if ¬ wv N dl n0 n1 k t = wp N dl n0 n1 k t then 1 else 0) else 0)
theorem sP_0 {P : Nat → Prop} [DecidablePred P] : ∀ k, sP N dl n0 n1 P k 0 = 0 := by
  intro k
  induction k with
  | zero => rfl
  | succ k ih =>
    show sP N dl n0 n1 P k 0 + _ = 0
    rw [ih]
    by_cases c : P k
    · rw [if_pos c]; rfl
    · rw [if_neg c]
theorem sP_s {P : Nat → Prop} [DecidablePred P] {q : Nat} : ∀ k, sP N dl n0 n1 P k (q + 1) = sP N dl n0 n1 P k q + rP N dl n0 n1 P q k := by
  intro k
  induction k with
  | zero => rfl
  | succ k ih =>
    show sP N dl n0 n1 P k (q + 1) + _ = sP N dl n0 n1 P k q + _ + (rP N dl n0 n1 P q k + _)
    rw [ih]
    by_cases c : P k
    · rw [if_pos c, if_pos c, if_pos c]
      show _ + (csN N dl n0 n1 k q + _) = _
      omega
    · rw [if_neg c, if_neg c, if_neg c]
      omega
theorem rX_rP {t : Nat} : ∀ k, rX N dl n0 n1 t k = rP N dl n0 n1 (fun k => nK N k ≠ 4) t k := by
  intro k
  induction k with
  | zero => rfl
  | succ k ih =>
    show rX N dl n0 n1 t k + _ = rP N dl n0 n1 _ t k + _
    rw [ih]
    congr 1
    by_cases c : nK N k ≠ 4
    · rw [if_pos c]
      by_cases d : wv N dl n0 n1 k t = wp N dl n0 n1 k t
      · rw [if_neg (fun q => q.2 d), if_neg (fun q => q d)]
      · rw [if_pos ⟨c, d⟩, if_pos d]
    · rw [if_neg c, if_neg (fun q => c q.1)]
theorem rZ_rP {t : Nat} : ∀ k, rZ N dl n0 n1 t k = rP N dl n0 n1 (fun k => nK N k ≠ 4 ∧ (∃ r, r < nO N ∧ nU N r = k)) t k := by
  intro k
  induction k with
  | zero => rfl
  | succ k ih =>
    show rZ N dl n0 n1 t k + _ = rP N dl n0 n1 _ t k + _
    rw [ih]
    congr 1
    by_cases c : nK N k ≠ 4
    · by_cases o : ∃ r, r < nO N ∧ nU N r = k
      · rw [if_pos (show nK N k ≠ 4 ∧ _ from ⟨c, o⟩)]
        by_cases d : wv N dl n0 n1 k t = wp N dl n0 n1 k t
        · rw [if_neg (fun q => q.2 d), if_neg (fun q => q d)]
        · rw [if_pos ⟨c, d⟩, if_pos d, if_pos o]
      · rw [if_neg (show ¬ (nK N k ≠ 4 ∧ _) from fun q => o q.2), if_neg o]
        by_cases d : wv N dl n0 n1 k t = wp N dl n0 n1 k t
        · rw [if_neg (fun q => q.2 d)]
        · rw [if_pos ⟨c, d⟩]
    · rw [if_neg (show ¬ (nK N k ≠ 4 ∧ _) from fun q => c q.1), if_neg (fun q => c q.1)]
theorem tkX_sP : ∀ q, tkX N dl n0 n1 q = sP N dl n0 n1 (fun k => nK N k ≠ 4) (nG N) q := by
  intro q
  induction q with
  | zero => exact (sP_0 _).symm
  | succ q ih =>
    show tkX N dl n0 n1 q + _ = _
    rw [ih, rX_rP, sP_s]
theorem tkZ_sP : ∀ q, tkZ N dl n0 n1 q = sP N dl n0 n1 (fun k => nK N k ≠ 4 ∧ (∃ r, r < nO N ∧ nU N r = k)) (nG N) q := by
  intro q
  induction q with
  | zero => exact (sP_0 _).symm
  | succ q ih =>
    show tkZ N dl n0 n1 q + _ = _
    rw [ih, rZ_rP, sP_s]
theorem cnX_sP (hN : WF N) (hd : DL dl) (h0 : ∀ z, z < nG N → b0 z = lv64 (bt N n0 z)) (h1 : ∀ z, z < nG N → b1 z = lv64 (bt N n1 z)) (hg : ∀ z, z < nG N → SEG N dl b0 b1 U g z) {q : Nat} (hq : mxT N dl (nG N) < q) (hU : q ≤ 64 * U) : ∀ k, k ≤ nG N → cnX N g b0 U k = sP N dl n0 n1 (fun k => nK N k ≠ 4) k q := by
  intro k
  induction k with
  | zero => intro _; rfl
  | succ k ih =>
    intro hk
    show cnX N g b0 U k + _ = sP N dl n0 n1 _ k q + _
    rw [ih (by omega)]
    congr 1
    by_cases c : nK N k = 4
    · rw [if_pos c, if_neg (fun q => q c)]
    · have := mxT_ge (N := N) (dl := dl) (n := nG N) (k := k) (by omega)
      rw [if_neg c, if_pos c, cgX_cs hN hd h0 h1 hg (by omega) U (Nat.le_refl _), cs_late hN hd (by omega) (q := q) (by omega) _ hU]
theorem cnZ_sP (hN : WF N) (hd : DL dl) (h0 : ∀ z, z < nG N → b0 z = lv64 (bt N n0 z)) (h1 : ∀ z, z < nG N → b1 z = lv64 (bt N n1 z)) (hg : ∀ z, z < nG N → SEG N dl b0 b1 U g z) {q : Nat} (hq : mxT N dl (nG N) < q) (hU : q ≤ 64 * U) : ∀ k, k ≤ nG N → cnZ N g b0 U k = sP N dl n0 n1 (fun k => nK N k ≠ 4 ∧ (∃ r, r < nO N ∧ nU N r = k)) k q := by
  intro k
  induction k with
  | zero => intro _; rfl
  | succ k ih =>
    intro hk
    show cnZ N g b0 U k + _ = sP N dl n0 n1 _ k q + _
    rw [ih (by omega)]
    congr 1
    by_cases c : nK N k = 4
    · rw [if_pos c, if_neg (show ¬ (nK N k ≠ 4 ∧ _) from fun q => q.1 c)]
    · have := mxT_ge (N := N) (dl := dl) (n := nG N) (k := k) (by omega)
      rw [if_neg c]
      by_cases o : ∃ r, r < nO N ∧ nU N r = k
      · rw [if_pos o, if_pos (show nK N k ≠ 4 ∧ _ from ⟨c, o⟩), cgX_cs hN hd h0 h1 hg (by omega) U (Nat.le_refl _), cs_late hN hd (by omega) (q := q) (by omega) _ hU]
      · rw [if_neg o, if_neg (show ¬ (nK N k ≠ 4 ∧ _) from fun q => o q.2)]
/-- the last time of a change -/
def chC (N : NT) (dl : Nat → Nat) (n0 n1 K t : Nat) : Prop := ∃ k, k < K ∧ nK N k ≠ 4 ∧ ¬ wv N dl n0 n1 k t = wp N dl n0 n1 k t
theorem rY_sp {t y : Nat} : ∀ K, y ≤ rY N dl n0 n1 t y K ∧ (chC N dl n0 n1 K t → t ≤ rY N dl n0 n1 t y K) ∧ (rY N dl n0 n1 t y K = y ∨ (rY N dl n0 n1 t y K = t ∧ chC N dl n0 n1 K t)) := by
  intro K
  induction K with
  | zero => exact ⟨Nat.le_refl _, fun h => by obtain ⟨k, h, _⟩ := h; exact absurd h (Nat.not_lt_zero _), Or.inl rfl⟩
  | succ K ih =>
    obtain ⟨i1, i2, i3⟩ := ih
    have up : chC N dl n0 n1 K t → chC N dl n0 n1 (K + 1) t := fun h => by
      obtain ⟨k, h1, h2⟩ := h
      exact ⟨k, by omega, h2⟩
    by_cases c : nK N K ≠ 4 ∧ ¬ wv N dl n0 n1 K t = wp N dl n0 n1 K t
    · have e : rY N dl n0 n1 t y (K + 1) = max (rY N dl n0 n1 t y K) t := if_pos c
      rw [e]
      refine ⟨by omega, fun _ => by omega, ?_⟩
      rcases Nat.le_total (rY N dl n0 n1 t y K) t with q | q
      · exact Or.inr ⟨by omega, K, by omega, c⟩
      · rcases i3 with w | w
        · exact Or.inl (by omega)
        · exact Or.inr ⟨by omega, K, by omega, c⟩
    · have e : rY N dl n0 n1 t y (K + 1) = rY N dl n0 n1 t y K := if_neg c
      rw [e]
      refine ⟨i1, fun h => ?_, i3.imp id (fun w => ⟨w.1, up w.2⟩)⟩
      obtain ⟨k, h1, h2⟩ := h
      by_cases w : k = K
      · exact absurd (w ▸ h2) c
      · exact i2 ⟨k, by omega, h2⟩
theorem tkY_sp : ∀ q, (∀ t, t < q → chC N dl n0 n1 (nG N) t → t ≤ tkY N dl n0 n1 q) ∧ (tkY N dl n0 n1 q = 0 ∨ ∃ t, t < q ∧ chC N dl n0 n1 (nG N) t ∧ tkY N dl n0 n1 q = t) := by
  intro q
  induction q with
  | zero => exact ⟨fun t h => absurd h (Nat.not_lt_zero _), Or.inl rfl⟩
  | succ q ih =>
    obtain ⟨i1, i2⟩ := ih
    obtain ⟨j1, j2, j3⟩ := rY_sp (N := N) (dl := dl) (n0 := n0) (n1 := n1) (t := q) (y := tkY N dl n0 n1 q) (nG N)
    have e : tkY N dl n0 n1 (q + 1) = rY N dl n0 n1 q (tkY N dl n0 n1 q) (nG N) := rfl
    rw [e]
    refine ⟨fun t h1 h2 => ?_, ?_⟩
    · by_cases w : t = q
      · subst w; exact j2 h2
      · exact Nat.le_trans (i1 t (by omega) h2) j1
    · rcases j3 with w | w
      · rw [w]
        exact i2.imp id (fun ⟨t, a1, a2⟩ => ⟨t, by omega, a2⟩)
      · exact Or.inr ⟨q, by omega, w.2, w.1⟩
theorem hiT_sp (w : Int64) : ∀ n, (∀ i, i < n → lb w i = true → i ≤ hiT w n) ∧ ((∃ i, i < n ∧ lb w i = true) → hiT w n < n ∧ lb w (hiT w n) = true) := by
  intro n
  induction n with
  | zero => exact ⟨fun i h => absurd h (Nat.not_lt_zero _), fun ⟨i, h, _⟩ => absurd h (Nat.not_lt_zero _)⟩
  | succ n ih =>
    by_cases c : lb w n = true
    · have e : hiT w (n + 1) = n := if_pos c
      rw [e]
      exact ⟨fun i h _ => by omega, fun _ => ⟨by omega, c⟩⟩
    · have e : hiT w (n + 1) = hiT w n := if_neg c
      rw [e]
      refine ⟨fun i h1 h2 => ?_, fun ⟨i, h1, h2⟩ => ?_⟩
      · by_cases d : i = n
        · exact absurd (d ▸ h2) c
        · exact ih.1 i (by omega) h2
      · by_cases d : i = n
        · exact absurd (d ▸ h2) c
        · have := ih.2 ⟨i, by omega, h2⟩
          exact ⟨by omega, this.2⟩
theorem cgY_sp (hN : WF N) (hd : DL dl) (h0 : ∀ z, z < nG N → b0 z = lv64 (bt N n0 z)) (h1 : ∀ z, z < nG N → b1 z = lv64 (bt N n1 z)) (hg : ∀ z, z < nG N → SEG N dl b0 b1 U g z) {z y : Nat} (hz : z < nG N) : ∀ u, u ≤ U → y ≤ cgY g (z * 17) (b0 z) y u ∧ (∀ t, t < 64 * u → ¬ wv N dl n0 n1 z t = wp N dl n0 n1 z t → t ≤ cgY g (z * 17) (b0 z) y u) ∧ (cgY g (z * 17) (b0 z) y u = y ∨ ∃ t, t < 64 * u ∧ ¬ wv N dl n0 n1 z t = wp N dl n0 n1 z t ∧ cgY g (z * 17) (b0 z) y u = t) := by
  intro u
  induction u with
  | zero => exact fun _ => ⟨Nat.le_refl _, fun t h => absurd h (by omega), Or.inl rfl⟩
  | succ u ih =>
    intro hu
    obtain ⟨i1, i2, i3⟩ := ih (by omega)
    have B := fun i hi => tr_bit hN hd h0 h1 hg hz (u := u) (by omega) (i := i) hi
    have hi := hiT_sp (trW g (z * 17) (b0 z) u) 64
    by_cases c : trW g (z * 17) (b0 z) u = 0
    · rw [cg_y0 c]
      refine ⟨i1, fun t h2 h3 => ?_, i3.imp id (fun ⟨t, a1, a2⟩ => ⟨t, by omega, a2⟩)⟩
      by_cases w : t < 64 * u
      · exact i2 t w h3
      · have b := B (t - 64 * u) (by omega)
        rw [c, lb_0, show 64 * u + (t - 64 * u) = t by omega] at b
        rw [xor_ne.mpr h3] at b
        cases b
    · rw [cg_y1 c]
      have ex : ∃ i, i < 64 ∧ lb (trW g (z * 17) (b0 z) u) i = true := Classical.byContradiction fun q => c (lb_ext fun i hi => by
        rw [lb_0]
        cases e : lb (trW g (z * 17) (b0 z) u) i with
        | false => rfl
        | true => exact absurd ⟨i, hi, e⟩ q)
      obtain ⟨k1, k2⟩ := hi.2 ex
      have b := B _ k1
      rw [k2] at b
      have b := xor_ne.mp b.symm
      refine ⟨by omega, fun t h2 h3 => ?_, ?_⟩
      · by_cases w : t < 64 * u
        · have := i2 t w h3
          omega
        · have b := B (t - 64 * u) (by omega)
          rw [show 64 * u + (t - 64 * u) = t by omega, xor_ne.mpr h3] at b
          have := hi.1 _ (by omega) b
          omega
      · rcases Nat.le_total (cgY g (z * 17) (b0 z) y u) (u * 64 + hiT (trW g (z * 17) (b0 z) u) 64) with w | w
        · exact Or.inr ⟨64 * u + hiT (trW g (z * 17) (b0 z) u) 64, by omega, b, by omega⟩
        · rcases i3 with x | ⟨t, a1, a2, a3⟩
          · exact Or.inl (by omega)
          · exact Or.inr ⟨t, by omega, a2, by omega⟩
theorem cnY_sp (hN : WF N) (hd : DL dl) (h0 : ∀ z, z < nG N → b0 z = lv64 (bt N n0 z)) (h1 : ∀ z, z < nG N → b1 z = lv64 (bt N n1 z)) (hg : ∀ z, z < nG N → SEG N dl b0 b1 U g z) : ∀ K, K ≤ nG N → (∀ t, t < 64 * U → chC N dl n0 n1 K t → t ≤ cnY N g b0 U K) ∧ (cnY N g b0 U K = 0 ∨ ∃ t, t < 64 * U ∧ chC N dl n0 n1 K t ∧ cnY N g b0 U K = t) := by
  intro K
  induction K with
  | zero => exact fun _ => ⟨fun t _ h => by obtain ⟨k, h, _⟩ := h; exact absurd h (Nat.not_lt_zero _), Or.inl rfl⟩
  | succ K ih =>
    intro hK
    obtain ⟨i1, i2⟩ := ih (by omega)
    have up : ∀ t, chC N dl n0 n1 K t → chC N dl n0 n1 (K + 1) t := fun t h => by
      obtain ⟨k, h1, h2⟩ := h
      exact ⟨k, by omega, h2⟩
    by_cases c : nK N K = 4
    · rw [cn_y0 c]
      refine ⟨fun t h2 h3 => ?_, i2.imp id (fun ⟨t, a1, a2, a3⟩ => ⟨t, a1, up t a2, a3⟩)⟩
      obtain ⟨k, q1, q2, q3⟩ := h3
      by_cases w : k = K
      · exact absurd (w ▸ c) q2
      · exact i1 t h2 ⟨k, by omega, q2, q3⟩
    · rw [cn_y1 c]
      obtain ⟨j1, j2, j3⟩ := cgY_sp hN hd h0 h1 hg (z := K) (y := cnY N g b0 U K) (by omega) U (Nat.le_refl _)
      refine ⟨fun t h2 h3 => ?_, ?_⟩
      · obtain ⟨k, q1, q2, q3⟩ := h3
        by_cases w : k = K
        · subst w; exact j2 t h2 q3
        · exact Nat.le_trans (i1 t h2 ⟨k, by omega, q2, q3⟩) j1
      · rcases j3 with w | ⟨t, a1, a2, a3⟩
        · rw [w]
          exact i2.imp id (fun ⟨t, a1, a2, a3⟩ => ⟨t, a1, up t a2, a3⟩)
        · exact Or.inr ⟨t, a1, ⟨K, by omega, c, a2⟩, a3⟩
theorem cnY_tk (hN : WF N) (hd : DL dl) (h0 : ∀ z, z < nG N → b0 z = lv64 (bt N n0 z)) (h1 : ∀ z, z < nG N → b1 z = lv64 (bt N n1 z)) (hg : ∀ z, z < nG N → SEG N dl b0 b1 U g z) {q : Nat} (hq : mxT N dl (nG N) < q) (hU : q ≤ 64 * U) : cnY N g b0 U (nG N) = tkY N dl n0 n1 q := by
  obtain ⟨i1, i2⟩ := cnY_sp hN hd h0 h1 hg (nG N) (Nat.le_refl _)
  obtain ⟨j1, j2⟩ := tkY_sp (N := N) (dl := dl) (n0 := n0) (n1 := n1) q
  apply Nat.le_antisymm
  · rcases i2 with w | ⟨t, a1, a2, a3⟩
    · omega
    · rw [a3]
      refine j1 t ?_ a2
      obtain ⟨k, q1, q2, q3⟩ := a2
      have := mxT_ge (N := N) (dl := dl) (n := nG N) (k := k) q1
      exact Classical.byContradiction fun q5 => q3 (wv_wp hN hd q1 (by omega))
  · rcases j2 with w | ⟨t, a1, a2, a3⟩
    · omega
    · rw [a3]
      exact i1 t (by omega) a2
end WAV
theorem wav_tk {N : NT} {dl : Nat → Nat} (hd : DL dl) (hN : WF N) {n0 n1 : Nat} {b0 b1 g : Nat → Int64} (h0 : ∀ z, z < nG N → b0 z = lv64 (bt N n0 z)) (h1 : ∀ z, z < nG N → b1 z = lv64 (bt N n1 z)) (hg : ∀ z, z < nG N → SEG N dl b0 b1 (min 17 (mxT N dl (nG N) / 64 + 1)) g z) (k : Nat) :
    chW N g b0 (min 17 (mxT N dl (nG N) / 64 + 1)) k = tkV N dl n0 n1 (mxT N dl (nG N) + 1) k := by
  have hT := mxT_le hN hd (nG N) (Nat.le_refl _)
  have hq : mxT N dl (nG N) < mxT N dl (nG N) + 1 := Nat.lt_succ_self _
  have hU : mxT N dl (nG N) + 1 ≤ 64 * min 17 (mxT N dl (nG N) / 64 + 1) := by omega
  unfold chW tkV
  by_cases c0 : k = 0
  · rw [if_pos c0, if_pos c0, tkX_sP]
    exact cnX_sP hN hd h0 h1 hg hq hU _ (Nat.le_refl _)
  · rw [if_neg c0, if_neg c0]
    by_cases c1 : k = 1
    · rw [if_pos c1, if_pos c1]
      exact cnY_tk hN hd h0 h1 hg hq hU
    · rw [if_neg c1, if_neg c1, tkZ_sP]
      exact cnZ_sP hN hd h0 h1 hg hq hU _ (Nat.le_refl _)
