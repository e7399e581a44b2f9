/-! the class's calls that do not throw, over natural numbers; the states that they make -/
theorem bd4 {p n : Nat} (h : p < n) (hn : n < 2 ^ 31) : inBd (nI p) n := ⟨nI_pos (by omega), nI_lt h hn⟩
theorem ble {w b m : Nat} (h0 : b ≤ w) (h : w ≤ m) (hm : m < 2 ^ 31) : ¬ nI w < nI b ∧ nI w ≤ nI m := ⟨nI_nlt h0 (by omega), nI_le h hm⟩
theorem bstk {b : Int32} (h : b = -1 ∨ b = 0 ∨ b = 1) : ¬ b < -1 ∧ b ≤ nI 1 := by rcases h with h | h | h <;> rw [h] <;> decide
def inS (st : ST) (p : Nat) : ST := (upN st.1 p (addI (st.1 p)), st.2)
def gaS (st : ST) (p kd f s : Nat) : ST := (upN st.1 p (addG (st.1 p) kd f (if kd = 3 then f else s)), st.2)
def ouS (st : ST) (p g : Nat) : ST := (upN st.1 p (addO (st.1 p) g), st.2)
def adS (st : ST) (p m w : Nat) : ST := (upN st.1 p (if m = 0 then ripN (st.1 p) w else joiN (m = 1) (st.1 p) w), st.2)
def muS (st : ST) (p w : Nat) : ST := (upN st.1 p (mulN (st.1 p) w), st.2)
def clS (st : ST) (p : Nat) : ST := (upN st.1 p (clrN (st.1 p)), st.2)
def coS (st : ST) (kd d x : Nat) : ST := (st.1, un st.2.1 kd d, un st.2.2 kd x)
def skS (st : ST) (p g : Nat) (b : Int32) : ST := (upN st.1 p (stkN (st.1 p) g b), st.2)
section NX
variable {l : Launch} {y : MethodName} {ws : List Cond} {rm : Room} {mc ms : Nat} {free : Addr → Prop} {P : Array Value → State → Prop}
/-- a contract of a call whose code is 0 throws nothing -/
theorem met_nx {S : Type} {post post' : Int32 → S → Prop} {Bn Bn' : S → Heap → Prop} {A AX : Nat → Prop} {C : Nat} {B2 : Heap → Prop} (h : vx_Met l y ws rm P (QI post Bn A) (XQ (XE C) B2 AX) mc ms free) (hC : C = 0) (hp : ∀ r u, post r u → post' r u) (hB : ∀ u H, Bn u H → Bn' u H) : Met l y ws rm P (QI post' Bn' A) mc ms free := by
  intro p e ha hc hk s m args below hfr happ h1 hK
  obtain ⟨n, o, a1, a2, a3, a4⟩ := h p e ha hc hk s m args below hfr happ h1 trivial
  rcases a4 with ⟨b1, L, b2, b3⟩ | ⟨q, b1, E, ce, L, c1, -⟩
  · refine ⟨n, o, a1, a2, a3, ?_, L, b2, b3⟩
    obtain ⟨⟨r, u, e2, p2, q2⟩, hF⟩ := b1
    exact ⟨⟨r, u, e2, hp r u p2, hB u _ q2⟩, hF⟩
  · obtain ⟨u, hu, ⟨hE, -⟩, -⟩ := c1
    exact absurd hC (XE_ne hE)
end NX
theorem z0_input {st : ST} {p : Nat} (hO : OKS st) (hp : p < 4) (h1 : nG (st.1 p) < 120) (h2 : nIn (st.1 p) < 30) : cIn st.1 (nI p) = 0 := by
  have hG := (hO.1 _ hp).g
  have hp4 := bd4 hp (by omega)
  unfold cIn
  rw [ix_nI (show p < 2 ^ 31 by omega), if_pos hp4, if_pos ⟨h1, h2⟩]
theorem e_input {st : ST} {p : Nat} (hO : OKS st) (hp : p < 4) (h1 : nG (st.1 p) < 120) (h2 : nIn (st.1 p) < 30) : ((stN (cIn st.1 (nI p)) (upN st.1 (ix (nI p)) (addI (st.1 (ix (nI p))))) st.1, st.2) : ST) = inS st p := by
  have hG := (hO.1 _ hp).g
  rw [stN_0 (z0_input hO hp h1 h2), ix_nI (show p < 2 ^ 31 by omega)]
  rfl
theorem okn_input {st : ST} {p : Nat} (hO : OKS st) (hp : p < 4) (h1 : nG (st.1 p) < 120) (h2 : nIn (st.1 p) < 30) : OKS (inS st p) := by
  rw [← e_input hO hp h1 h2]
  exact ok_input hO
theorem n_input (l : Launch) (hfl : l.stackTraces = false) (G : GG) (a : Nat → Nat) (ha : Inj a) (t9 : Nat) (st : ST) (p : Nat) (hO : OKS st) (hp : p < 4) (h1 : nG (st.1 p) < 120) (h2 : nIn (st.1 p) < 30) : Met l yX11_input wsX11_input ({ frames := 7, cells := 2, slots := 12, locals := 103 } : Room) (PcX G a t9 [.ref (a 0), .int (nI p)] (CW G a st)) (QI (fun (r : Int32) (_ : Unit) => r = nI (nG (st.1 p))) (fun _ H => CW G a (inS st p) H) (rng a 0 93)) 2 12 (rng a 0 93) := by
  have hG := (hO.1 _ hp).g
  refine met_nx (k_X11_input l hfl G a ha t9 st (nI p) hO) (z0_input hO hp h1 h2) (fun r _ h => ?_) (fun _ H h => ?_)
  · have h := h.2
    rw [ix_nI (show p < 2 ^ 31 by omega)] at h; exact h
  · rw [← e_input hO hp h1 h2]; exact h
theorem z0_gate {st : ST} {p kd f : Nat} {s9 : Int32} (hO : OKS st) (hp : p < 4) (hk : kd < 4) (hf : f < nG (st.1 p)) (hs : kd = 3 ∨ (ix s9 < nG (st.1 p) ∧ s9 = nI (ix s9))) (h1 : nG (st.1 p) < 120) : cGa st.1 (nI p) (nI kd) (nI f) s9 = 0 := by
  have hG := (hO.1 _ hp).g
  have hp4 := bd4 hp (by omega)
  unfold cGa
  rw [ix_nI (show p < 2 ^ 31 by omega), if_pos hp4, if_pos (bd4 hk (by omega)), if_pos (bd4 hf (by omega)), if_pos (show nI kd = nI 3 ∨ inBd s9 (nG (st.1 p)) from hs.elim (fun q => Or.inl (by rw [q])) (fun q => Or.inr (by rw [q.2]; exact bd4 q.1 (by omega)))), if_pos h1]
theorem e_gate {st : ST} {p kd f : Nat} {s9 : Int32} (hO : OKS st) (hp : p < 4) (hk : kd < 4) (hf : f < nG (st.1 p)) (hs : kd = 3 ∨ (ix s9 < nG (st.1 p) ∧ s9 = nI (ix s9))) (h1 : nG (st.1 p) < 120) : ((stN (cGa st.1 (nI p) (nI kd) (nI f) s9) (upN st.1 (ix (nI p)) (addG (st.1 (ix (nI p))) (ix (nI kd)) (ix (nI f)) (if ix (nI kd) = 3 then ix (nI f) else ix s9))) st.1, st.2) : ST) = gaS st p kd f (ix s9) := by
  have hG := (hO.1 _ hp).g
  rw [stN_0 (z0_gate hO hp hk hf hs h1), ix_nI (show p < 2 ^ 31 by omega), ix_nI (show kd < 2 ^ 31 by omega), ix_nI (show f < 2 ^ 31 by omega)]
  rfl
theorem okn_gate {st : ST} {p kd f : Nat} {s9 : Int32} (hO : OKS st) (hp : p < 4) (hk : kd < 4) (hf : f < nG (st.1 p)) (hs : kd = 3 ∨ (ix s9 < nG (st.1 p) ∧ s9 = nI (ix s9))) (h1 : nG (st.1 p) < 120) : OKS (gaS st p kd f (ix s9)) := by
  rw [← e_gate hO hp hk hf hs h1]
  exact ok_gate hO
theorem n_gate (l : Launch) (hfl : l.stackTraces = false) (G : GG) (a : Nat → Nat) (ha : Inj a) (t9 : Nat) (st : ST) (p kd f : Nat) (s9 : Int32) (hO : OKS st) (hp : p < 4) (hk : kd < 4) (hf : f < nG (st.1 p)) (hs : kd = 3 ∨ (ix s9 < nG (st.1 p) ∧ s9 = nI (ix s9))) (h1 : nG (st.1 p) < 120) : Met l yX11_gate wsX11_gate ({ frames := 7, cells := 5, slots := 30, locals := 103 } : Room) (PcX G a t9 [.ref (a 0), .int (nI p), .int (nI kd), .int (nI f), .int s9] (CW G a st)) (QI (fun (r : Int32) (_ : Unit) => r = nI (nG (st.1 p))) (fun _ H => CW G a (gaS st p kd f (ix s9)) H) (rng a 0 93)) 5 30 (rng a 0 93) := by
  have hG := (hO.1 _ hp).g
  refine met_nx (k_X11_gate l hfl G a ha t9 st (nI p) (nI kd) (nI f) (s9) hO) (z0_gate hO hp hk hf hs h1) (fun r _ h => ?_) (fun _ H h => ?_)
  · have h := h.2
    rw [ix_nI (show p < 2 ^ 31 by omega)] at h; exact h
  · rw [← e_gate hO hp hk hf hs h1]; exact h
theorem z0_out {st : ST} {p g : Nat} (hO : OKS st) (hp : p < 4) (hg : g < nG (st.1 p)) (h1 : nO (st.1 p) < 16) : cOu st.1 (nI p) (nI g) = 0 := by
  have hG := (hO.1 _ hp).g
  have hp4 := bd4 hp (by omega)
  unfold cOu
  rw [ix_nI (show p < 2 ^ 31 by omega), if_pos hp4, if_pos (bd4 hg (by omega)), if_pos h1]
theorem e_out {st : ST} {p g : Nat} (hO : OKS st) (hp : p < 4) (hg : g < nG (st.1 p)) (h1 : nO (st.1 p) < 16) : ((stN (cOu st.1 (nI p) (nI g)) (upN st.1 (ix (nI p)) (addO (st.1 (ix (nI p))) (ix (nI g)))) st.1, st.2) : ST) = ouS st p g := by
  have hG := (hO.1 _ hp).g
  rw [stN_0 (z0_out hO hp hg h1), ix_nI (show p < 2 ^ 31 by omega), ix_nI (show g < 2 ^ 31 by omega)]
  rfl
theorem okn_out {st : ST} {p g : Nat} (hO : OKS st) (hp : p < 4) (hg : g < nG (st.1 p)) (h1 : nO (st.1 p) < 16) : OKS (ouS st p g) := by
  rw [← e_out hO hp hg h1]
  exact ok_out hO
theorem n_out (l : Launch) (hfl : l.stackTraces = false) (G : GG) (a : Nat → Nat) (ha : Inj a) (t9 : Nat) (st : ST) (p g : Nat) (hO : OKS st) (hp : p < 4) (hg : g < nG (st.1 p)) (h1 : nO (st.1 p) < 16) : Met l yX11_out wsX11_out ({ frames := 7, cells := 3, slots := 18, locals := 103 } : Room) (PcX G a t9 [.ref (a 0), .int (nI p), .int (nI g)] (CW G a st)) (QI (fun (r : Int32) (_ : Unit) => r = nI (nO (st.1 p))) (fun _ H => CW G a (ouS st p g) H) (rng a 0 93)) 3 18 (rng a 0 93) := by
  have hG := (hO.1 _ hp).g
  refine met_nx (k_X11_out l hfl G a ha t9 st (nI p) (nI g) hO) (z0_out hO hp hg h1) (fun r _ h => ?_) (fun _ H h => ?_)
  · have h := h.2
    rw [ix_nI (show p < 2 ^ 31 by omega)] at h; exact h
  · rw [← e_out hO hp hg h1]; exact h
theorem z0_adder {st : ST} {p m w : Nat} (hO : OKS st) (hp : p < 4) (hm : m ≤ 2) (hw : 1 ≤ w ∧ w ≤ 6) (h1 : nG (st.1 p) = 0) : cAd st.1 (nI p) (nI m) (nI w) = 0 := by
  have hG := (hO.1 _ hp).g
  have hp4 := bd4 hp (by omega)
  unfold cAd
  rw [ix_nI (show p < 2 ^ 31 by omega), if_pos hp4, if_pos (ble (Nat.zero_le _) hm (by omega)), if_pos (ble hw.1 hw.2 (by omega)), if_pos h1]
theorem e_adder {st : ST} {p m w : Nat} (hO : OKS st) (hp : p < 4) (hm : m ≤ 2) (hw : 1 ≤ w ∧ w ≤ 6) (h1 : nG (st.1 p) = 0) : ((stN (cAd st.1 (nI p) (nI m) (nI w)) (upN st.1 (ix (nI p)) (if ix (nI m) = 0 then ripN (st.1 (ix (nI p))) (ix (nI w)) else joiN (ix (nI m) = 1) (st.1 (ix (nI p))) (ix (nI w)))) st.1, st.2) : ST) = adS st p m w := by
  have hG := (hO.1 _ hp).g
  rw [stN_0 (z0_adder hO hp hm hw h1), ix_nI (show p < 2 ^ 31 by omega), ix_nI (show m < 2 ^ 31 by omega), ix_nI (show w < 2 ^ 31 by omega)]
  rfl
theorem okn_adder {st : ST} {p m w : Nat} (hO : OKS st) (hp : p < 4) (hm : m ≤ 2) (hw : 1 ≤ w ∧ w ≤ 6) (h1 : nG (st.1 p) = 0) : OKS (adS st p m w) := by
  rw [← e_adder hO hp hm hw h1]
  exact ok_adder hO
theorem n_adder (l : Launch) (hfl : l.stackTraces = false) (G : GG) (a : Nat → Nat) (ha : Inj a) (t9 : Nat) (st : ST) (p m w : Nat) (hO : OKS st) (hp : p < 4) (hm : m ≤ 2) (hw : 1 ≤ w ∧ w ≤ 6) (h1 : nG (st.1 p) = 0) : Met l yX11_adder wsX11_adder ({ frames := 7, cells := 4, slots := 24, locals := 121 } : Room) (PcX G a t9 [.ref (a 0), .int (nI p), .int (nI m), .int (nI w)] (CW G a st)) (QI (fun (r : Int32) (_ : Unit) => r = nI (nG ((adS st p m w).1 p))) (fun _ H => CW G a (adS st p m w) H) (rng a 0 93)) 4 24 (rng a 0 93) := by
  have hG := (hO.1 _ hp).g
  refine met_nx (k_X11_adder l hfl G a ha t9 st (nI p) (nI m) (nI w) hO) (z0_adder hO hp hm hw h1) (fun r _ h => ?_) (fun _ H h => ?_)
  · have h := h.2
    rw [ix_nI (show p < 2 ^ 31 by omega), ix_nI (show m < 2 ^ 31 by omega), ix_nI (show w < 2 ^ 31 by omega)] at h
    rw [h]
    show _ = nI (nG (upN st.1 p _ p))
    rw [upN_s]
  · rw [← e_adder hO hp hm hw h1]; exact h
theorem z0_multiplier {st : ST} {p w : Nat} (hO : OKS st) (hp : p < 4) (hw : 1 ≤ w ∧ w ≤ 4) (h1 : nG (st.1 p) = 0) : cMu st.1 (nI p) (nI w) = 0 := by
  have hG := (hO.1 _ hp).g
  have hp4 := bd4 hp (by omega)
  unfold cMu
  rw [ix_nI (show p < 2 ^ 31 by omega), if_pos hp4, if_pos (ble hw.1 hw.2 (by omega)), if_pos h1]
theorem e_multiplier {st : ST} {p w : Nat} (hO : OKS st) (hp : p < 4) (hw : 1 ≤ w ∧ w ≤ 4) (h1 : nG (st.1 p) = 0) : ((stN (cMu st.1 (nI p) (nI w)) (upN st.1 (ix (nI p)) (mulN (st.1 (ix (nI p))) (ix (nI w)))) st.1, st.2) : ST) = muS st p w := by
  have hG := (hO.1 _ hp).g
  rw [stN_0 (z0_multiplier hO hp hw h1), ix_nI (show p < 2 ^ 31 by omega), ix_nI (show w < 2 ^ 31 by omega)]
  rfl
theorem okn_multiplier {st : ST} {p w : Nat} (hO : OKS st) (hp : p < 4) (hw : 1 ≤ w ∧ w ≤ 4) (h1 : nG (st.1 p) = 0) : OKS (muS st p w) := by
  rw [← e_multiplier hO hp hw h1]
  exact ok_multiplier hO
theorem n_multiplier (l : Launch) (hfl : l.stackTraces = false) (G : GG) (a : Nat → Nat) (ha : Inj a) (t9 : Nat) (st : ST) (p w : Nat) (hO : OKS st) (hp : p < 4) (hw : 1 ≤ w ∧ w ≤ 4) (h1 : nG (st.1 p) = 0) : Met l yX11_multiplier wsX11_multiplier ({ frames := 7, cells := 3, slots := 18, locals := 145 } : Room) (PcX G a t9 [.ref (a 0), .int (nI p), .int (nI w)] (CW G a st)) (QI (fun (r : Int32) (_ : Unit) => r = nI (nG ((muS st p w).1 p))) (fun _ H => CW G a (muS st p w) H) (rng a 0 93)) 3 18 (rng a 0 93) := by
  have hG := (hO.1 _ hp).g
  refine met_nx (k_X11_multiplier l hfl G a ha t9 st (nI p) (nI w) hO) (z0_multiplier hO hp hw h1) (fun r _ h => ?_) (fun _ H h => ?_)
  · have h := h.2
    rw [ix_nI (show p < 2 ^ 31 by omega), ix_nI (show w < 2 ^ 31 by omega)] at h
    rw [h]
    show _ = nI (nG (upN st.1 p _ p))
    rw [upN_s]
  · rw [← e_multiplier hO hp hw h1]; exact h
theorem z0_clear {st : ST} {p : Nat} (hO : OKS st) (hp : p < 4) : cCl (nI p) = 0 := by
  have hp4 := bd4 hp (by omega)
  unfold cCl
  rw [if_pos hp4]
theorem e_clear {st : ST} {p : Nat} (hO : OKS st) (hp : p < 4) : ((stN (cCl (nI p)) (upN st.1 (ix (nI p)) (clrN (st.1 (ix (nI p))))) st.1, st.2) : ST) = clS st p := by
  rw [stN_0 (z0_clear hO hp), ix_nI (show p < 2 ^ 31 by omega)]
  rfl
theorem okn_clear {st : ST} {p : Nat} (hO : OKS st) (hp : p < 4) : OKS (clS st p) := by
  rw [← e_clear hO hp]
  exact ok_clear hO
theorem n_clear (l : Launch) (hfl : l.stackTraces = false) (G : GG) (a : Nat → Nat) (ha : Inj a) (t9 : Nat) (st : ST) (p : Nat) (hO : OKS st) (hp : p < 4) : Met l yX11_clear wsX11_clear ({ frames := 7, cells := 1, slots := 6, locals := 103 } : Room) (PcX G a t9 [.ref (a 0), .int (nI p)] (CW G a st)) (QI (fun (r : Int32) (_ : Unit) => r = nI (nG (st.1 p))) (fun _ H => CW G a (clS st p) H) (rng a 0 93)) 1 6 (rng a 0 93) := by
  refine met_nx (k_X11_clear l hfl G a ha t9 st (nI p) hO) (z0_clear hO hp) (fun r _ h => ?_) (fun _ H h => ?_)
  · have h := h.2
    rw [ix_nI (show p < 2 ^ 31 by omega)] at h; exact h
  · rw [← e_clear hO hp]; exact h
theorem z0_cost {st : ST} {kd d x : Nat} (hO : OKS st) (hk : kd < 4) (hd : 1 ≤ d ∧ d ≤ 9) (hx : x ≤ 99) : cCo (nI kd) (nI d) (nI x) = 0 := by
  unfold cCo
  rw [if_pos (bd4 hk (by omega)), if_pos (ble hd.1 hd.2 (by omega)), if_pos (ble (Nat.zero_le _) hx (by omega))]
theorem e_cost {st : ST} {kd d x : Nat} (hO : OKS st) (hk : kd < 4) (hd : 1 ≤ d ∧ d ≤ 9) (hx : x ≤ 99) : ((st.1, stN (cCo (nI kd) (nI d) (nI x)) (un st.2.1 (ix (nI kd)) (ix (nI d))) st.2.1, stN (cCo (nI kd) (nI d) (nI x)) (un st.2.2 (ix (nI kd)) (ix (nI x))) st.2.2) : ST) = coS st kd d x := by
  rw [stN_0 (z0_cost hO hk hd hx), stN_0 (z0_cost hO hk hd hx), ix_nI (show kd < 2 ^ 31 by omega), ix_nI (show d < 2 ^ 31 by omega), ix_nI (show x < 2 ^ 31 by omega)]
  rfl
theorem okn_cost {st : ST} {kd d x : Nat} (hO : OKS st) (hk : kd < 4) (hd : 1 ≤ d ∧ d ≤ 9) (hx : x ≤ 99) : OKS (coS st kd d x) := by
  rw [← e_cost hO hk hd hx]
  exact ok_cost hO
theorem n_cost (l : Launch) (hfl : l.stackTraces = false) (G : GG) (a : Nat → Nat) (ha : Inj a) (t9 : Nat) (st : ST) (kd d x : Nat) (hO : OKS st) (hk : kd < 4) (hd : 1 ≤ d ∧ d ≤ 9) (hx : x ≤ 99) : Met l yX11_cost wsX11_cost ({ frames := 7, cells := 3, slots := 18, locals := 104 } : Room) (PcX G a t9 [.ref (a 0), .int (nI kd), .int (nI d), .int (nI x)] (CW G a st)) (QI (fun (r : Int32) (_ : Unit) => r = nI (st.2.1 kd)) (fun _ H => CW G a (coS st kd d x) H) (rng a 0 93)) 3 18 (rng a 0 93) := by
  refine met_nx (k_X11_cost l hfl G a ha t9 st (nI kd) (nI d) (nI x) hO) (z0_cost hO hk hd hx) (fun r _ h => ?_) (fun _ H h => ?_)
  · have h := h.2
    rw [ix_nI (show kd < 2 ^ 31 by omega)] at h; exact h
  · rw [← e_cost hO hk hd hx]; exact h
theorem z0_stick {st : ST} {p g : Nat} {b9 : Int32} (hO : OKS st) (hp : p < 4) (hg : g < nG (st.1 p)) (hb : b9 = -1 ∨ b9 = 0 ∨ b9 = 1) : cSt st.1 (nI p) (nI g) b9 = 0 := by
  have hG := (hO.1 _ hp).g
  have hp4 := bd4 hp (by omega)
  unfold cSt
  rw [ix_nI (show p < 2 ^ 31 by omega), if_pos hp4, if_pos (bd4 hg (by omega)), if_pos (bstk hb)]
theorem e_stick {st : ST} {p g : Nat} {b9 : Int32} (hO : OKS st) (hp : p < 4) (hg : g < nG (st.1 p)) (hb : b9 = -1 ∨ b9 = 0 ∨ b9 = 1) : ((stN (cSt st.1 (nI p) (nI g) b9) (upN st.1 (ix (nI p)) (stkN (st.1 (ix (nI p))) (ix (nI g)) b9)) st.1, st.2) : ST) = skS st p g b9 := by
  have hG := (hO.1 _ hp).g
  rw [stN_0 (z0_stick hO hp hg hb), ix_nI (show p < 2 ^ 31 by omega), ix_nI (show g < 2 ^ 31 by omega)]
  rfl
theorem okn_stick {st : ST} {p g : Nat} {b9 : Int32} (hO : OKS st) (hp : p < 4) (hg : g < nG (st.1 p)) (hb : b9 = -1 ∨ b9 = 0 ∨ b9 = 1) : OKS (skS st p g b9) := by
  rw [← e_stick hO hp hg hb]
  exact ok_stick hO
theorem n_stick (l : Launch) (hfl : l.stackTraces = false) (G : GG) (a : Nat → Nat) (ha : Inj a) (t9 : Nat) (st : ST) (p g : Nat) (b9 : Int32) (hO : OKS st) (hp : p < 4) (hg : g < nG (st.1 p)) (hb : b9 = -1 ∨ b9 = 0 ∨ b9 = 1) : Met l yX11_stick wsX11_stick ({ frames := 7, cells := 3, slots := 18, locals := 104 } : Room) (PcX G a t9 [.ref (a 0), .int (nI p), .int (nI g), .int b9] (CW G a st)) (QI (fun (r : Int32) (_ : Unit) => r = nT (st.1 p) g) (fun _ H => CW G a (skS st p g b9) H) (rng a 0 93)) 3 18 (rng a 0 93) := by
  have hG := (hO.1 _ hp).g
  refine met_nx (k_X11_stick l hfl G a ha t9 st (nI p) (nI g) (b9) hO) (z0_stick hO hp hg hb) (fun r _ h => ?_) (fun _ H h => ?_)
  · have h := h.2
    rw [ix_nI (show p < 2 ^ 31 by omega), ix_nI (show g < 2 ^ 31 by omega)] at h; exact h
  · rw [← e_stick hO hp hg hb]; exact h
theorem z0_bit {st : ST} {p g x : Nat} (hO : OKS st) (hp : p < 4) (hg : g < nG (st.1 p)) (hx : x ≤ 1073741823) : cBi st.1 (nI p) (nI g) (nI x) = 0 := by
  have hG := (hO.1 _ hp).g
  have hp4 := bd4 hp (by omega)
  unfold cBi
  rw [ix_nI (show p < 2 ^ 31 by omega), if_pos hp4, if_pos (bd4 hg (by omega)), if_pos (ble (Nat.zero_le _) hx (by omega))]
theorem n_bit (l : Launch) (hfl : l.stackTraces = false) (G : GG) (a : Nat → Nat) (ha : Inj a) (t9 : Nat) (st : ST) (p g x : Nat) (hO : OKS st) (hp : p < 4) (hg : g < nG (st.1 p)) (hx : x ≤ 1073741823) : Met l yX11_bit wsX11_bit ({ frames := 7, cells := 3, slots := 18, locals := 104 } : Room) (PcX G a t9 [.ref (a 0), .int (nI p), .int (nI g), .int (nI x)] (CW G a st)) (QI (fun (r : Int32) (_ : Unit) => r = bi (bt (st.1 p) x g)) (fun _ H => CW G a st H) (rng a 0 93)) 3 18 (rng a 0 93) := by
  have hG := (hO.1 _ hp).g
  refine met_nx (k_X11_bit l hfl G a ha t9 st (nI p) (nI g) (nI x) hO) (z0_bit hO hp hg hx) (fun r _ h => ?_) (fun _ H h => ?_)
  · have h := h.2
    rw [ix_nI (show p < 2 ^ 31 by omega), ix_nI (show g < 2 ^ 31 by omega), ix_nI (show x < 2 ^ 31 by omega)] at h; exact h
  · exact h
theorem z0_value {st : ST} {p x : Nat} (hO : OKS st) (hp : p < 4) (hx : x ≤ 1073741823) : cVa (nI p) (nI x) = 0 := by
  have hp4 := bd4 hp (by omega)
  unfold cVa
  rw [if_pos hp4, if_pos (ble (Nat.zero_le _) hx (by omega))]
theorem n_value (l : Launch) (hfl : l.stackTraces = false) (G : GG) (a : Nat → Nat) (ha : Inj a) (t9 : Nat) (st : ST) (p x : Nat) (hO : OKS st) (hp : p < 4) (hx : x ≤ 1073741823) : Met l yX11_value wsX11_value ({ frames := 7, cells := 2, slots := 12, locals := 104 } : Room) (PcX G a t9 [.ref (a 0), .int (nI p), .int (nI x)] (CW G a st)) (QI (fun (r : Int32) (_ : Unit) => r = vl (st.1 p) x) (fun _ H => CW G a st H) (rng a 0 93)) 2 12 (rng a 0 93) := by
  refine met_nx (k_X11_value l hfl G a ha t9 st (nI p) (nI x) hO) (z0_value hO hp hx) (fun r _ h => ?_) (fun _ H h => ?_)
  · have h := h.2
    rw [ix_nI (show p < 2 ^ 31 by omega), ix_nI (show x < 2 ^ 31 by omega)] at h; exact h
  · exact h
theorem z0_valueAnew {st : ST} {p x : Nat} (hO : OKS st) (hp : p < 4) (hx : x ≤ 1073741823) : cVa (nI p) (nI x) = 0 := by
  have hp4 := bd4 hp (by omega)
  unfold cVa
  rw [if_pos hp4, if_pos (ble (Nat.zero_le _) hx (by omega))]
theorem n_valueAnew (l : Launch) (hfl : l.stackTraces = false) (G : GG) (a : Nat → Nat) (ha : Inj a) (t9 : Nat) (st : ST) (p x : Nat) (hO : OKS st) (hp : p < 4) (hx : x ≤ 1073741823) : Met l yX11_valueAnew wsX11_valueAnew ({ frames := 7, cells := 2, slots := 12, locals := 104 } : Room) (PcX G a t9 [.ref (a 0), .int (nI p), .int (nI x)] (CW G a st)) (QI (fun (r : Int32) (_ : Unit) => r = vl (st.1 p) x) (fun _ H => CW G a st H) (rng a 0 93)) 2 12 (rng a 0 93) := by
  refine met_nx (k_X11_valueAnew l hfl G a ha t9 st (nI p) (nI x) hO) (z0_valueAnew hO hp hx) (fun r _ h => ?_) (fun _ H h => ?_)
  · have h := h.2
    rw [ix_nI (show p < 2 ^ 31 by omega), ix_nI (show x < 2 ^ 31 by omega)] at h; exact h
  · exact h
theorem z0_ofNet {st : ST} {p w : Nat} (hO : OKS st) (hp : p < 4) (hw : w ≤ 6) : cOf (nI p) (nI w) = 0 := by
  have hp4 := bd4 hp (by omega)
  unfold cOf
  rw [if_pos hp4, if_pos (ble (Nat.zero_le _) hw (by omega))]
theorem n_ofNet (l : Launch) (hfl : l.stackTraces = false) (G : GG) (a : Nat → Nat) (ha : Inj a) (t9 : Nat) (st : ST) (p w : Nat) (hO : OKS st) (hp : p < 4) (hw : w ≤ 6) : Met l yX11_ofNet wsX11_ofNet ({ frames := 7, cells := 2, slots := 12, locals := 104 } : Room) (PcX G a t9 [.ref (a 0), .int (nI p), .int (nI w)] (CW G a st)) (QI (fun (r : Int32) (_ : Unit) => r = ofV (st.1 p) st.2.1 st.2.2 w) (fun _ H => CW G a st H) (rng a 0 93)) 2 12 (rng a 0 93) := by
  refine met_nx (k_X11_ofNet l hfl G a ha t9 st (nI p) (nI w) hO) (z0_ofNet hO hp hw) (fun r _ h => ?_) (fun _ H h => ?_)
  · have h := h.2
    rw [ix_nI (show p < 2 ^ 31 by omega), ix_nI (show w < 2 ^ 31 by omega)] at h; exact h
  · exact h
theorem z0_time {st : ST} {p g : Nat} (hO : OKS st) (hp : p < 4) (hg : g < nG (st.1 p)) : cTi st.1 (nI p) (nI g) = 0 := by
  have hG := (hO.1 _ hp).g
  have hp4 := bd4 hp (by omega)
  unfold cTi
  rw [ix_nI (show p < 2 ^ 31 by omega), if_pos hp4, if_pos (bd4 hg (by omega))]
theorem n_time (l : Launch) (hfl : l.stackTraces = false) (G : GG) (a : Nat → Nat) (ha : Inj a) (t9 : Nat) (st : ST) (p g : Nat) (hO : OKS st) (hp : p < 4) (hg : g < nG (st.1 p)) : Met l yX11_time wsX11_time ({ frames := 7, cells := 2, slots := 12, locals := 103 } : Room) (PcX G a t9 [.ref (a 0), .int (nI p), .int (nI g)] (CW G a st)) (QI (fun (r : Int32) (_ : Unit) => r = nI (tm (st.1 p) st.2.1 g)) (fun _ H => CW G a st H) (rng a 0 93)) 2 12 (rng a 0 93) := by
  have hG := (hO.1 _ hp).g
  refine met_nx (k_X11_time l hfl G a ha t9 st (nI p) (nI g) hO) (z0_time hO hp hg) (fun r _ h => ?_) (fun _ H h => ?_)
  · have h := h.2
    rw [ix_nI (show p < 2 ^ 31 by omega), ix_nI (show g < 2 ^ 31 by omega)] at h; exact h
  · exact h
theorem z0_path {st : ST} {p x : Nat} (hO : OKS st) (hp : p < 4) (hx : x < 2 ^ 31) : cPa (nI p) (nI x) = 0 := by
  have hp4 := bd4 hp (by omega)
  unfold cPa
  rw [if_pos hp4, if_pos (nI_pos hx)]
theorem n_path (l : Launch) (hfl : l.stackTraces = false) (G : GG) (a : Nat → Nat) (ha : Inj a) (t9 : Nat) (st : ST) (p x : Nat) (hO : OKS st) (hp : p < 4) (hx : x < 2 ^ 31) : Met l yX11_path wsX11_path ({ frames := 7, cells := 2, slots := 12, locals := 103 } : Room) (PcX G a t9 [.ref (a 0), .int (nI p), .int (nI x)] (CW G a st)) (QI (fun (r : Int32) (_ : Unit) => r = paV (st.1 p) st.2.1 (nI x)) (fun _ H => CW G a st H) (rng a 0 93)) 2 12 (rng a 0 93) := by
  refine met_nx (k_X11_path l hfl G a ha t9 st (nI p) (nI x) hO) (z0_path hO hp hx) (fun r _ h => ?_) (fun _ H h => ?_)
  · have h := h.2
    rw [ix_nI (show p < 2 ^ 31 by omega)] at h; exact h
  · exact h
theorem z0_changes {st : ST} {p f v w : Nat} (hO : OKS st) (hp : p < 4) (hf : f ≤ 1073741823) (hv : v ≤ 1073741823) (hw : w ≤ 2) : cCh (nI p) (nI f) (nI v) (nI w) = 0 := by
  have hp4 := bd4 hp (by omega)
  unfold cCh
  rw [if_pos hp4, if_pos ⟨ble (Nat.zero_le _) hf (by omega), ble (Nat.zero_le _) hv (by omega), ble (Nat.zero_le _) hw (by omega)⟩]
theorem n_changes (l : Launch) (hfl : l.stackTraces = false) (G : GG) (a : Nat → Nat) (ha : Inj a) (t9 : Nat) (st : ST) (p f v w : Nat) (hO : OKS st) (hp : p < 4) (hf : f ≤ 1073741823) (hv : v ≤ 1073741823) (hw : w ≤ 2) : Met l yX11_changes wsX11_changes ({ frames := 8, cells := 4, slots := 24, locals := 126 } : Room) (PcX G a t9 [.ref (a 0), .int (nI p), .int (nI f), .int (nI v), .int (nI w)] (CW G a st)) (QI (fun (r : Int32) (_ : Unit) => r = nI (tkV (st.1 p) st.2.1 f v (mxT (st.1 p) st.2.1 (nG (st.1 p)) + 1) w)) (fun _ H => CW G a st H) (rng a 0 93)) 4 24 (rng a 0 93) := by
  refine met_nx (k_X11_changes l hfl G a ha t9 st (nI p) (nI f) (nI v) (nI w) hO) (z0_changes hO hp hf hv hw) (fun r _ h => ?_) (fun _ H h => ?_)
  · have h := h.2
    rw [ix_nI (show p < 2 ^ 31 by omega), ix_nI (show f < 2 ^ 31 by omega), ix_nI (show v < 2 ^ 31 by omega), ix_nI (show w < 2 ^ 31 by omega)] at h; exact h
  · exact h
theorem z0_changesAnew {st : ST} {p f v w : Nat} (hO : OKS st) (hp : p < 4) (hf : f ≤ 1073741823) (hv : v ≤ 1073741823) (hw : w ≤ 2) : cCh (nI p) (nI f) (nI v) (nI w) = 0 := by
  have hp4 := bd4 hp (by omega)
  unfold cCh
  rw [if_pos hp4, if_pos ⟨ble (Nat.zero_le _) hf (by omega), ble (Nat.zero_le _) hv (by omega), ble (Nat.zero_le _) hw (by omega)⟩]
theorem n_changesAnew (l : Launch) (hfl : l.stackTraces = false) (G : GG) (a : Nat → Nat) (ha : Inj a) (t9 : Nat) (st : ST) (p f v w : Nat) (hO : OKS st) (hp : p < 4) (hf : f ≤ 1073741823) (hv : v ≤ 1073741823) (hw : w ≤ 2) : Met l yX11_changesAnew wsX11_changesAnew ({ frames := 8, cells := 4, slots := 24, locals := 126 } : Room) (PcX G a t9 [.ref (a 0), .int (nI p), .int (nI f), .int (nI v), .int (nI w)] (CW G a st)) (QI (fun (r : Int32) (_ : Unit) => r = nI (tkV (st.1 p) st.2.1 f v (mxT (st.1 p) st.2.1 (nG (st.1 p)) + 1) w)) (fun _ H => CW G a st H) (rng a 0 93)) 4 24 (rng a 0 93) := by
  refine met_nx (k_X11_changesAnew l hfl G a ha t9 st (nI p) (nI f) (nI v) (nI w) hO) (z0_changesAnew hO hp hf hv hw) (fun r _ h => ?_) (fun _ H h => ?_)
  · have h := h.2
    rw [ix_nI (show p < 2 ^ 31 by omega), ix_nI (show f < 2 ^ 31 by omega), ix_nI (show v < 2 ^ 31 by omega), ix_nI (show w < 2 ^ 31 by omega)] at h; exact h
  · exact h
theorem z0_off {st : ST} {p op w : Nat} (hO : OKS st) (hp : p < 4) (ho : op ≤ 1) (hw : w ≤ 3) (h1 : 2 ≤ nIn (st.1 p) ∧ nIn (st.1 p) ≤ 12 ∧ nIn (st.1 p) % 2 = 0) : cOff st.1 (nI p) (nI op) (nI w) = 0 := by
  have hp4 := bd4 hp (by omega)
  unfold cOff
  rw [ix_nI (show p < 2 ^ 31 by omega), if_pos hp4, if_pos (ble (Nat.zero_le _) ho (by omega)), if_pos (ble (Nat.zero_le _) hw (by omega)), if_pos h1]
theorem n_off (l : Launch) (hfl : l.stackTraces = false) (G : GG) (a : Nat → Nat) (ha : Inj a) (t9 : Nat) (st : ST) (p op w : Nat) (hO : OKS st) (hp : p < 4) (ho : op ≤ 1) (hw : w ≤ 3) (h1 : 2 ≤ nIn (st.1 p) ∧ nIn (st.1 p) ≤ 12 ∧ nIn (st.1 p) % 2 = 0) : Met l yX11_off wsX11_off ({ frames := 7, cells := 4, slots := 24, locals := 123 } : Room) (PcX G a t9 [.ref (a 0), .int (nI p), .int (nI op), .int (nI w)] (CW G a st)) (QI (fun (r : Int32) (_ : Unit) => r = offV (st.1 p) op w) (fun _ H => CW G a st H) (rng a 0 93)) 4 24 (rng a 0 93) := by
  refine met_nx (k_X11_off l hfl G a ha t9 st (nI p) (nI op) (nI w) hO) (z0_off hO hp ho hw h1) (fun r _ h => ?_) (fun _ H h => ?_)
  · have h := h.2
    rw [ix_nI (show p < 2 ^ 31 by omega), ix_nI (show op < 2 ^ 31 by omega), ix_nI (show w < 2 ^ 31 by omega)] at h; exact h
  · exact h
theorem z0_unseen {st : ST} {p op w : Nat} (hO : OKS st) (hp : p < 4) (ho : op ≤ 1) (hw : 2 ≤ w ∧ w ≤ 99) (h1 : 2 ≤ nIn (st.1 p) ∧ nIn (st.1 p) ≤ 12 ∧ nIn (st.1 p) % 2 = 0) : cUns st.1 (nI p) (nI op) (nI w) = 0 := by
  have hp4 := bd4 hp (by omega)
  unfold cUns
  rw [ix_nI (show p < 2 ^ 31 by omega), if_pos hp4, if_pos (ble (Nat.zero_le _) ho (by omega)), if_pos (ble hw.1 hw.2 (by omega)), if_pos h1]
theorem n_unseen (l : Launch) (hfl : l.stackTraces = false) (G : GG) (a : Nat → Nat) (ha : Inj a) (t9 : Nat) (st : ST) (p op w : Nat) (hO : OKS st) (hp : p < 4) (ho : op ≤ 1) (hw : 2 ≤ w ∧ w ≤ 99) (h1 : 2 ≤ nIn (st.1 p) ∧ nIn (st.1 p) ≤ 12 ∧ nIn (st.1 p) % 2 = 0) : Met l yX11_unseen wsX11_unseen ({ frames := 7, cells := 4, slots := 24, locals := 123 } : Room) (PcX G a t9 [.ref (a 0), .int (nI p), .int (nI op), .int (nI w)] (CW G a st)) (QI (fun (r : Int32) (_ : Unit) => r = AU (st.1 p) op w (2 ^ nIn (st.1 p))) (fun _ H => CW G a st H) (rng a 0 93)) 4 24 (rng a 0 93) := by
  refine met_nx (k_X11_unseen l hfl G a ha t9 st (nI p) (nI op) (nI w) hO) (z0_unseen hO hp ho hw h1) (fun r _ h => ?_) (fun _ H h => ?_)
  · have h := h.2
    rw [ix_nI (show p < 2 ^ 31 by omega), ix_nI (show op < 2 ^ 31 by omega), ix_nI (show w < 2 ^ 31 by omega)] at h; exact h
  · exact h
theorem z0_unlike {st : ST} {p v : Nat} (hO : OKS st) (hp : p < 4) (hv : v < 4) (h1 : nIn (st.1 p) = nIn (st.1 v) ∧ nIn (st.1 p) ≤ 12) : cUn st.1 (nI p) (nI v) = 0 := by
  have hp4 := bd4 hp (by omega)
  unfold cUn
  rw [ix_nI (show p < 2 ^ 31 by omega), ix_nI (show v < 2 ^ 31 by omega), if_pos hp4, if_pos (bd4 hv (by omega)), if_pos h1]
theorem n_unlike (l : Launch) (hfl : l.stackTraces = false) (G : GG) (a : Nat → Nat) (ha : Inj a) (t9 : Nat) (st : ST) (p v : Nat) (hO : OKS st) (hp : p < 4) (hv : v < 4) (h1 : nIn (st.1 p) = nIn (st.1 v) ∧ nIn (st.1 p) ≤ 12) : Met l yX11_unlike wsX11_unlike ({ frames := 7, cells := 3, slots := 18, locals := 103 } : Room) (PcX G a t9 [.ref (a 0), .int (nI p), .int (nI v)] (CW G a st)) (QI (fun (r : Int32) (_ : Unit) => unS (st.1 p) (st.1 v) (2 ^ nIn (st.1 p)) r) (fun _ H => CW G a st H) (rng a 0 93)) 3 18 (rng a 0 93) := by
  refine met_nx (k_X11_unlike l hfl G a ha t9 st (nI p) (nI v) hO) (z0_unlike hO hp hv h1) (fun r _ h => ?_) (fun _ H h => ?_)
  · have h := h.2
    rw [ix_nI (show p < 2 ^ 31 by omega), ix_nI (show v < 2 ^ 31 by omega)] at h; exact h
  · exact h
theorem z0_digit {st : ST} {x k : Nat} (hO : OKS st) (hx : x ≤ 2147483647) (hk : k ≤ 15) : cDi (nI x) (nI k) = 0 := by
  unfold cDi
  rw [if_pos ⟨nI_pos (by omega), nI_le hk (by omega)⟩, if_pos (ble (Nat.zero_le _) hx (by omega))]
theorem n_digit (l : Launch) (hfl : l.stackTraces = false) (G : GG) (a : Nat → Nat) (ha : Inj a) (t9 : Nat) (st : ST) (x k : Nat) (hO : OKS st) (hx : x ≤ 2147483647) (hk : k ≤ 15) : Met l yX11_digit wsX11_digit ({ frames := 7, cells := 1, slots := 6, locals := 104 } : Room) (PcX G a t9 [.ref (a 0), .int (nI x), .int (nI k)] (CW G a st)) (QI (fun (r : Int32) (_ : Unit) => r = diV (nI x) k) (fun _ H => CW G a st H) (rng a 0 93)) 1 6 (rng a 0 93) := by
  refine met_nx (k_X11_digit l hfl G a ha t9 st (nI x) (nI k) hO) (z0_digit hO hx hk) (fun r _ h => ?_) (fun _ H h => ?_)
  · have h := h.2
    rw [ix_nI (show k < 2 ^ 31 by omega)] at h; exact h
  · exact h
