/-! from what a method needs to what the law keeps: the whole of the class, the whole of the reference -/
section CONS
variable {l : Launch} {y : MethodName} {ws : List Cond} {rm : Room} {mc ms : Nat} {free free' : Addr → Prop} {P' : Array Value → State → Prop} {Q' : Array Value → State → Outcome → State → Prop} {XC' : String → State → State → Prop}
theorem vxm_from (hP : ∀ (args : Array Value) (s : State), P' args s → ∃ (P : Array Value → State → Prop) (Q : Array Value → State → Outcome → State → Prop) (XC : String → State → State → Prop), vx_Met l y ws rm P Q XC mc ms free ∧ P args s ∧ (∀ o t, Q args s o t → Q' args s o t) ∧ (∀ E t, XC E s t → XC' E s t)) (hf : ∀ q, free q → free' q) : vx_Met l y ws rm P' Q' XC' mc ms free' := by
  intro p e ha hc hk s m args below hfr happ hp hK
  obtain ⟨P, Q, XC, h, h1, h2, h3⟩ := hP args s hp
  obtain ⟨n, o, a1, a2, a3, a4⟩ := h p e ha hc hk s m args below hfr happ h1 trivial
  refine ⟨n, o, a1, a2, a3, ?_⟩
  rcases a4 with ⟨b1, L, b2, b3⟩ | ⟨q, b1, E, ce, L, c1, c2, c3, c4, c5, c6, c7⟩
  · exact Or.inl ⟨h2 _ _ b1, L, b2, fun q hq => hf _ (b3 q hq)⟩
  · exact Or.inr ⟨q, b1, E, ce, L, h3 E _ c1, c2, c3, c4, c5, c6, fun z hz => hf _ (c7 z hz)⟩
theorem met_from (hP : ∀ (args : Array Value) (s : State), P' args s → ∃ (P : Array Value → State → Prop) (Q : Array Value → State → Outcome → State → Prop), Met l y ws rm P Q mc ms free ∧ P args s ∧ (∀ o t, Q args s o t → Q' args s o t)) (hf : ∀ q, free q → free' q) : Met l y ws rm P' Q' mc ms free' := by
  intro p e ha hc hk s m args below hfr happ hp hK
  obtain ⟨P, Q, h, h1, h2⟩ := hP args s hp
  obtain ⟨n, o, a1, a2, a3, b1, L, b2, b3⟩ := h p e ha hc hk s m args below hfr happ h1 trivial
  exact ⟨n, o, a1, a2, a3, h2 _ _ b1, L, b2, fun q hq => hf _ (b3 q hq)⟩
end CONS
abbrev ST : Type := (Nat → NT) × (Nat → Nat) × (Nat → Nat)
def OKS (st : ST) : Prop := (∀ z, z < 4 → WF (st.1 z)) ∧ DL st.2.1
/-- the class, whatever its workplaces hold -/
def CW (G : GG) (a : Nat → Nat) (st : ST) (H : Heap) : Prop :=
  PP G (gobW a) H ∧ PP G (garW G a) H ∧ PP G (rowW G a 2 4 (fun z => nI (st.2.1 z))) H ∧ PP G (rowW G a 4 4 (fun z => nI (st.2.2 z))) H ∧ (∃ l9 y9 k9, PP G (makO a 6 l9 y9 k9) H) ∧ (∃ f, PP G (rowW G a 7 6 f) H) ∧ (∃ f, PP G (rowW G a 9 6 f) H) ∧ (∃ f, PP G (rowW G a 11 6 f) H) ∧ (∃ f, PP G (rowW G a 13 6 f) H) ∧ (∃ f, PP G (rowW G a 15 6 f) H) ∧ (∃ f, PP G (rowW G a 17 16 f) H) ∧ (∃ f, PP G (rowW G a 19 5 f) H) ∧
  (∃ mk bs ld, PP G (wirW G a 21 mk bs ld) H) ∧ (∃ x f, PP G (timW G a 28 x f) H) ∧ (∃ w o, PP G (lanW G a 31 w o) H) ∧ (∃ w o, PP G (lanW G a 36 w o) H) ∧ (∃ x y z, PP G (talW a 41 x y z) H) ∧ (∃ u w, PP G (wavW G a 42 u w) H) ∧ (∃ f, PP G (ticW G a 45 f) H) ∧ (∃ x y z v u, PP G (audW a 48 x y z v u) H) ∧ NSP G a st.1 H
theorem kpT {G : GG} {A : Nat → Prop} {ws : va_W} {s t : State} (hF : va_F A s t) (h : PP G ws s.heap) (d : dj A ws) : PP G ws t.heap := kp (A1 := A) hF.2 h d
theorem NS_k {G : GG} {a : Nat → Nat} (ha : Inj a) {Ns : Nat → NT} {i n : Nat} {H H1 : Heap} (hk : ∀ q : Nat, q < H.size → ¬ rng a i n q → H1[q]? = H[q]?) (hd : i + n ≤ 49 ∨ 93 ≤ i) (h : NSP G a Ns H) : NSP G a Ns H1 := fun z hz => kp hk (h z hz) (dj_rng ha netW_in (by omega))
theorem CW_k {G : GG} {a : Nat → Nat} (ha : Inj a) {st : ST} {i n : Nat} {H H1 : Heap} (hk : ∀ q : Nat, q < H.size → ¬ rng a i n q → H1[q]? = H[q]?) (hi : 93 ≤ i) (h : CW G a st H) : CW G a st H1 := by
  obtain ⟨h0, h1, h2, h3, ⟨_, _, _, h4⟩, ⟨_, h5⟩, ⟨_, h6⟩, ⟨_, h7⟩, ⟨_, h8⟩, ⟨_, h9⟩, ⟨_, h10⟩, ⟨_, h11⟩, ⟨_, _, _, h12⟩, ⟨_, _, h13⟩, ⟨_, _, h14⟩, ⟨_, _, h15⟩, ⟨_, _, _, h16⟩, ⟨_, _, h17⟩, ⟨_, h18⟩, ⟨_, _, _, _, _, h19⟩, h20⟩ := h
  exact ⟨kp hk h0 (dj_cons (rng_no ha (by omega)) dj_nil), kp hk h1 (dj_cons (rng_no ha (by omega)) dj_nil), kp hk h2 (dj_rng ha rowW_in (by omega)), kp hk h3 (dj_rng ha rowW_in (by omega)), ⟨_, _, _, kp hk h4 (dj_cons (rng_no ha (by omega)) dj_nil)⟩, ⟨_, kp hk h5 (dj_rng ha rowW_in (by omega))⟩, ⟨_, kp hk h6 (dj_rng ha rowW_in (by omega))⟩, ⟨_, kp hk h7 (dj_rng ha rowW_in (by omega))⟩, ⟨_, kp hk h8 (dj_rng ha rowW_in (by omega))⟩, ⟨_, kp hk h9 (dj_rng ha rowW_in (by omega))⟩, ⟨_, kp hk h10 (dj_rng ha rowW_in (by omega))⟩, ⟨_, kp hk h11 (dj_rng ha rowW_in (by omega))⟩, ⟨_, _, _, kp hk h12 (dj_rng ha wirW_in (by omega))⟩, ⟨_, _, kp hk h13 (dj_rng ha timW_in (by omega))⟩, ⟨_, _, kp hk h14 (dj_rng ha lanW_in (by omega))⟩, ⟨_, _, kp hk h15 (dj_rng ha lanW_in (by omega))⟩, ⟨_, _, _, kp hk h16 (dj_rng ha talW_in (by omega))⟩, ⟨_, _, kp hk h17 (dj_rng ha wavW_in (by omega))⟩, ⟨_, kp hk h18 (dj_rng ha ticW_in (by omega))⟩, ⟨_, _, _, _, _, kp hk h19 (dj_rng ha audW_in (by omega))⟩, NS_k ha hk (Or.inr hi) h20⟩
theorem XE_ne {K : Nat} {E : String} (h : XE K E) : K ≠ 0 := by
  rcases h with ⟨_, h⟩ | ⟨_, h⟩ | ⟨_, h⟩ <;> omega
theorem orE {A B C : Nat → Prop} (h1 : ∀ q, A q → C q) (h2 : ∀ q, B q → C q) : ∀ q, orA A B q → C q := fun q h => h.elim (h1 q) (h2 q)
theorem nAE {C : Nat → Prop} : ∀ q, nA q → C q := fun q h => h.elim
