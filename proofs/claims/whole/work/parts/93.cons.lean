/-! from what a method needs to what the law keeps: the whole of the class, the whole of the reference -/
section CONS
variable {l : Launch} {y : MethodName} {ws : List Cond} {rm : Room} {mc ms : Nat} {free free' : Addr → Prop} {P' : Array Value → State → Prop} {Q' : Array Value → State → Outcome → State → Prop} {XC' : String → State → State → Prop}
theorem vxm_from (hP : ∀ (args : Array Value) (s : State), P' args s → ∃ (P : Array Value → State → Prop) (Q : Array Value → State → Outcome → State → Prop) (XC : String → State → State → Prop), vx_Met l y ws rm P Q XC mc ms free ∧ P args s ∧ (∀ o t, Q args s o t → Q' args s o t) ∧ (∀ E t, XC E s t → XC' E s t)) (hf : ∀ q, free q → free' q) : vx_Met l y ws rm P' Q' XC' mc ms free' := by
  intro p e ha hc hk s m args below hfr happ hp hK
  obtain ⟨P, Q, XC, h, h1, h2, h3⟩ := hP args s hp
  obtain ⟨n, o, a1, a2, a3, a4⟩ := h p e ha hc hk s m args below hfr happ h1 trivial
  refine ⟨n, o, a1, a2, a3, ?_⟩
  rcases a4 with ⟨b1, L, b2, b3⟩ | ⟨q, b1, E, ce, L, c1, c2, c3, c4, c5, c6, c7⟩
  · exact Or.inl ⟨h2 _ _ b1, L, b2, fun q hq => hf _ (b3 q hq)⟩
  · exact Or.inr ⟨q, b1, E, ce, L, h3 E _ c1, c2, c3, c4, c5, c6, fun z hz => hf _ (c7 z hz)⟩
theorem met_from (hP : ∀ (args : Array Value) (s : State), P' args s → ∃ (P : Array Value → State → Prop) (Q : Array Value → State → Outcome → State → Prop), Met l y ws rm P Q mc ms free ∧ P args s ∧ (∀ o t, Q args s o t → Q' args s o t)) (hf : ∀ q, free q → free' q) : Met l y ws rm P' Q' mc ms free' := by
  intro p e ha hc hk s m args below hfr happ hp hK
  obtain ⟨P, Q, h, h1, h2⟩ := hP args s hp
  obtain ⟨n, o, a1, a2, a3, b1, L, b2, b3⟩ := h p e ha hc hk s m args below hfr happ h1 trivial
  exact ⟨n, o, a1, a2, a3, h2 _ _ b1, L, b2, fun q hq => hf _ (b3 q hq)⟩
end CONS
abbrev ST : Type := (Nat → NT) × (Nat → Nat) × (Nat → Nat)
def OKS (st : ST) : Prop := (∀ z, z < 4 → WF (st.1 z)) ∧ DL st.2.1
/-- the class, whatever its workplaces hold -/
def CW (G : GG) (a : Nat → Nat) (st : ST) (H : Heap) : Prop :=
  PP G (gobW a) H ∧ PP G (garW G a) H ∧ PP G (rowW G a 2 4 (fun z => nI (st.2.1 z))) H ∧ PP G (rowW G a 4 4 (fun z => nI (st.2.2 z))) H ∧ (∃ l9 y9 k9, PP G (makO a 6 l9 y9 k9) H) ∧ (∃ f, PP G (rowW G a 7 6 f) H) ∧ (∃ f, PP G (rowW G a 9 6 f) H) ∧ (∃ f, PP G (rowW G a 11 6 f) H) ∧ (∃ f, PP G (rowW G a 13 6 f) H) ∧ (∃ f, PP G (rowW G a 15 6 f) H) ∧ (∃ f, PP G (rowW G a 17 16 f) H) ∧ (∃ f, PP G (rowW G a 19 5 f) H) ∧
  (∃ mk bs ld, PP G (wirW G a 21 mk bs ld) H) ∧ (∃ x f, PP G (timW G a 28 x f) H) ∧ (∃ w o, PP G (lanW G a 31 w o) H) ∧ (∃ w o, PP G (lanW G a 36 w o) H) ∧ (∃ x y z, PP G (talW a 41 x y z) H) ∧ (∃ u w, PP G (wavW G a 42 u w) H) ∧ (∃ f, PP G (ticW G a 45 f) H) ∧ (∃ x y z v u, PP G (audW a 48 x y z v u) H) ∧ NSP G a st.1 H
/-- the reference, whatever its workplaces hold -/
def MW (G : GG) (a : Nat → Nat) (st : ST) (th : Int32) (H : Heap) : Prop :=
  (∃ cy, PP G (modO a cy th) H) ∧ (∃ fs sc, FS st.1 fs sc ∧ PP G (sixW G a st.1 fs sc) H) ∧ PP G (twoW G a st.1) H ∧ PP G (ar1 G a 102 4 (fun z => nI (st.2.1 z))) H ∧ PP G (ar1 G a 103 4 (fun z => nI (st.2.2 z))) H ∧ (∃ f, PP G (ar1 G a 104 120 f) H) ∧ (∃ f, PP G (ar1 G a 105 120 f) H) ∧ (∃ f, PP G (ar1 G a 106 120 f) H) ∧ (∃ f, PP G (ar1 G a 107 120 f) H) ∧ (∃ f, PP G (ar1 G a 108 1200 f) H) ∧ (∃ f, PP G (ar1 G a 109 6 f) H) ∧ (∃ f, PP G (ar1 G a 110 6 f) H) ∧ (∃ f, PP G (ar1 G a 111 6 f) H) ∧ (∃ f, PP G (ar1 G a 112 6 f) H) ∧ (∃ f, PP G (ar1 G a 113 16 f) H) ∧ (∃ f, PP G (ar1 G a 114 16 f) H)
abbrev outP (G : GG) (a : Nat → Nat) (f : Nat → Int64) (H : Heap) : Prop := PP G [(a 115, .inl (gJ G, 1, .inr (.inl f)))] H
theorem kpT {G : GG} {A : Nat → Prop} {ws : va_W} {s t : State} (hF : va_F A s t) (h : PP G ws s.heap) (d : dj A ws) : PP G ws t.heap := kp (A1 := A) hF.2 h d
theorem NS_k {G : GG} {a : Nat → Nat} (ha : Inj a) {Ns : Nat → NT} {i n : Nat} {H H1 : Heap} (hk : ∀ q : Nat, q < H.size → ¬ rng a i n q → H1[q]? = H[q]?) (hd : i + n ≤ 49 ∨ 93 ≤ i) (h : NSP G a Ns H) : NSP G a Ns H1 := fun z hz => kp hk (h z hz) (dj_rng ha netW_in (by omega))
theorem CW_k {G : GG} {a : Nat → Nat} (ha : Inj a) {st : ST} {i n : Nat} {H H1 : Heap} (hk : ∀ q : Nat, q < H.size → ¬ rng a i n q → H1[q]? = H[q]?) (hi : 93 ≤ i) (h : CW G a st H) : CW G a st H1 := by
  obtain ⟨h0, h1, h2, h3, ⟨_, _, _, h4⟩, ⟨_, h5⟩, ⟨_, h6⟩, ⟨_, h7⟩, ⟨_, h8⟩, ⟨_, h9⟩, ⟨_, h10⟩, ⟨_, h11⟩, ⟨_, _, _, h12⟩, ⟨_, _, h13⟩, ⟨_, _, h14⟩, ⟨_, _, h15⟩, ⟨_, _, _, h16⟩, ⟨_, _, h17⟩, ⟨_, h18⟩, ⟨_, _, _, _, _, h19⟩, h20⟩ := h
  exact ⟨kp hk h0 (dj_cons (rng_no ha (by omega)) dj_nil), kp hk h1 (dj_cons (rng_no ha (by omega)) dj_nil), kp hk h2 (dj_rng ha rowW_in (by omega)), kp hk h3 (dj_rng ha rowW_in (by omega)), ⟨_, _, _, kp hk h4 (dj_cons (rng_no ha (by omega)) dj_nil)⟩, ⟨_, kp hk h5 (dj_rng ha rowW_in (by omega))⟩, ⟨_, kp hk h6 (dj_rng ha rowW_in (by omega))⟩, ⟨_, kp hk h7 (dj_rng ha rowW_in (by omega))⟩, ⟨_, kp hk h8 (dj_rng ha rowW_in (by omega))⟩, ⟨_, kp hk h9 (dj_rng ha rowW_in (by omega))⟩, ⟨_, kp hk h10 (dj_rng ha rowW_in (by omega))⟩, ⟨_, kp hk h11 (dj_rng ha rowW_in (by omega))⟩, ⟨_, _, _, kp hk h12 (dj_rng ha wirW_in (by omega))⟩, ⟨_, _, kp hk h13 (dj_rng ha timW_in (by omega))⟩, ⟨_, _, kp hk h14 (dj_rng ha lanW_in (by omega))⟩, ⟨_, _, kp hk h15 (dj_rng ha lanW_in (by omega))⟩, ⟨_, _, _, kp hk h16 (dj_rng ha talW_in (by omega))⟩, ⟨_, _, kp hk h17 (dj_rng ha wavW_in (by omega))⟩, ⟨_, kp hk h18 (dj_rng ha ticW_in (by omega))⟩, ⟨_, _, _, _, _, kp hk h19 (dj_rng ha audW_in (by omega))⟩, NS_k ha hk (Or.inr hi) h20⟩
theorem ar1_in {G : GG} {a : Nat → Nat} {i n : Nat} {f : FN} : inR a i 1 (ar1 G a i n f) := inR_cons (by omega) inR_nil
theorem sixW_in {G : GG} {a : Nat → Nat} {Ns : Nat → NT} {fs sc : FN} : inR a 94 6 (sixW G a Ns fs sc) := inR_app (inR_mono ar1_in (by omega)) (inR_app (inR_mono ar1_in (by omega)) (inR_app (inR_mono ar1_in (by omega)) (inR_app (inR_mono ar1_in (by omega)) (inR_app (inR_mono ar1_in (by omega)) (inR_mono ar1_in (by omega))))))
theorem twoW_in {G : GG} {a : Nat → Nat} {Ns : Nat → NT} : inR a 100 2 (twoW G a Ns) := inR_app (inR_mono ar1_in (by omega)) (inR_mono ar1_in (by omega))
theorem MW_k {G : GG} {a : Nat → Nat} (ha : Inj a) {st : ST} {th : Int32} {A : Nat → Prop} {H H1 : Heap} (hk : ∀ q : Nat, q < H.size → ¬ A q → H1[q]? = H[q]?) (hA : ∀ k, 93 ≤ k → k < 115 → ¬ A (a k)) (h : MW G a st th H) : MW G a st th H1 := by
  have hk : ∀ q : Nat, q < H.size → ¬ (fun q => ¬ rng a 93 22 q) q → H1[q]? = H[q]? := fun q hq hn => hk q hq (fun c => by
    have h1 : rng a 93 22 q := Classical.byContradiction hn
    obtain ⟨k, k1, k2, k3⟩ := h1
    rw [k3] at c
    exact hA k k1 (by omega) c)
  have d : ∀ {i n : Nat} {ws : va_W}, inR a i n ws → 93 ≤ i → i + n ≤ 115 → dj (fun q => ¬ rng a 93 22 q) ws := fun {i n ws} hi h1 h2 e he c => by
    obtain ⟨k, k1, k2, k3⟩ := hi e he
    exact c ⟨k, by omega, by omega, k3⟩
  have e1 : ∀ {i n : Nat} {f : FN}, 93 ≤ i → i + 1 ≤ 115 → PP G (ar1 G a i n f) H → PP G (ar1 G a i n f) H1 := fun h1 h2 h3 => kp hk h3 (d ar1_in h1 h2)
  obtain ⟨⟨_, h0⟩, ⟨_, _, hf, h1⟩, h2, h3, h4, ⟨_, h5⟩, ⟨_, h6⟩, ⟨_, h7⟩, ⟨_, h8⟩, ⟨_, h9⟩, ⟨_, h10⟩, ⟨_, h11⟩, ⟨_, h12⟩, ⟨_, h13⟩, ⟨_, h14⟩, ⟨_, h15⟩⟩ := h
  exact ⟨⟨_, kp hk h0 (d (i := 93) (n := 1) (inR_cons (by omega) inR_nil) (by omega) (by omega))⟩, ⟨_, _, hf, kp hk h1 (d sixW_in (by omega) (by omega))⟩, kp hk h2 (d twoW_in (by omega) (by omega)), e1 (by omega) (by omega) h3, e1 (by omega) (by omega) h4, ⟨_, e1 (by omega) (by omega) h5⟩, ⟨_, e1 (by omega) (by omega) h6⟩, ⟨_, e1 (by omega) (by omega) h7⟩, ⟨_, e1 (by omega) (by omega) h8⟩, ⟨_, e1 (by omega) (by omega) h9⟩, ⟨_, e1 (by omega) (by omega) h10⟩, ⟨_, e1 (by omega) (by omega) h11⟩, ⟨_, e1 (by omega) (by omega) h12⟩, ⟨_, e1 (by omega) (by omega) h13⟩, ⟨_, e1 (by omega) (by omega) h14⟩, ⟨_, e1 (by omega) (by omega) h15⟩⟩
theorem XE_ne {K : Nat} {E : String} (h : XE K E) : K ≠ 0 := by
  rcases h with ⟨_, h⟩ | ⟨_, h⟩ | ⟨_, h⟩ <;> omega
theorem orE {A B C : Nat → Prop} (h1 : ∀ q, A q → C q) (h2 : ∀ q, B q → C q) : ∀ q, orA A B q → C q := fun q h => h.elim (h1 q) (h2 q)
theorem nAE {C : Nat → Prop} : ∀ q, nA q → C q := fun q h => h.elim
theorem six_stN {G : GG} {a : Nat → Nat} {Ns : Nat → NT} {C z : Nat} {N' : NT} {fs sc : FN} {H : Heap} (h1 : nG N' = nG (Ns z)) (h2 : nIn N' = nIn (Ns z)) (h3 : nK N' = nK (Ns z)) (h4 : nT N' = nT (Ns z)) (h : PP G (sixW G a Ns fs sc) H) : PP G (sixW G a (stN C (upN Ns z N') Ns) fs sc) H := by
  unfold stN
  by_cases c : C = 0
  · rw [if_pos c]
    have h' : PP G (sixW G a (upN Ns z (Ns z)) fs sc) H := by rw [upN_self]; exact h
    exact six_same h' h1 h2 h3 h4
  · rw [if_neg c]; exact h
theorem two_stN {G : GG} {a : Nat → Nat} {Ns : Nat → NT} {C z : Nat} {N' : NT} {H : Heap} (h1 : nO N' = nO (Ns z)) (h2 : nU N' = nU (Ns z)) (h : PP G (twoW G a Ns) H) : PP G (twoW G a (stN C (upN Ns z N') Ns)) H := by
  unfold stN
  by_cases c : C = 0
  · rw [if_pos c]
    have h' : PP G (twoW G a (upN Ns z (Ns z))) H := by rw [upN_self]; exact h
    exact two_same h' h1 h2
  · rw [if_neg c]; exact h
theorem FS_stN {Ns : Nat → NT} {C z : Nat} {N' : NT} {fs sc : FN} (h1 : nG N' = nG (Ns z)) (h2 : nK N' = nK (Ns z)) (h3 : nF N' = nF (Ns z)) (h4 : nS N' = nS (Ns z)) (h : FS Ns fs sc) : FS (stN C (upN Ns z N') Ns) fs sc := by
  unfold stN
  by_cases c : C = 0
  · rw [if_pos c]
    have h' : FS (upN Ns z (Ns z)) fs sc := by rw [upN_self]; exact h
    exact FS_same h' h1 h2 h3 h4
  · rw [if_neg c]; exact h
