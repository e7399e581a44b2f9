/-! the law's methods: what is the same all along one; ends; what a net tells -/
theorem nw1 : narrow .boolean (.int (nI 1)) = .int (nI 1) := by rw [show nI 1 = 1 from by decide]; exact narrow_b1
section LJS
variable {p : Program} {l : Launch} {e : Env} {R : Room} {s : State} {m : MethodId} {args : Array Value} {below : List Frame} {meth : Method} {c : Code} {H : Heap} {locs : List Loc} {cells slots : Nat} {Q : State → Prop}
variable {cc : ByteArray} {pc : Nat} {ls : Array Slot} {A : Nat → Prop}
theorem en_wz {S : Type} {post : Int32 → S → Prop} {Bn : S → Heap → Prop} {v : Int32} (u : S) (hexec : p.tables.exec = Jvm.exec) (hb : c.code = cc) (hr : meth.sig.returnType = some .boolean) (hlocks : meth.locks = false) (hS : va_S A s.heap H locs) (hn : narrow .boolean (.int v) = .int v) (hp : post v u) (hB : Bn u H) (hdg : decode cc pc = .ok (.ireturn, 1)) : W p l e R s m args below meth c H locs cells slots (MQ below (QI post Bn A) args s cells slots A) (F0 m pc ls [.int v]) :=
  W.zret hexec hb hr hn (fun t ht hW => ⟨⟨v, u, rfl, hp, by show Bn u t.heap; rw [ht]; exact hB⟩, hS.F ht⟩) hS.2.2 hdg hlocks
/-- nothing old was written -/
theorem fin_own {g : JFrame} (hS : va_S (fun q : Nat => s.heap.size ≤ q) s.heap H locs) (kk : va_S nA s.heap H [] → W p l e R s m args below meth c H [] cells slots Q g) : W p l e R s m args below meth c H locs cells slots Q g :=
  va_forget (fun q hq => hS.2.2 q hq) (kk ⟨hS.1, fun q hq _ => hS.2.1 q hq (Nat.not_le.mpr hq), fun _ h => absurd h List.not_mem_nil⟩)
def LJ (p : Program) (l : Launch) (s : State) (m : MethodId) (meth : Method) (c : Code) (args : Array Value) (cc : ByteArray) (ret : Option FieldType) (nL : Nat) (ws : List Cond) (G : GG) (a : Nat → Nat) (t9 : Nat) : Prop :=
  l.stackTraces = false ∧ p.tables.exec = Jvm.exec ∧ c.code = cc ∧ meth.sig.returnType = ret ∧ c.maxLocals = nL ∧ s.vm.findClass RL = some m.cls ∧ (∀ w ∈ ws, w.before args s = true) ∧ meth.locks = false ∧ Inj a ∧ KK G s ∧ NW s ∧ LOW a t9 s s.heap ∧ TX a s s.heap ∧ NCX s
/-- a call that throws nothing -/
theorem vx_run0 {mc ms : Nat} {g : JFrame} {rest : List Value} {Qa : State → Outcome → State → Prop} {free : Addr → Prop} (h : vx_Run p l e R s m args below meth c H locs cells slots mc ms g rest Qa (fun _ _ _ => False) free) : va_Run p l e R s m args below meth c H locs cells slots mc ms g rest Qa free := fun T hT X => by
  rcases h T hT X with h | ⟨_, _, _, _, _, _, _, _, _, _, _, _, hx, _⟩
  · exact h
  · exact hx.elim
end LJS
theorem rmx {x y m n : Nat} (h1 : x ≤ m) (h2 : y ≤ n) : x ≤ m ∧ y ≤ n := ⟨h1, h2⟩
theorem rng_ge {a : Nat → Nat} {k0 i n : Nat} (hA : ∀ k, k0 ≤ a k) : ∀ q, rng a i n q → k0 ≤ q := fun q h => by
  obtain ⟨k, _, _, e⟩ := h
  rw [e]; exact hA k
/-- the constructor's words too -/
def PcN (G : GG) (a : Nat → Nat) (t : Nat) (av : List Value) (B : Heap → Prop) : Array Value → State → Prop := fun v U => PcW G a t av B v U ∧ NI U ∧ va_AO RX3 U
theorem PcN_blind {G : GG} {a : Nat → Nat} {t : Nat} {av : List Value} {B : Heap → Prop} : FrameBlind (PcN G a t av B) := fun x U g mk h => ⟨PcW_blind x U g mk h.1, NI.same (u := U) (U := U.calling g mk x) rfl h.2.1, va_AO.moved (u := U) (U := U.calling g mk x) (Vm.Alike.refl U.vm) h.2.2⟩
section ST
variable {N : NT} {K : KN} {n o : Nat} {dl ar : Nat → Nat} {v : Nat}
theorem of_0 (h : nG N = v) : ofV N dl ar 0 = nI v := by rw [← h]; rfl
theorem of_1 (h : nIn N = v) : ofV N dl ar 1 = nI v := by rw [← h]; rfl
theorem of_2 (h : nO N = v) : ofV N dl ar 2 = nI v := by rw [← h]; rfl
theorem of_3 (h : arT N ar (nG N) = v) : ofV N dl ar 3 = nI v := by rw [← h]; rfl
theorem of_4 (h : dlN N (tm N dl) = v) : ofV N dl ar 4 = nI v := by rw [← h]; rfl
theorem of_5 (h : mxA (loT N (nO N)) (nG N) = nI v) : ofV N dl ar 5 = nI v := by rw [← h]; rfl
theorem of_6 (h : idT N (mbD N (ouT N (nO N)) (nG N)) (nG N) = v) : ofV N dl ar 6 = nI v := by rw [← h]; rfl
theorem area_ct (hR : Rp N K n o) (h : Nat.beq (arK K ar n) v = true) : arT N ar (nG N) = v := by
  rw [ar_ct hR _ (Nat.le_refl _), hR.1]; exact Nat.eq_of_beq_eq_true h
theorem dly_ct {T : List Nat} (hN : WF N) (hR : Rp N K n o) (hT : ∀ k, k < nG N → tm N dl k = T.getD k 0) (h : Nat.beq (dlK K T o) v = true) : dlN N (tm N dl) = v := by
  rw [dlN_ct hN hR hT]; exact Nat.eq_of_beq_eq_true h
theorem pa_ct {P : List Nat} (h : ∀ m, pt N dl m = P[m]?) {m : Nat} (hm : m < 120) : paV N dl (nI m) = oI P[m]? := by
  unfold paV
  rw [if_pos (nI_lt hm (by omega)), ix_nI (by omega), h]
theorem pa_far {m : Nat} (hm : 120 ≤ m) (h2 : m < 2 ^ 31) : paV N dl (nI m) = -1 := by
  unfold paV
  rw [if_neg (nI_nlt hm (by omega))]
theorem bit_ct {num B g : Nat} {b : Bool} (hN : WF N) (hR : Rp N K n o) (h : bbB K n num B = true) (hg : g < nG N) (hb : B.testBit g = b) : bi (bt N num g) = bi b := by
  rw [bt_ct hN hR h (g + 1) g (Nat.lt_succ_self _) hg, hb]
end ST
theorem notT {b : Bool} (h : (!b) = true) : b = false := by cases b <;> first | rfl | cases h
/-! what is refused -/
section RC
variable {Ns : Nat → NT} {p kd f sc g b x w fm op v : Int32}
theorem rc_in (h : ¬ inBd p 4) : cIn Ns p = 1 := if_neg h
theorem rc_ga (h : ¬ inBd p 4) : cGa Ns p kd f sc = 1 := if_neg h
theorem rc_gk (h : ¬ inBd kd 4) : cGa Ns p kd f sc = 1 := by
  unfold cGa; rw [if_neg h]; split <;> rfl
theorem rc_gf (h : ¬ inBd f (nG (Ns (ix p)))) : cGa Ns p kd f sc = 1 := by
  unfold cGa; rw [if_neg h]; (repeat' split) <;> rfl
theorem rc_gs (hk : ¬ kd = nI 3) (h : ¬ inBd sc (nG (Ns (ix p)))) : cGa Ns p kd f sc = 1 := by
  unfold cGa
  rw [if_neg (fun q => q.elim hk h : ¬ (kd = nI 3 ∨ inBd sc (nG (Ns (ix p)))))]
  (repeat' split) <;> rfl
theorem rc_ou (h : ¬ inBd p 4) : cOu Ns p g = 1 := if_neg h
theorem rc_og (h : ¬ inBd g (nG (Ns (ix p)))) : cOu Ns p g = 1 := by
  unfold cOu; rw [if_neg h]; split <;> rfl
theorem rc_ad (h : ¬ inBd p 4) : cAd Ns p fm w = 1 := if_neg h
theorem rc_af (hp : inBd p 4) (h : ¬ (¬ fm < nI 0 ∧ fm ≤ nI 2)) : cAd Ns p fm w = 2 := by
  unfold cAd; rw [if_pos hp, if_neg h]
theorem rc_aw (hp : inBd p 4) (h : ¬ (¬ w < nI 1 ∧ w ≤ nI 6)) : cAd Ns p fm w = 2 := by
  unfold cAd; rw [if_pos hp, if_neg h]; split <;> rfl
theorem rc_an (hp : inBd p 4) (h1 : ¬ fm < nI 0 ∧ fm ≤ nI 2) (h2 : ¬ w < nI 1 ∧ w ≤ nI 6) (h : ¬ nG (Ns (ix p)) = 0) : cAd Ns p fm w = 3 := by
  unfold cAd; rw [if_pos hp, if_pos h1, if_pos h2, if_neg h]
theorem rc_mu (h : ¬ inBd p 4) : cMu Ns p w = 1 := if_neg h
theorem rc_mw (hp : inBd p 4) (h : ¬ (¬ w < nI 1 ∧ w ≤ nI 4)) : cMu Ns p w = 2 := by
  unfold cMu; rw [if_pos hp, if_neg h]
theorem rc_mn (hp : inBd p 4) (h1 : ¬ w < nI 1 ∧ w ≤ nI 4) (h : ¬ nG (Ns (ix p)) = 0) : cMu Ns p w = 3 := by
  unfold cMu; rw [if_pos hp, if_pos h1, if_neg h]
theorem rc_st (h : ¬ inBd p 4) : cSt Ns p g b = 1 := if_neg h
theorem rc_sg (h : ¬ inBd g (nG (Ns (ix p)))) : cSt Ns p g b = 1 := by
  unfold cSt; rw [if_neg h]; split <;> rfl
theorem rc_sb (hp : inBd p 4) (hg : inBd g (nG (Ns (ix p)))) (h : ¬ (¬ b < -1 ∧ b ≤ nI 1)) : cSt Ns p g b = 2 := by
  unfold cSt; rw [if_pos hp, if_pos hg, if_neg h]
theorem rc_bi (h : ¬ inBd p 4) : cBi Ns p g x = 1 := if_neg h
theorem rc_bg (h : ¬ inBd g (nG (Ns (ix p)))) : cBi Ns p g x = 1 := by
  unfold cBi; rw [if_neg h]; split <;> rfl
theorem rc_bx (hp : inBd p 4) (hg : inBd g (nG (Ns (ix p)))) (h : ¬ (¬ x < nI 0 ∧ x ≤ nI 1073741823)) : cBi Ns p g x = 2 := by
  unfold cBi; rw [if_pos hp, if_pos hg, if_neg h]
theorem rc_ti (h : ¬ inBd p 4) : cTi Ns p g = 1 := if_neg h
theorem rc_tg (h : ¬ inBd g (nG (Ns (ix p)))) : cTi Ns p g = 1 := by
  unfold cTi; rw [if_neg h]; split <;> rfl
theorem rc_of (h : ¬ inBd p 4) : cOff Ns p op w = 1 := if_neg h
theorem rc_oo (hp : inBd p 4) (h : ¬ (¬ op < nI 0 ∧ op ≤ nI 1)) : cOff Ns p op w = 2 := by
  unfold cOff; rw [if_pos hp, if_neg h]
theorem rc_ow (hp : inBd p 4) (h : ¬ (¬ w < nI 0 ∧ w ≤ nI 3)) : cOff Ns p op w = 2 := by
  unfold cOff; rw [if_pos hp, if_neg h]; split <;> rfl
theorem rc_un (h : ¬ inBd p 4) : cUns Ns p op w = 1 := if_neg h
theorem rc_uo (hp : inBd p 4) (h : ¬ (¬ op < nI 0 ∧ op ≤ nI 1)) : cUns Ns p op w = 2 := by
  unfold cUns; rw [if_pos hp, if_neg h]
theorem rc_uw (hp : inBd p 4) (h : ¬ (¬ w < nI 2 ∧ w ≤ nI 99)) : cUns Ns p op w = 2 := by
  unfold cUns; rw [if_pos hp, if_neg h]; split <;> rfl
theorem rc_ul (h : ¬ inBd p 4) : cUn Ns p v = 1 := if_neg h
theorem rc_uv (h : ¬ inBd v 4) : cUn Ns p v = 1 := by
  unfold cUn; rw [if_neg h]; split <;> rfl
end RC
theorem preN {G : GG} {a : Nat → Nat} {t : Nat} {s : State} {H : Heap} {As : List Value} {B : Heap → Prop} (hK : KK G s) (hNW : NW s) (hB : B H) (hL : LOW a t s H) (hX : TX a s H) (hN : NCX s) (hNI : NI s) (hAO : va_AO RX3 s) : PreS s H (PcN G a t As B) As :=
  ⟨PcN_blind, fun U hU hW => ⟨⟨⟨⟨⟨rfl, by rw [hU]; exact hB, va_K.moved hW.alike hK, hNW.warm hW⟩, by rw [hU]; exact hL.moved hW.alike⟩, by rw [hU]; exact hX.warm hW⟩, hN.moved hW.alike⟩, hNI.warm hW, va_AO.moved hW.alike hAO⟩⟩
theorem LOW.nar {a d : Nat → Nat} {t : Nat} {U : State} {H : Heap} (h : LOW a t U H) (hd : ∀ q, inM d q → inM a q) : LOW d t U H := ⟨h.1.narrow hd, h.2.narrow hd⟩
theorem TX.nar {a d : Nat → Nat} {U : State} {H : Heap} (h : TX a U H) (hd : ∀ q, inM d q → inM a q) : TX d U H := ⟨h.1, h.2.1, h.2.2.1.narrow hd, h.2.2.2.narrow hd⟩
/-! a new object -/
def st0 : ST := (fun _ => N0, fun _ => 1, fun _ => 1)
theorem ok_st0 : OKS st0 := ⟨fun z _ => show WF N0 from ⟨Nat.zero_le _, Nat.zero_le _, Nat.zero_le _, rfl, fun k hk => absurd hk (Nat.not_lt_zero _), fun p hp => absurd hp (Nat.not_lt_zero _)⟩, fun z _ => ⟨Nat.le_refl 1, show 1 ≤ 9 by decide⟩⟩
theorem mak_0 {G : GG} {a : Nat → Nat} {H : Heap} (h : PP G (makI G a 6) H) : (∃ l9 y9 k9, PP G (makO a 6 l9 y9 k9) H) ∧ (∃ f, PP G (rowW G a 7 6 f) H) ∧ (∃ f, PP G (rowW G a 9 6 f) H) ∧ (∃ f, PP G (rowW G a 11 6 f) H) ∧ (∃ f, PP G (rowW G a 13 6 f) H) ∧ (∃ f, PP G (rowW G a 15 6 f) H) ∧ (∃ f, PP G (rowW G a 17 16 f) H) ∧ (∃ f, PP G (rowW G a 19 5 f) H) := by
  have h1 := P_app1 h
  have h := P_app2 h
  have h2 := P_app1 h
  have h := P_app2 h
  have h3 := P_app1 h
  have h := P_app2 h
  have h4 := P_app1 h
  have h := P_app2 h
  have h5 := P_app1 h
  have h := P_app2 h
  have h6 := P_app1 h
  have h := P_app2 h
  exact ⟨⟨_, _, _, h1⟩, ⟨_, h2⟩, ⟨_, h3⟩, ⟨_, h4⟩, ⟨_, h5⟩, ⟨_, h6⟩, ⟨_, P_app1 h⟩, ⟨_, P_app2 h⟩⟩
