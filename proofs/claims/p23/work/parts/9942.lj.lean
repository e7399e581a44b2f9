/-! the law's methods: what is the same all along one; ends; what a net tells -/
theorem nw1 : narrow .boolean (.int (nI 1)) = .int (nI 1) := by rw [show nI 1 = 1 from by decide]; exact narrow_b1
section LJS
variable {p : Program} {l : Launch} {e : Env} {R : Room} {s : State} {m : MethodId} {args : Array Value} {below : List Frame} {meth : Method} {c : Code} {H : Heap} {locs : List Loc} {cells slots : Nat} {Q : State → Prop}
variable {cc : ByteArray} {pc : Nat} {ls : Array Slot} {A : Nat → Prop}
theorem en_wz {S : Type} {post : Int32 → S → Prop} {Bn : S → Heap → Prop} {v : Int32} (u : S) (hexec : p.tables.exec = Jvm.exec) (hb : c.code = cc) (hr : meth.sig.returnType = some .boolean) (hlocks : meth.locks = false) (hS : va_S A s.heap H locs) (hn : narrow .boolean (.int v) = .int v) (hp : post v u) (hB : Bn u H) (hdg : decode cc pc = .ok (.ireturn, 1)) : W p l e R s m args below meth c H locs cells slots (MQ below (QI post Bn A) args s cells slots A) (F0 m pc ls [.int v]) :=
  W.zret hexec hb hr hn (fun t ht hW => ⟨⟨v, u, rfl, hp, by show Bn u t.heap; rw [ht]; exact hB⟩, hS.F ht⟩) hS.2.2 hdg hlocks
/-- nothing old was written -/
theorem fin_own {g : JFrame} (hS : va_S (fun q : Nat => s.heap.size ≤ q) s.heap H locs) (kk : va_S nA s.heap H [] → W p l e R s m args below meth c H [] cells slots Q g) : W p l e R s m args below meth c H locs cells slots Q g :=
  va_forget (fun q hq => hS.2.2 q hq) (kk ⟨hS.1, fun q hq _ => hS.2.1 q hq (Nat.not_le.mpr hq), fun _ h => absurd h List.not_mem_nil⟩)
def LJ (p : Program) (l : Launch) (s : State) (m : MethodId) (meth : Method) (c : Code) (args : Array Value) (cc : ByteArray) (ret : Option FieldType) (nL : Nat) (ws : List Cond) (G : GG) (a : Nat → Nat) (t9 : Nat) : Prop :=
  l.stackTraces = false ∧ p.tables.exec = Jvm.exec ∧ c.code = cc ∧ meth.sig.returnType = ret ∧ c.maxLocals = nL ∧ s.vm.findClass RL = some m.cls ∧ (∀ w ∈ ws, w.before args s = true) ∧ meth.locks = false ∧ Inj a ∧ KK G s ∧ NW s ∧ LOW a t9 s s.heap ∧ TX a s s.heap ∧ NCX s
/-- a call that throws nothing -/
theorem vx_run0 {mc ms : Nat} {g : JFrame} {rest : List Value} {Qa : State → Outcome → State → Prop} {free : Addr → Prop} (h : vx_Run p l e R s m args below meth c H locs cells slots mc ms g rest Qa (fun _ _ _ => False) free) : va_Run p l e R s m args below meth c H locs cells slots mc ms g rest Qa free := fun T hT X => by
  rcases h T hT X with h | ⟨_, _, _, _, _, _, _, _, _, _, _, _, hx, _⟩
  · exact h
  · exact hx.elim
end LJS
theorem rmx {x y m n : Nat} (h1 : x ≤ m) (h2 : y ≤ n) : x ≤ m ∧ y ≤ n := ⟨h1, h2⟩
theorem rng_ge {a : Nat → Nat} {k0 i n : Nat} (hA : ∀ k, k0 ≤ a k) : ∀ q, rng a i n q → k0 ≤ q := fun q h => by
  obtain ⟨k, _, _, e⟩ := h
  rw [e]; exact hA k
/-- the constructor's words too -/
def PcN (G : GG) (a : Nat → Nat) (t : Nat) (av : List Value) (B : Heap → Prop) : Array Value → State → Prop := fun v U => PcW G a t av B v U ∧ NI U ∧ va_AO RX3 U
theorem PcN_blind {G : GG} {a : Nat → Nat} {t : Nat} {av : List Value} {B : Heap → Prop} : FrameBlind (PcN G a t av B) := fun x U g mk h => ⟨PcW_blind x U g mk h.1, NI.same (u := U) (U := U.calling g mk x) rfl h.2.1, va_AO.same (u := U) (U := U.calling g mk x) rfl h.2.2⟩
section ST
variable {N : NT} {K : KN} {n o : Nat} {dl ar : Nat → Nat} {v : Nat}
theorem of_0 (h : nG N = v) : ofV N dl ar 0 = nI v := by rw [← h]; rfl
theorem of_1 (h : nIn N = v) : ofV N dl ar 1 = nI v := by rw [← h]; rfl
theorem of_2 (h : nO N = v) : ofV N dl ar 2 = nI v := by rw [← h]; rfl
theorem of_3 (h : arT N ar (nG N) = v) : ofV N dl ar 3 = nI v := by rw [← h]; rfl
theorem of_4 (h : dlN N (tm N dl) = v) : ofV N dl ar 4 = nI v := by rw [← h]; rfl
theorem of_5 (h : mxA (loT N (nO N)) (nG N) = nI v) : ofV N dl ar 5 = nI v := by rw [← h]; rfl
theorem of_6 (h : idT N (mbD N (ouT N (nO N)) (nG N)) (nG N) = v) : ofV N dl ar 6 = nI v := by rw [← h]; rfl
theorem area_ct (hR : Rp N K n o) (h : Nat.beq (arK K ar n) v = true) : arT N ar (nG N) = v := by
  rw [ar_ct hR _ (Nat.le_refl _), hR.1]; exact Nat.eq_of_beq_eq_true h
theorem dly_ct {T : List Nat} (hN : WF N) (hR : Rp N K n o) (hT : ∀ k, k < nG N → tm N dl k = T.getD k 0) (h : Nat.beq (dlK K T o) v = true) : dlN N (tm N dl) = v := by
  rw [dlN_ct hN hR hT]; exact Nat.eq_of_beq_eq_true h
theorem pa_ct {P : List Nat} (h : ∀ m, pt N dl m = P[m]?) {m : Nat} (hm : m < 120) : paV N dl (nI m) = oI P[m]? := by
  unfold paV
  rw [if_pos (nI_lt hm (by omega)), ix_nI (by omega), h]
theorem pa_far {m : Nat} (hm : 120 ≤ m) (h2 : m < 2 ^ 31) : paV N dl (nI m) = -1 := by
  unfold paV
  rw [if_neg (nI_nlt hm (by omega))]
theorem bit_ct {num B g : Nat} {b : Bool} (hN : WF N) (hR : Rp N K n o) (h : bbB K n num B = true) (hg : g < nG N) (hb : B.testBit g = b) : bi (bt N num g) = bi b := by
  rw [bt_ct hN hR h (g + 1) g (Nat.lt_succ_self _) hg, hb]
end ST
