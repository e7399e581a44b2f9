/-! what throws: the words beside the tables, the texts, the two statics of Throwable -/
abbrev IOB : String := "java/lang/IndexOutOfBoundsException"
abbrev IAE : String := "java/lang/IllegalArgumentException"
abbrev ISE : String := "java/lang/IllegalStateException"
abbrev XNM : List String := ["java/lang/RuntimeException", "java/lang/Exception"]
def nDecl (c : String) : Cond := .declares ⟨c, "<init>", "(Ljava/lang/String;)V"⟩
def XN (U : State) : Prop := (va_Nw (nDecl "java/lang/RuntimeException") U ∧ va_Nw (nDecl "java/lang/Exception") U ∧ va_Nw (nDecl "java/lang/Throwable") U) ∧ va_Nw (.castable IOB IOB) U ∧ va_Nw (.castable IAE IAE) U ∧ va_Nw (.castable ISE ISE) U
theorem XN.same {u U : State} (h : u.vm = U.vm) (n : XN u) : XN U := ⟨⟨va_Nw.same rfl h n.1.1, va_Nw.same rfl h n.1.2.1, va_Nw.same rfl h n.1.2.2⟩, va_Nw.same rfl h n.2.1, va_Nw.same rfl h n.2.2.1, va_Nw.same rfl h n.2.2.2⟩
theorem XN.warm {s U : State} (hW : s.WarmedH U.vm) (n : XN s) : XN U := ⟨⟨va_Nw.warmD hW n.1.1, va_Nw.warmD hW n.1.2.1, va_Nw.warmD hW n.1.2.2⟩, va_Nw.warmC hW n.2.1, va_Nw.warmC hW n.2.2.1, va_Nw.warmC hW n.2.2.2⟩
def txts : List (Nat × String) := [(273, "no such net"), (105, "no room for an input"), (275, "no such kind"), (281, "no such gate"), (120, "no room for a gate"), (129, "no room for an out"), (285, "an argument is out of its range"), (288, "the net has gates"), (208, "no such place"), (290, "the inputs of the net are not two operands"), (257, "the inputs of the nets do not allow it")]
def TXT (U : State) : Prop := ∀ q ∈ txts, ∃ sa, vk_R RX11 q.1 q.2 sa U
def XS (a : Nat → Nat) (U : State) (H : Heap) : Prop := vx_Zq Bundle.tN "UNASSIGNED_STACK" Bundle.steD (inM a) U H ∧ vx_Zq Bundle.tN "SUPPRESSED_SENTINEL" Bundle.listD (inM a) U H
def TX (a : Nat → Nat) (U : State) (H : Heap) : Prop := TXT U ∧ XN U ∧ XS a U H
theorem TX.warm {a : Nat → Nat} {s U : State} {H : Heap} (hW : s.WarmedH U.vm) (h : TX a s H) : TX a U H :=
  ⟨fun q hq => (h.1 q hq).elim fun sa hs => ⟨sa, vk_R.warm hW hs⟩, h.2.1.warm hW, h.2.2.1.moved hW.alike, h.2.2.2.moved hW.alike⟩
theorem TX.at {a : Nat → Nat} {s : State} {A : Nat → Prop} {H : Heap} {locs : List Loc} (h : TX a s s.heap) (hS : va_S A s.heap H locs) (hA : ∀ q, q < s.heap.size → A q → inM a q) : TX a s H :=
  ⟨h.1, h.2.1, h.2.2.1.kept fun q h1 h2 => hS.2.1 q h1 (fun h3 => h2 (hA q h1 h3)), h.2.2.2.kept fun q h1 h2 => hS.2.1 q h1 (fun h3 => h2 (hA q h1 h3))⟩
theorem TX.same {a : Nat → Nat} {u U : State} {H : Heap} (hv : u.vm = U.vm) (h : TX a u H) : TX a U H :=
  ⟨fun q hq => (h.1 q hq).elim fun sa hs => ⟨sa, vk_R.same hv.symm hs⟩, h.2.1.same hv, h.2.2.1.moved (hv ▸ Vm.Alike.refl u.vm), h.2.2.2.moved (hv ▸ Vm.Alike.refl u.vm)⟩
def PcX (G : GG) (a : Nat → Nat) (t : Nat) (av : List Value) (B : Heap → Prop) : Array Value → State → Prop := fun v U => PcL G a t av B v U ∧ TX a U U.heap
theorem PcX_blind {G : GG} {a : Nat → Nat} {t : Nat} {av : List Value} {B : Heap → Prop} : FrameBlind (PcX G a t av B) := fun x U g mk h => ⟨PcL_blind x U g mk h.1, TX.same (u := U) (U := U.calling g mk x) rfl h.2⟩
theorem preVX {G : GG} {a : Nat → Nat} {t : Nat} {s : State} {H : Heap} {C : String} {b : Addr} {As : List Value} {B : Heap → Prop} (hK : KK G s) (hNW : NW s) (hB : B H) (hL : LOW a t s H) (hX : TX a s H) (hrc : ∃ cell : Cell, H[b]? = some cell ∧ cell.vm.isStatics = false ∧ s.vm.findClass C = some cell.cls) : PreV s H C b (PcX G a t (.ref b :: As) B) As :=
  ⟨PcX_blind, hrc, fun U hU hW => ⟨⟨⟨rfl, by rw [hU]; exact hB, va_K.moved hW.alike hK, hNW.warm hW⟩, by rw [hU]; exact hL.moved hW.alike⟩, by rw [hU]; exact hX.warm hW⟩⟩
theorem preSX {G : GG} {a : Nat → Nat} {t : Nat} {s : State} {H : Heap} {As : List Value} {B : Heap → Prop} (hK : KK G s) (hNW : NW s) (hB : B H) (hL : LOW a t s H) (hX : TX a s H) : PreS s H (PcX G a t As B) As :=
  ⟨PcX_blind, fun U hU hW => ⟨⟨⟨rfl, by rw [hU]; exact hB, va_K.moved hW.alike hK, hNW.warm hW⟩, by rw [hU]; exact hL.moved hW.alike⟩, by rw [hU]; exact hX.warm hW⟩⟩
/-- what holds where a method has thrown: the class is one of E2, and B2 -/
def XQ (E2 : String → Prop) (B2 : Heap → Prop) (A : Nat → Prop) : String → State → State → Prop := vx_X (fun _ : Unit => True) (fun E _ t => E2 E ∧ B2 t.heap) A
def nA : Nat → Prop := fun _ => False
theorem kpF {G : GG} {ws : va_W} {H H1 : Heap} (hk : ∀ q : Nat, q < H.size → H1[q]? = H[q]?) (h : PP G ws H) : PP G ws H1 := kp (A1 := nA) (fun q hq _ => hk q hq) h (fun _ _ h9 => h9)
section XR
variable {p : Program} {l : Launch} {e : Env} {R : Room} {s : State} {m : MethodId} {args : Array Value} {below : List Frame} {meth : Method} {c : Code} {H : Heap} {locs : List Loc} {cells slots : Nat} {Q : State → Prop}
variable {cc : ByteArray} {pc : Nat} {ls : Array Slot} {rest st0 : List Value} {A A0 A1 : Nat → Prop} {mc ms mc1 ms1 : Nat} {free : Addr → Prop} {av : Array Value} {Qc : Array Value → State → Outcome → State → Prop} {E1 E2 : String → Prop} {B2 : Heap → Prop} {P : Prop}
theorem wid {g : JFrame} {k n : Nat} (h1 : cells ≤ k) (h2 : slots ≤ n) (kk : W p l e R s m args below meth c H locs k n Q g) : W p l e R s m args below meth c H locs cells slots Q g := fun T hT X => kk T hT (stand_widen X h1 h2)
theorem retw {XC : String → State → State → Prop} {g : JFrame} (h1 : cells ≤ mc) (h2 : slots ≤ ms) (k : W p l e R s m args below meth c H locs mc ms (MQ below Qc args s mc ms free) g) : W p l e R s m args below meth c H locs cells slots (vx_MQ below Qc XC args s mc ms free) g := vx_ret (wid h1 h2 k)
theorem xcv (hr : vx_Run p l e R s m args below meth c H locs cells slots mc1 ms1 (F0 m pc ls st0) rest (QV (fun _ : Unit => P) (fun _ _ => True) nA av) (XQ E1 (fun _ => True) nA) nA) (hS : va_S A s.heap H locs)
    (htab : ∀ x ∈ c.exceptionTable.toList, False) (hlocks : meth.locks = false) (hB2 : ∀ H1 : Heap, (∀ q : Nat, q < H.size → H1[q]? = H[q]?) → B2 H1) (hE : ∀ E, E1 E → E2 E) (hc : cells + mc1 ≤ mc) (hs : slots + ms1 ≤ ms)
    (kk : P → ∀ (H1 : Heap) (locs1 : List Loc), (∀ q : Nat, q < H.size → H1[q]? = H[q]?) → va_S A s.heap H1 locs1 → W p l e R s m args below meth c H1 locs1 (cells + mc1) (slots + ms1) (vx_MQ below Qc (XQ E2 B2 A) args s mc ms A) (F0 m (pc + 3) ls rest)) :
    W p l e R s m args below meth c H locs cells slots (vx_MQ below Qc (XQ E2 B2 A) args s mc ms A) (F0 m pc ls st0) :=
  vx_callv hr hS (fun _ _ h => h.elim) (fun _ h => h.elim) (fun _ _ h => h.elim)
    (fun E ce q9 u t H1 locs1 ht hal _ hBX hsz hk hS1 hce hcv hcl => vx_out (fun x hx => (htab x hx).elim) hlocks hce hcv hcl
      (fun t2 ht2 _ => ⟨(), trivial, ⟨hE E hBX.1, by rw [ht2]; exact hB2 H1 (fun q hq => hk q hq id)⟩, hS1.F ht2⟩) hS1.2.2 hc hs)
    (fun u t H1 locs1 ht hal hp hb hsz hk hS1 => kk hp H1 locs1 (fun q hq => hk q hq id) hS1)
theorem vx_callr {S SX : Type} {post : S → Prop} {px : SX → Prop} {B : S → Nat → State → Prop} {BX : String → SX → State → Prop} {AX : Nat → Prop} {H0 : Heap} {a : Array Value}
    (hr : vx_Run p l e R s m args below meth c H locs cells slots mc ms (F0 m pc ls st0) rest (va_Qr post B A1 a) (vx_X px BX AX) free) (hS : va_S A0 H0 H locs) (hA : ∀ q, q < H.size → A1 q → A0 q) (hf : ∀ q, free q → A0 q) (hAX : ∀ q, q < H.size → AX q → A0 q)
    (kx : ∀ (E : String) (ce : Cell) (q9 : Addr) (u : SX) (t : State) (H1 : Heap) (locs1 : List Loc), t.heap = H1 → s.vm.Alike t.vm → px u → BX E u t → H.size ≤ H1.size → (∀ q : Nat, q < H.size → ¬ AX q → H1[q]? = H[q]?) → va_S A0 H0 H1 locs1 → H1[q9]? = some ce → ce.vm = .none → s.vm.findClass E = some ce.cls → vx_W p l e R s m args below meth c H1 locs1 (cells + mc) (slots + ms) Q (F0 m pc ls rest) q9)
    (kk : ∀ (u : S) (ra : Nat) (t : State) (H1 : Heap) (locs1 : List Loc), t.heap = H1 → s.vm.Alike t.vm → post u → B u ra t → H.size ≤ H1.size → (∀ q : Nat, q < H.size → ¬ A1 q → H1[q]? = H[q]?) → va_S A0 H0 H1 locs1 → W p l e R s m args below meth c H1 locs1 (cells + mc) (slots + ms) Q (F0 m (pc + 3) ls (.ref ra :: rest))) : W p l e R s m args below meth c H locs cells slots Q (F0 m pc ls st0) := by
  intro T hT X
  rcases hr T hT X with ⟨v, st₀, t, T', L, h0, X', hL, e1, e2, ⟨⟨u, ra, hv, hp, hb⟩, hF⟩, st⟩ | ⟨q, st₀, t, T', L, E, ce, h0, X', hL, e1, e2, ⟨u, hp, hb, hF⟩, hce, hcv, hcl, st⟩
  · cases hv
    obtain ⟨k1, k2, k3⟩ := vx_keep h0 e1 hS hA hf hL hF
    obtain ⟨t2, a1, b1⟩ := kk u ra t T'.heap (locs ++ L) e1.symm (by rw [← e2]; exact X'.warmed.alike) hp hb k1 k2 k3 T' rfl X'
    exact ⟨t2, st t2 a1, b1⟩
  · obtain ⟨k1, k2, k3⟩ := vx_keep h0 e1 hS hAX hf hL hF
    obtain ⟨t2, a1, b1⟩ := kx E ce q u t T'.heap (locs ++ L) e1.symm (by rw [← e2]; exact X'.warmed.alike) hp hb k1 k2 k3 (by rw [e1]; exact hce) hcv hcl T' rfl X'
    exact ⟨t2, st.trans a1, b1⟩
theorem xcr {pk : Nat → Prop} {fa : Nat → Nat} (hr : vx_Run p l e R s m args below meth c H locs cells slots mc1 ms1 (F0 m pc ls st0) rest (va_Qr pk (fun k ra _ => ra = fa k) nA av) (XQ E1 (fun _ => True) nA) nA) (hS : va_S A s.heap H locs)
    (htab : ∀ x ∈ c.exceptionTable.toList, False) (hlocks : meth.locks = false) (hB2 : ∀ H1 : Heap, (∀ q : Nat, q < H.size → H1[q]? = H[q]?) → B2 H1) (hE : ∀ E, E1 E → E2 E) (hc : cells + mc1 ≤ mc) (hs : slots + ms1 ≤ ms)
    (kk : ∀ k : Nat, pk k → ∀ (H1 : Heap) (locs1 : List Loc), (∀ q : Nat, q < H.size → H1[q]? = H[q]?) → va_S A s.heap H1 locs1 → W p l e R s m args below meth c H1 locs1 (cells + mc1) (slots + ms1) (vx_MQ below Qc (XQ E2 B2 A) args s mc ms A) (F0 m (pc + 3) ls (.ref (fa k) :: rest))) :
    W p l e R s m args below meth c H locs cells slots (vx_MQ below Qc (XQ E2 B2 A) args s mc ms A) (F0 m pc ls st0) :=
  vx_callr hr hS (fun _ _ h => h.elim) (fun _ h => h.elim) (fun _ _ h => h.elim)
    (fun E ce q9 u t H1 locs1 ht hal _ hBX hsz hk hS1 hce hcv hcl => vx_out (fun x hx => (htab x hx).elim) hlocks hce hcv hcl
      (fun t2 ht2 _ => ⟨(), trivial, ⟨hE E hBX.1, by rw [ht2]; exact hB2 H1 (fun q hq => hk q hq id)⟩, hS1.F ht2⟩) hS1.2.2 hc hs)
    (fun u ra t H1 locs1 ht hal hp hb hsz hk hS1 => by rw [hb]; exact kk u hp H1 locs1 (fun q hq => hk q hq id) hS1)
theorem xq_mk {cls : String} {a : Nat → Nat} (hS : va_S A s.heap H locs) (hE : E2 cls) (hB2 : ∀ H1 : Heap, (∀ q : Nat, q < H.size → H1[q]? = H[q]?) → B2 H1) : ∀ t : State, s.vm.Alike t.vm → H.size ≤ t.heap.size → (∀ q : Nat, q < H.size → t.heap[q]? = H[q]?) → XQ E2 B2 A cls s t :=
  fun t _ hz hk => ⟨(), trivial, ⟨hE, hB2 t.heap hk⟩, Nat.le_trans hS.1 hz, fun q hq hn => (hk q (Nat.lt_of_lt_of_le hq hS.1)).trans (hS.2.1 q hq hn)⟩
theorem hat_of {E : String} {ic : Nat} (h1 : ∀ w ∈ (vx_atS RX11 ic E XNM).filter goodWord, w.before args s = true) (h2 : ∀ w ∈ (vx_atS RX11 ic E XNM).filter (fun w => !goodWord w), w ∈ [nDecl "java/lang/RuntimeException", nDecl "java/lang/Exception", nDecl "java/lang/Throwable", .castable E E]) (hN : XN s) (hc : va_Nw (.castable E E) s) : ∀ w ∈ vx_atS RX11 ic E XNM, w.before args s = true := by
  refine vx_hat (B := [nDecl "java/lang/RuntimeException", nDecl "java/lang/Exception", nDecl "java/lang/Throwable", .castable E E]) h1 h2 ?_
  exact vx_c (va_Nw.use rfl hN.1.1) (vx_c (va_Nw.use rfl hN.1.2.1) (vx_c (va_Nw.use rfl hN.1.2.2) (vx_c (va_Nw.use rfl hc) vx_n)))
theorem h2_IOB : ∀ w ∈ (vx_atS RX11 210 IOB XNM).filter (fun w => !goodWord w), w ∈ [nDecl "java/lang/RuntimeException", nDecl "java/lang/Exception", nDecl "java/lang/Throwable", .castable IOB IOB] := by decide +kernel
theorem h2_IAE : ∀ w ∈ (vx_atS RX11 287 IAE XNM).filter (fun w => !goodWord w), w ∈ [nDecl "java/lang/RuntimeException", nDecl "java/lang/Exception", nDecl "java/lang/Throwable", .castable IAE IAE] := by decide +kernel
theorem h2_ISE : ∀ w ∈ (vx_atS RX11 107 ISE XNM).filter (fun w => !goodWord w), w ∈ [nDecl "java/lang/RuntimeException", nDecl "java/lang/Exception", nDecl "java/lang/Throwable", .castable ISE ISE] := by decide +kernel
theorem ht_IOB (h1 : ∀ w ∈ (vx_atS RX11 210 IOB XNM).filter goodWord, w.before args s = true) (hN : XN s) : ∀ w ∈ vx_atS RX11 210 IOB XNM, w.before args s = true := hat_of h1 h2_IOB hN hN.2.1
theorem ht_IAE (h1 : ∀ w ∈ (vx_atS RX11 287 IAE XNM).filter goodWord, w.before args s = true) (hN : XN s) : ∀ w ∈ vx_atS RX11 287 IAE XNM, w.before args s = true := hat_of h1 h2_IAE hN hN.2.2.1
theorem ht_ISE (h1 : ∀ w ∈ (vx_atS RX11 107 ISE XNM).filter goodWord, w.before args s = true) (hN : XN s) : ∀ w ∈ vx_atS RX11 107 ISE XNM, w.before args s = true := hat_of h1 h2_ISE hN hN.2.2.2
theorem hg_IOB : ∀ w ∈ Cond.classLink RX11 206 IOB :: Cond.initialized IOB :: vx_atS RX11 210 IOB XNM, vx_ot w = true := by decide +kernel
theorem hg_IAE : ∀ w ∈ Cond.classLink RX11 283 IAE :: Cond.initialized IAE :: vx_atS RX11 287 IAE XNM, vx_ot w = true := by decide +kernel
theorem hg_ISE : ∀ w ∈ Cond.classLink RX11 103 ISE :: Cond.initialized ISE :: vx_atS RX11 107 ISE XNM, vx_ot w = true := by decide +kernel
theorem thS {a : Nat → Nat} {cls text : String} {ik is ic : Nat} (hx : p.tables.exec = Jvm.exec) (hb : c.code = cc) (hl : l.stackTraces = false) (hown : s.vm.findClass RX11 = some m.cls) (hcls : Bundle.fit cls = true)
    (hk : (Cond.classLink RX11 ik cls).before args s = true) (hini : (Cond.initialized cls).before args s = true) (hX : TX a s s.heap) (hmem : (is, text) ∈ txts) (hat : ∀ w ∈ vx_atS RX11 ic cls XNM, w.before args s = true)
    (hgood : ∀ w ∈ Cond.classLink RX11 ik cls :: Cond.initialized cls :: vx_atS RX11 ic cls XNM, vx_ot w = true) (hA : ∀ q, A q → inM a q) (hS : va_S A s.heap H locs) (hsize : ls.size = c.maxLocals)
    (d0 : decode cc pc = .ok (.new ik, 3)) (d3 : decode cc (pc + 3) = .ok (.dup, 1)) (d4 : decode cc (pc + 4) = .ok (.ldc is, 2)) (d6 : decode cc (pc + 6) = .ok (.invokespecial ic, 3)) (d9 : decode cc (pc + 9) = .ok (.athrow, 1))
    (htab : ∀ x ∈ c.exceptionTable.toList, False) (hRf : 5 < R.frames) (hRl : (rest.map fun v => v.category).sum + 82 ≤ R.locals) (hRc : cells + 1 ≤ R.cells) (hRs : slots + 6 ≤ R.slots) (hlocks : meth.locks = false)
    (hE : E2 cls) (hB2 : ∀ H1 : Heap, (∀ q : Nat, q < H.size → H1[q]? = H[q]?) → B2 H1) (hc : cells + 1 ≤ mc) (hs : slots + 6 ≤ ms) :
    W p l e R s m args below meth c H locs cells slots (vx_MQ below Qc (XQ E2 B2 A) args s mc ms A) (F0 m pc ls rest) := by
  obtain ⟨sa, hsa⟩ := hX.1 _ hmem
  exact vx_throwS hx hb hl hown hcls (by decide +kernel) hk hini hsa hat hgood (hX.2.2.1.narrow hA) (hX.2.2.2.narrow hA) hS hsize d0 d3 d4 d6 d9 (fun x hx => (htab x hx).elim) hRf hRl hRc hRs hlocks (xq_mk (a := a) hS hE hB2) hS.2.2 hc hs
theorem thW {a : Nat → Nat} {cls text : String} {ik is ic : Nat} (hx : p.tables.exec = Jvm.exec) (hb : c.code = cc) (hl : l.stackTraces = false) (hown : s.vm.findClass RX11 = some m.cls) (hcls : Bundle.fit cls = true)
    (hk : (Cond.classLink RX11 ik cls).before args s = true) (hini : (Cond.initialized cls).before args s = true) (hX : TX a s s.heap) (hmem : (is, text) ∈ txts) (hat : ∀ w ∈ vx_atS RX11 ic cls XNM, w.before args s = true)
    (hgood : ∀ w ∈ Cond.classLink RX11 ik cls :: Cond.initialized cls :: vx_atS RX11 ic cls XNM, vx_ot w = true) (hA : ∀ q, A q → inM a q) (hS : va_S A s.heap H locs) (hsize : ls.size = c.maxLocals)
    (d0 : decode cc pc = .ok (.new ik, 3)) (d3 : decode cc (pc + 3) = .ok (.dup, 1)) (d4 : decode cc (pc + 4) = .ok (.ldc_w is, 3)) (d7 : decode cc (pc + 7) = .ok (.invokespecial ic, 3)) (d10 : decode cc (pc + 10) = .ok (.athrow, 1))
    (htab : ∀ x ∈ c.exceptionTable.toList, False) (hRf : 5 < R.frames) (hRl : (rest.map fun v => v.category).sum + 82 ≤ R.locals) (hRc : cells + 1 ≤ R.cells) (hRs : slots + 6 ≤ R.slots) (hlocks : meth.locks = false)
    (hE : E2 cls) (hB2 : ∀ H1 : Heap, (∀ q : Nat, q < H.size → H1[q]? = H[q]?) → B2 H1) (hc : cells + 1 ≤ mc) (hs : slots + 6 ≤ ms) :
    W p l e R s m args below meth c H locs cells slots (vx_MQ below Qc (XQ E2 B2 A) args s mc ms A) (F0 m pc ls rest) := by
  obtain ⟨sa, hsa⟩ := hX.1 _ hmem
  exact vx_throwSW hx hb hl hown hcls (by decide +kernel) hk hini hsa hat hgood (hX.2.2.1.narrow hA) (hX.2.2.2.narrow hA) hS hsize d0 d3 d4 d7 d10 (fun x hx => (htab x hx).elim) hRf hRl hRc hRs hlocks (xq_mk (a := a) hS hE hB2) hS.2.2 hc hs
/-- the return of a reference -/
theorem en_r {S : Type} {post : S → Prop} {B : S → Nat → State → Prop} {v : Nat} {nm : String} (u : S) (hexec : p.tables.exec = Jvm.exec) (hb : c.code = cc) (hr : meth.sig.returnType = some (.object nm)) (hlocks : meth.locks = false) (hS : va_S A s.heap H locs) (hp : post u) (hB : ∀ t, B u v t) (hdg : decode cc pc = .ok (.areturn, 1)) : W p l e R s m args below meth c H locs cells slots (MQ below (va_Qr post B A) args s cells slots A) (F0 m pc ls [.ref v]) :=
  W.aret hexec hb hr (Or.inl ⟨_, rfl⟩) (Or.inr ⟨_, rfl⟩) (fun t ht hW => ⟨⟨u, v, rfl, hp, hB t⟩, hS.F ht⟩) hS.2.2 hdg hlocks
end XR
/-! the four nets -/
def famW (G : GG) (a : Nat → Nat) (Ns : Nat → NT) (k : Nat) : va_W := (if k = 0 then [] else netW G a 49 (Ns 0)) ++ (if k = 1 then [] else netW G a 60 (Ns 1)) ++ (if k = 2 then [] else netW G a 71 (Ns 2)) ++ (if k = 3 then [] else netW G a 82 (Ns 3))
def upN (Ns : Nat → NT) (k : Nat) (N : NT) : Nat → NT := fun z => if z = k then N else Ns z
def NSP (G : GG) (a : Nat → Nat) (Ns : Nat → NT) (H : Heap) : Prop := ∀ z, z < 4 → PP G (netW G a (49 + 11 * z) (Ns z)) H
theorem PP_nil {G : GG} {H : Heap} : PP G [] H := fun k q hk => absurd hk (by simp)
theorem fam_split {G : GG} {a : Nat → Nat} {Ns : Nat → NT} {k : Nat} {H : Heap} (h : NSP G a Ns H) : PP G (famW G a Ns k) H := by
  have e : ∀ z, z < 4 → PP G (if k = z then [] else netW G a (49 + 11 * z) (Ns z)) H := fun z hz => by
    by_cases c : k = z
    · rw [if_pos c]; exact PP_nil
    · rw [if_neg c]; exact h z hz
  exact P_app (P_app (P_app (e 0 (by omega)) (e 1 (by omega))) (e 2 (by omega))) (e 3 (by omega))
theorem fam_join {G : GG} {a : Nat → Nat} {Ns : Nat → NT} {k : Nat} {N : NT} {H : Heap} (h : PP G (famW G a Ns k) H) (hn : PP G (netW G a (49 + 11 * k) N) H) : NSP G a (upN Ns k N) H := by
  have e : ∀ z, (k ≠ z → PP G (netW G a (49 + 11 * z) (Ns z)) H) → PP G (netW G a (49 + 11 * z) (upN Ns k N z)) H := fun z hz => by
    unfold upN
    by_cases c : z = k
    · rw [if_pos c, c]; exact hn
    · rw [if_neg c]; exact hz (fun q => c q.symm)
  intro z hz
  have : z = 0 ∨ z = 1 ∨ z = 2 ∨ z = 3 := by omega
  rcases this with rfl | rfl | rfl | rfl
  · exact e 0 (fun c => by have := P_app1 (P_app1 (P_app1 h)); rw [if_neg c] at this; exact this)
  · exact e 1 (fun c => by have := P_app2 (P_app1 (P_app1 h)); rw [if_neg c] at this; exact this)
  · exact e 2 (fun c => by have := P_app2 (P_app1 h); rw [if_neg c] at this; exact this)
  · exact e 3 (fun c => by have := P_app2 h; rw [if_neg c] at this; exact this)
theorem fam_back {G : GG} {a : Nat → Nat} {Ns : Nat → NT} {k : Nat} {H : Heap} (h : PP G (famW G a Ns k) H) (hn : PP G (netW G a (49 + 11 * k) (Ns k)) H) : NSP G a Ns H := by
  have := fam_join h hn
  have e : upN Ns k (Ns k) = Ns := by
    funext z; unfold upN
    by_cases c : z = k
    · rw [if_pos c, c]
    · exact if_neg c
  rw [e] at this
  exact this
theorem dj_if {A : Nat → Prop} {q : Prop} [Decidable q] {w : va_W} (h : ¬ q → dj A w) : dj A (if q then [] else w) := by
  by_cases c : q
  · rw [if_pos c]; exact dj_nil
  · rw [if_neg c]; exact h c
theorem dj_famk {G : GG} {a : Nat → Nat} (ha : Inj a) {Ns : Nat → NT} {k : Nat} : dj (rng a (49 + 11 * k) 11) (famW G a Ns k) :=
  dj_app (dj_app (dj_app (dj_if fun c => dj_rng ha netW_in (by omega)) (dj_if fun c => dj_rng ha netW_in (by omega))) (dj_if fun c => dj_rng ha netW_in (by omega))) (dj_if fun c => dj_rng ha netW_in (by omega))
theorem dj_famo {G : GG} {a : Nat → Nat} (ha : Inj a) {Ns : Nat → NT} {k i n : Nat} (h : i + n ≤ 49) : dj (rng a i n) (famW G a Ns k) :=
  dj_app (dj_app (dj_app (dj_if fun c => dj_rng ha netW_in (by omega)) (dj_if fun c => dj_rng ha netW_in (by omega))) (dj_if fun c => dj_rng ha netW_in (by omega))) (dj_if fun c => dj_rng ha netW_in (by omega))
