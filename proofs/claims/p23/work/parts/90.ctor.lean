/-! what is made is made behind the heap's end: the addresses are those of a, one behind the other -/
section CT
variable {p : Program} {l : Launch} {e : Env} {R : Room} {s : State} {m : MethodId} {args : Array Value} {below : List Frame} {meth : Method} {c : Code} {H : Heap} {locs : List Loc} {cells slots : Nat} {Q : State → Prop}
variable {cc : ByteArray} {pc : Nat} {ls : Array Slot} {rest : List Value} {A : Nat → Prop} {G : GG} {a : Nat → Nat} {b0 : Nat}
theorem va_S.more {H1 : Heap} {H0 : Heap} (h : va_S A H0 H locs) (z : H.size ≤ H1.size) (o : ∀ q, q < H.size → H1[q]? = H[q]?) : va_S A H0 H1 locs := ⟨Nat.le_trans h.1 z, fun x h1 h2 => (o x (Nat.lt_of_lt_of_le h1 h.1)).trans (h.2.1 x h1 h2), h.2.2⟩
theorem pp_new (hexec : p.tables.exec = Jvm.exec) (hb : c.code = cc) {own C : String} {T : u_T} {N ci index : Nat} {Ts : List Cond} (hts : ∀ w ∈ Ts, w.before args s = true) (hin : ∀ w ∈ u_ws C T N, w ∈ Ts) (ty : Nat → FieldType) (hty : ∀ k, k < N → parseFieldDescriptor (T k).2.2.1 = some (ty k)) (hown : s.vm.findClass own = some m.cls) (hcl : (Cond.classLink own index C).before args s = true) (hinst : (Cond.instantiable C N).before args s = true) (hini : (Cond.initialized C).before args s = true)
    (hK : KK G s) (hc : vwCl[ci]? = some (C, T, N)) {fs : List Value} (hfs : ∀ j, j < N → defaultValue (ty j) = vp_V fs j) (hab : ∀ k, a k = b0 + k) {j j1 : Nat} (hZ : H.size = b0 + j) (hj : j1 = j + 1) {H0 : Heap} (hS : va_S A H0 H locs) (hcells : cells + 1 ≤ R.cells) (hslots : slots + N ≤ R.slots) (hdg : decode cc pc = .ok (.new index, 3))
    (kk : ∀ H1 : Heap, PP G [(a j, .inr (ci, fs))] H1 → (∀ q : Nat, q < H.size → H1[q]? = H[q]?) → H1.size = b0 + j1 → va_S A H0 H1 locs →
      W p l e R s m args below meth c H1 locs (cells + 1) (slots + N) Q (F0 m (pc + 3) ls (.ref (a j) :: rest))) : W p l e R s m args below meth c H locs cells slots Q (F0 m pc ls rest) := by
  have hKn := hK.1 ci _ hc
  subst hj
  rw [hab j] at kk
  refine W.newcK hexec hb hown hcl hinst hini rfl hdg hcells hslots hKn.2.1 hZ fun H1 kC hkC e1 z1 o1 => ?_
  have o2 : ∀ q : Nat, q < H.size → H1[q]? = H[q]? := fun q hq => o1 q (by omega)
  refine kk H1 (fun k x hx => ?_) o2 (by omega) (va_S.more hS (by omega) o2)
  have hz : k < 1 := (List.getElem?_eq_some_iff.mp hx).1
  rw [show k = 0 by omega] at hx
  cases hx
  exact ⟨_, hc, (u_born ty hts hin hKn hkC e1 hty).to hfs⟩
theorem pp_newa (hexec : p.tables.exec = Jvm.exec) (hb : c.code = cc) {atype : ArrayType} (harr : (Cond.arrayClass (newarray.typeOf atype)).before args s = true) {ty : FieldType} (hty : newarray.typeOf atype = ty) {cA0 : ClassId} (hfc : s.vm.findClass ("[" ++ ty.toString) = some cA0)
    {n : Int32} {N' : Nat} {a0 : vp_A} (ha : vp_cell cA0 a0 = arrV cA0 N' (fun _ => defaultValue ty)) (hn : ¬ n < 0) (hN : n.toNatClampNeg = N') (hbytes : N' * componentBytes ty ≤ 536870912) (hcells : cells + 1 ≤ R.cells) (hslots : slots + N' ≤ R.slots) (hdg : decode cc pc = .ok (.newarray atype, 2)) (hab : ∀ k, a k = b0 + k) {j j1 : Nat} (hZ : H.size = b0 + j) (hj : j1 = j + 1) {H0 : Heap} (hS : va_S A H0 H locs)
    (kk : ∀ H1 : Heap, PP G [(a j, .inl (cA0, a0))] H1 → (∀ q : Nat, q < H.size → H1[q]? = H[q]?) → H1.size = b0 + j1 → va_S A H0 H1 locs →
      W p l e R s m args below meth c H1 locs (cells + 1) (slots + N') Q (F0 m (pc + 2) ls (.ref (a j) :: rest))) : W p l e R s m args below meth c H locs cells slots Q (F0 m pc ls (.int n :: rest)) := by
  subst hty
  subst hj
  rw [hab j] at kk
  refine va_newaK hexec hb harr rfl hdg rfl hn hN hbytes hcells hslots hZ fun H1 cA e1 z1 o1 hAr hNm => ?_
  have hc : cA0 = cA := Option.some.inj (hfc.symm.trans hNm)
  subst hc
  have o2 : ∀ q : Nat, q < H.size → H1[q]? = H[q]? := fun q hq => o1 q (by omega)
  refine kk H1 (fun k x hx => ?_) o2 (by omega) (va_S.more hS (by omega) o2)
  have hz : k < 1 := (List.getElem?_eq_some_iff.mp hx).1
  rw [show k = 0 by omega] at hx
  cases hx
  show H1[b0 + j]? = some (vp_cell _ _)
  rw [ha]
  exact e1
theorem pp_newq (hexec : p.tables.exec = Jvm.exec) (hb : c.code = cc) {own C : String} {index : Nat} (hown : s.vm.findClass own = some m.cls) (hclink : (Cond.classLink own index C).before args s = true) (hover : va_AO C s) {cA0 : ClassId} (hfc : s.vm.findClass ("[" ++ (FieldType.object C).toString) = some cA0)
    {n : Int32} {N' : Nat} (hn : ¬ n < 0) (hN : n.toNatClampNeg = N') (hbytes : N' * 4 ≤ 536870912) (hcells : cells + 1 ≤ R.cells) (hslots : slots + N' ≤ R.slots) (hdg : decode cc pc = .ok (.anewarray index, 3)) (hab : ∀ k, a k = b0 + k) {j j1 : Nat} (hZ : H.size = b0 + j) (hj : j1 = j + 1) {H0 : Heap} (hS : va_S A H0 H locs)
    (kk : ∀ H1 : Heap, PP G [(a j, .inl (cA0, N', .inr (.inr (.inr (.inr (fun _ => none))))))] H1 → (∀ q : Nat, q < H.size → H1[q]? = H[q]?) → H1.size = b0 + j1 → va_S A H0 H1 locs →
      W p l e R s m args below meth c H1 locs (cells + 1) (slots + N') Q (F0 m (pc + 3) ls (.ref (a j) :: rest))) : W p l e R s m args below meth c H locs cells slots Q (F0 m pc ls (.int n :: rest)) := by
  subst hN
  subst hj
  rw [hab j] at kk
  refine W.anew hexec hb hown hclink (va_AO.use hover) rfl hdg rfl hn hbytes hcells hslots fun cA kA comp f1 f2 f3 f4 => ?_
  have hc : cA0 = cA := Option.some.inj (hfc.symm.trans f1)
  subst hc
  generalize hH1 : H.push ({ cls := cA0, slots := Array.replicate n.toNatClampNeg .null, vm := .none } : Cell) = H1
  have z1 : H1.size = H.size + 1 := by rw [← hH1, Array.size_push]
  have e1 : H1[H.size]? = some (arrV cA0 n.toNatClampNeg (fun _ => .null)) := by rw [← hH1, Array.getElem?_push_size, ← arrV_new]
  have o1 : ∀ q : Nat, q < H.size → H1[q]? = H[q]? := fun q hq => by rw [← hH1, Array.getElem?_push, if_neg (Nat.ne_of_lt hq)]
  rw [hZ] at e1 ⊢
  refine kk H1 (fun k x hx => ?_) o1 (by omega) (va_S.more hS (by omega) o1)
  have hz : k < 1 := (List.getElem?_eq_some_iff.mp hx).1
  rw [show k = 0 by omega] at hx
  cases hx
  show H1[b0 + j]? = some (vp_cell _ _)
  rw [vp_cell_q]
  exact e1
theorem pp_putF (hexec : p.tables.exec = Jvm.exec) (hb : c.code = cc) {own ref C : String} {T : u_T} {N ci index b : Nat} {Ts : List Cond} (hts : ∀ w ∈ Ts, w.before args s = true) (hin : ∀ w ∈ u_ws C T N, w ∈ Ts) (ty0 : Nat → FieldType) (hty : ∀ k, k < N → parseFieldDescriptor (T k).2.2.1 = some (ty0 k)) (hnm : ∀ a, a < N → ∀ b, b < N → a ≠ b → (T a).2.1 ≠ (T b).2.1) (hown : s.vm.findClass own = some m.cls) (hK : KK G s) {fs : List Value} (hP : PP G [(b, .inr (ci, fs))] H) {H0 : Heap} (hS0 : va_S A H0 H locs) (hA : A b) (hc : vwCl[ci]? = some (C, T, N)) (k : Nat) (hk : k < N) (hlink : (Cond.fieldLink own index ref (T k).2.1 (T k).2.2.1).before args s = true) (hsame : ∀ x, s.fieldFound? (T k).1 (T k).2.1 (T k).2.2.1 = some x → s.fieldFound? ref (T k).2.1 (T k).2.2.1 = some x) (hfin : (T k).2.2.2 = true) (hin2 : meth.name = "<init>") (hdecl : (T k).1 = own) {ty : FieldType} {v : Value} (hd : parseFieldDescriptor (T k).2.2.1 = some ty) (hn : narrow ty v = v) (hfit : fits ty v = true) (hl : k < fs.length)
    (hdg : decode cc pc = .ok (.putfield index, 3)) (kk : ∀ (H1 : Heap) (locs1 : List Loc), PP G [(b, .inr (ci, fs.set k v))] H1 → (∀ q : Nat, q < H.size → ¬ (fun q => q = b) q → H1[q]? = H[q]?) → H1.size = H.size → va_S A H0 H1 locs1 → W p l e R s m args below meth c H1 locs1 cells slots Q (F0 m (pc + 3) ls rest)) : W p l e R s m args below meth c H locs cells slots Q (F0 m pc ls (v :: .ref b :: rest)) := by
  have hap := va_apart (own := own) hts hin ty0 hty hnm hK hc
  obtain ⟨r, h1, cell, q1, q2, q3, q4⟩ := hP 0 _ rfl
  have hr : r = (C, T, N) := Option.some.inj (h1.symm.trans hc)
  subst hr
  obtain ⟨hS, hfc, kC, hkC, hkind⟩ := hK.1 ci _ hc
  obtain ⟨cf, kf, fi, f, hi, hsl⟩ := hS k hk
  have hlay := hts _ (hin _ (u_in_lay hk))
  unfold u_lay at hlay
  rw [if_pos hfin] at hlay
  have hst := (u_facts hfc hkC (u_lays hts hin hk) hi).1
  have hcf : m.cls = cf := by
    obtain ⟨_, _, c', _, _, _, -, -, hf', -, -, -, hown2, -⟩ := Cond.laysFinal_spec hlay
    have e1 : c' = cf := by have := hi.symm.trans hf'; simp at this; exact this.1.symm
    rw [hdecl] at hown2
    rw [← e1]; exact Option.some.inj (hown.symm.trans hown2)
  have h6 := u_fits hfc hkC hkind (Or.inr hlay) hi hd hn hfit
  refine W.putFinK hexec hb hown hlink (hsame _ hi) hst hcf hin2 (by rw [q2]; exact h6) q1 q3 (by rw [hsl]; exact k2_hasslot (q4 k hk)) rfl rfl hdg fun H' e1 e2 e3 => ?_
  rw [hsl] at e1 ⊢
  refine kk H' _ (fun k0 q hk0 => ?_) (fun q _ h => e3 q h) e2 (hS0.put e2 e3 hA)
  match k0, hk0 with
  | 0, hk0 =>
    cases hk0
    exact ⟨_, hc, t_OB.to (V := updV (vp_V fs) k v) ⟨_, e1, q2, q3, t_set q4 hap hk v⟩ (fun j _ => vp_updV_set hl v j)⟩
  | k0 + 1, hk0 => simp at hk0
theorem pp_astq (hexec : p.tables.exec = Jvm.exec) (hb : c.code = cc) (hK : KK G s) {b v n : Nat} {f : Nat → Option Nat} {vs : List Value} (hP : PP G [(b, .inl (gQ G, n, .inr (.inr (.inr (.inr f)))))] H) (hV : PP G [(v, .inr (3, vs))] H) (hbv : b ≠ v) {H0 : Heap} (hS : va_S A H0 H locs) (hA : A b) (hAv : A v) {i : Int32} (hin : vp_in i n) (hdg : decode cc pc = .ok (.aastore, 1))
    (kk : ∀ (H1 : Heap) (locs1 : List Loc), PP G [(b, .inl (gQ G, n, .inr (.inr (.inr (.inr (va_up f i.toNatClampNeg (some v)))))))] H1 → (∀ q : Nat, q < H.size → ¬ (fun q => q = b) q → H1[q]? = H[q]?) → H1.size = H.size → va_S A H0 H1 locs1 → W p l e R s m args below meth c H1 locs1 cells slots Q (F0 m (pc + 1) ls rest)) : W p l e R s m args below meth c H locs cells slots Q (F0 m pc ls (.ref v :: .int i :: .ref b :: rest)) := by
  have hlt : i.toNatClampNeg < n := Nat.not_le.mp fun q => hin (Or.inr q)
  have h0 : ¬ i < 0 := fun q => hin (Or.inl q)
  obtain ⟨r', hr', cellV, g1, g2, g3, -⟩ := hV 0 _ rfl
  have hcls := (hK.1 3 (RX3, TX3, 8) rfl).2
  obtain ⟨kA, comp, k1, k2, k3, -⟩ := (hK.2 2 _ rfl).2
  have hcomp : comp = G.1.1 3 := Option.some.inj (k3.symm.trans hcls.1)
  subst hcomp
  obtain ⟨kC, hkC, -⟩ := hcls.2
  refine W.aast hexec hb (hP 0 _ rfl) (fun q h => by cases h) (fun h => by cases h) k1 k2 rfl hkC ⟨h0, by show _ < (arrV _ _ _).slots.size; rw [arrV_size]; exact hlt⟩ g1 (fun q h => by rw [g3] at h; cases h) (by rw [g2]; exact hkC) (by rw [g2]; exact va_assign hcls) rfl rfl hdg fun H1 e z oq => ?_
  refine kk H1 _ (fun k0 q hk0 => ?_) (fun q _ h => oq q h) z (hS.put z oq hA)
  match k0, hk0 with
  | 0, hk0 =>
    cases hk0
    show H1[b]? = some (vp_cell _ _)
    rw [e]
    rw [vp_cell_q, vp_cell_q, arrV_store]
    congr 2
    funext q
    by_cases hq : q = i.toNatClampNeg
    · subst hq
      simp [updV, va_up, va_rf]
    · simp [updV, va_up, hq]
  | k0 + 1, hk0 => simp at hk0
theorem lv_obj (hexec : p.tables.exec = Jvm.exec) (hb : c.code = cc) {own : String} (hown : s.vm.findClass own = some m.cls) {idx : Nat}
    (hlink : (Cond.methodLink own idx Lib.objectInit).before args s = true) (hinst : (Cond.instanceMethod Lib.objectInit).before args s = true) (hcode : (Cond.code Lib.objectInit ⟨#[0xb1]⟩ 1 none).before args s = true)
    (hsize : ls.size = c.maxLocals) {x : Addr} (hd : decode cc pc = .ok (.invokespecial idx, 3)) (hframes : 1 ≤ R.frames) (hlocals : (rest.map fun v => v.category).sum + 12 ≤ R.locals)
    (kk : W p l e R s m args below meth c H locs cells slots Q (F0 m (pc + 3) ls rest)) : W p l e R s m args below meth c H locs cells slots Q (F0 m pc ls (.ref x :: rest)) :=
  W.objInit hexec hb hown hlink hinst hcode rfl hsize rfl hd hframes (by show 2 * 0 + _ + 12 ≤ _; omega) kk
end CT
/-- a net as it is made -/
def N0 : NT := ((0, 0, 0), fun _ => 0, fun _ => 0, fun _ => 0, fun _ => nI 0, fun _ => 0)
abbrev makI (G : GG) (a : Nat → Nat) (i : Nat) : va_W := makO a i (nI 0) (nI 0) (nI 0) ++ (rowW G a (i + 1) 6 (fun _ => nI 0) ++ (rowW G a (i + 3) 6 (fun _ => nI 0) ++ (rowW G a (i + 5) 6 (fun _ => nI 0) ++ (rowW G a (i + 7) 6 (fun _ => nI 0) ++ (rowW G a (i + 9) 6 (fun _ => nI 0) ++ (rowW G a (i + 11) 16 (fun _ => nI 0) ++ rowW G a (i + 13) 5 (fun _ => nI 0)))))))
theorem makI_in {G : GG} {a : Nat → Nat} {i : Nat} : inR a i 15 (makI G a i) := inR_app (inR_cons (k := i) (by omega) inR_nil) (inR_app (inR_mono (i := i + 1) (n := 2) rowW_in (by omega)) (inR_app (inR_mono (i := i + 3) (n := 2) rowW_in (by omega)) (inR_app (inR_mono (i := i + 5) (n := 2) rowW_in (by omega)) (inR_app (inR_mono (i := i + 7) (n := 2) rowW_in (by omega)) (inR_app (inR_mono (i := i + 9) (n := 2) rowW_in (by omega)) (inR_app (inR_mono (i := i + 11) (n := 2) rowW_in (by omega)) (inR_mono (i := i + 13) (n := 2) rowW_in (by omega))))))))
theorem va_RA_nm {U : State} {cA : ClassId} {C : String} (h : va_RA U cA (.object C)) : U.vm.findClass ("[" ++ (FieldType.object C).toString) = some cA := by
  obtain ⟨kA, comp, -, -, -, h4⟩ := h
  exact h4
/-- the private constructors, linked from the class of the nest's host -/
def NI (U : State) : Prop := va_Nw (.methodLinkNest RX11 29 yX2_init RX11) U ∧ va_Nw (.methodLinkNest RX11 36 yX10_init RX11) U ∧ va_Nw (.methodLinkNest RX11 43 yX7_init RX11) U ∧ va_Nw (.methodLinkNest RX11 50 yX1_init RX11) U ∧ va_Nw (.methodLinkNest RX11 60 yX5_init RX11) U ∧ va_Nw (.methodLinkNest RX11 67 yX8_init RX11) U ∧ va_Nw (.methodLinkNest RX11 74 yX6_init RX11) U ∧ va_Nw (.methodLinkNest RX11 81 yX0_init RX11) U ∧ va_Nw (.methodLinkNest RX11 86 yX3_init RX11) U
theorem NI.same {u U : State} (h : u.vm = U.vm) (n : NI u) : NI U := ⟨va_Nw.same rfl h n.1, va_Nw.same rfl h n.2.1, va_Nw.same rfl h n.2.2.1, va_Nw.same rfl h n.2.2.2.1, va_Nw.same rfl h n.2.2.2.2.1, va_Nw.same rfl h n.2.2.2.2.2.1, va_Nw.same rfl h n.2.2.2.2.2.2.1, va_Nw.same rfl h n.2.2.2.2.2.2.2.1, va_Nw.same rfl h n.2.2.2.2.2.2.2.2⟩
theorem NI.warm {s U : State} (hW : s.WarmedH U.vm) (n : NI s) : NI U := ⟨va_Nw.warmM hW n.1, va_Nw.warmM hW n.2.1, va_Nw.warmM hW n.2.2.1, va_Nw.warmM hW n.2.2.2.1, va_Nw.warmM hW n.2.2.2.2.1, va_Nw.warmM hW n.2.2.2.2.2.1, va_Nw.warmM hW n.2.2.2.2.2.2.1, va_Nw.warmM hW n.2.2.2.2.2.2.2.1, va_Nw.warmM hW n.2.2.2.2.2.2.2.2⟩
def PcI (G : GG) (av : List Value) (B : Heap → Prop) : Array Value → State → Prop := fun v U => PcB G av B v U ∧ NI U ∧ va_AO RX3 U
theorem PcI_blind {G : GG} {av : List Value} {B : Heap → Prop} : FrameBlind (PcI G av B) := fun x U g mk h => ⟨PcB_blind x U g mk h.1, NI.same (u := U) (U := U.calling g mk x) rfl h.2.1, va_AO.moved (u := U) (U := U.calling g mk x) (Vm.Alike.refl U.vm) h.2.2⟩
theorem preI {G : GG} {s : State} {H : Heap} {As : List Value} {B : Heap → Prop} (hK : KK G s) (hNW : NW s) (hB : B H) (hNI : NI s) (hAO : va_AO RX3 s) : PreS s H (PcI G As B) As :=
  ⟨PcI_blind, fun U hU hW => ⟨⟨rfl, by rw [hU]; exact hB, va_K.moved hW.alike hK, hNW.warm hW⟩, hNI.warm hW, va_AO.moved hW.alike hAO⟩⟩
theorem PP_i {G : GG} {b n : Nat} {cA : ClassId} {f g : Nat → Int32} {H : Heap} (h : PP G [(b, .inl (cA, n, .inl f))] H) (e : ∀ j, j < n → f j = g j) : PP G [(b, .inl (cA, n, .inl g))] H := by
  intro k q hk
  match k, hk with
  | 0, hk =>
    cases hk
    have h1 := h 0 _ rfl
    show H[b]? = some (vp_cell _ _)
    have h2 : H[b]? = some (vp_cell cA (n, .inl f)) := h1
    rw [h2]
    show some (arrV cA n (fun j => .int (f j))) = some (arrV cA n (fun j => .int (g j)))
    unfold arrV
    congr 2
    apply Array.ext
    · simp
    · intro i h1 h2
      simp at h1
      simp [e i h1]
  | k + 1, hk => simp at hk
theorem PP_q {G : GG} {b n : Nat} {cA : ClassId} {f g : Nat → Option Nat} {H : Heap} (h : PP G [(b, .inl (cA, n, .inr (.inr (.inr (.inr f)))))] H) (e : ∀ j, j < n → f j = g j) : PP G [(b, .inl (cA, n, .inr (.inr (.inr (.inr g)))))] H := by
  intro k q hk
  match k, hk with
  | 0, hk =>
    cases hk
    have h1 := h 0 _ rfl
    show H[b]? = some (vp_cell _ _)
    have h2 : H[b]? = some (vp_cell cA (n, .inr (.inr (.inr (.inr f))))) := h1
    rw [h2]
    show some (arrV cA n (fun j => va_rf (f j))) = some (arrV cA n (fun j => va_rf (g j)))
    unfold arrV
    congr 2
    apply Array.ext
    · simp
    · intro i h1 h2
      simp at h1
      simp [e i h1]
  | k + 1, hk => simp at hk
theorem row_i {G : GG} {a : Nat → Nat} {i n : Nat} {f g : Nat → Int32} {H : Heap} (h : PP G (rowW G a i n f) H) (e : ∀ j, j < n → f j = g j) : PP G (rowW G a i n g) H :=
  P_app (w1 := [(a i, .inr (4, [.ref (a (i + 1))]))]) (w2 := [(a (i + 1), .inl (gI G, n, .inl g))]) (P_app1 (w1 := [(a i, .inr (4, [.ref (a (i + 1))]))]) (w2 := [(a (i + 1), .inl (gI G, n, .inl f))]) h) (PP_i (P_app2 (w1 := [(a i, .inr (4, [.ref (a (i + 1))]))]) (w2 := [(a (i + 1), .inl (gI G, n, .inl f))]) h) e)
theorem ones4 {f : Nat → Int32} : ∀ j, j < 4 → upd (upd (upd (upd f 0 (nI 1)) 1 (nI 1)) 2 (nI 1)) 3 (nI 1) j = nI 1 := by
  intro j hj
  have : j = 0 ∨ j = 1 ∨ j = 2 ∨ j = 3 := by omega
  rcases this with rfl | rfl | rfl | rfl <;> rfl
theorem nets4 {f : Nat → Option Nat} {a : Nat → Nat} : ∀ j, j < 4 → va_up (va_up (va_up (va_up f 0 (some (a 49))) 1 (some (a 60))) 2 (some (a 71))) 3 (some (a 82)) j = some (a (49 + 11 * j)) := by
  intro j hj
  have : j = 0 ∨ j = 1 ∨ j = 2 ∨ j = 3 := by omega
  rcases this with rfl | rfl | rfl | rfl <;> rfl
/-- the class as it is made -/
abbrev gobW (a : Nat → Nat) : va_W := [(a 0, .inr (11, [.ref (a 1), .ref (a 2), .ref (a 4), .ref (a 6), .ref (a 21), .ref (a 28), .ref (a 31), .ref (a 36), .ref (a 41), .ref (a 42), .ref (a 45), .ref (a 48)]))]
abbrev garW (G : GG) (a : Nat → Nat) : va_W := [(a 1, .inl (gQ G, 4, .inr (.inr (.inr (.inr (fun z => some (a (49 + 11 * z))))))))]
