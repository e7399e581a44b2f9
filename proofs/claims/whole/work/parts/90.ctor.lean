/-! what is made is made behind the heap's end: the addresses are those of a, one behind the other -/
section CT
variable {p : Program} {l : Launch} {e : Env} {R : Room} {s : State} {m : MethodId} {args : Array Value} {below : List Frame} {meth : Method} {c : Code} {H : Heap} {locs : List Loc} {cells slots : Nat} {Q : State → Prop}
variable {cc : ByteArray} {pc : Nat} {ls : Array Slot} {rest : List Value} {A : Nat → Prop} {G : GG} {a : Nat → Nat} {b0 : Nat}
theorem va_S.more {H1 : Heap} {H0 : Heap} (h : va_S A H0 H locs) (z : H.size ≤ H1.size) (o : ∀ q, q < H.size → H1[q]? = H[q]?) : va_S A H0 H1 locs := ⟨Nat.le_trans h.1 z, fun x h1 h2 => (o x (Nat.lt_of_lt_of_le h1 h.1)).trans (h.2.1 x h1 h2), h.2.2⟩
theorem pp_new (hexec : p.tables.exec = Jvm.exec) (hb : c.code = cc) {own C : String} {T : u_T} {N ci index : Nat} {Ts : List Cond} (hts : ∀ w ∈ Ts, w.before args s = true) (hin : ∀ w ∈ u_ws C T N, w ∈ Ts) (ty : Nat → FieldType) (hty : ∀ k, k < N → parseFieldDescriptor (T k).2.2.1 = some (ty k)) (hown : s.vm.findClass own = some m.cls) (hcl : (Cond.classLink own index C).before args s = true) (hinst : (Cond.instantiable C N).before args s = true) (hini : (Cond.initialized C).before args s = true)
    (hK : KK G s) (hc : vwCl[ci]? = some (C, T, N)) {fs : List Value} (hfs : ∀ j, j < N → defaultValue (ty j) = vp_V fs j) (hab : ∀ k, a k = b0 + k) {j j1 : Nat} (hZ : H.size = b0 + j) (hj : j1 = j + 1) {H0 : Heap} (hS : va_S A H0 H locs) (hcells : cells + 1 ≤ R.cells) (hslots : slots + N ≤ R.slots) (hdg : decode cc pc = .ok (.new index, 3))
    (kk : ∀ H1 : Heap, PP G [(a j, .inr (ci, fs))] H1 → (∀ q : Nat, q < H.size → H1[q]? = H[q]?) → H1.size = b0 + j1 → va_S A H0 H1 locs →
      W p l e R s m args below meth c H1 locs (cells + 1) (slots + N) Q (F0 m (pc + 3) ls (.ref (a j) :: rest))) : W p l e R s m args below meth c H locs cells slots Q (F0 m pc ls rest) := by
  have hKn := hK.1 ci _ hc
  subst hj
  rw [hab j] at kk
  refine W.newcK hexec hb hown hcl hinst hini rfl hdg hcells hslots hKn.2.1 hZ fun H1 kC hkC e1 z1 o1 => ?_
  have o2 : ∀ q : Nat, q < H.size → H1[q]? = H[q]? := fun q hq => o1 q (by omega)
  refine kk H1 (fun k x hx => ?_) o2 (by omega) (va_S.more hS (by omega) o2)
  have hz : k < 1 := (List.getElem?_eq_some_iff.mp hx).1
  rw [show k = 0 by omega] at hx
  cases hx
  exact ⟨_, hc, (u_born ty hts hin hKn hkC e1 hty).to hfs⟩
theorem pp_newa (hexec : p.tables.exec = Jvm.exec) (hb : c.code = cc) {atype : ArrayType} (harr : (Cond.arrayClass (newarray.typeOf atype)).before args s = true) {ty : FieldType} (hty : newarray.typeOf atype = ty) {cA0 : ClassId} (hfc : s.vm.findClass ("[" ++ ty.toString) = some cA0)
    {n : Int32} {N' : Nat} {a0 : vp_A} (ha : vp_cell cA0 a0 = arrV cA0 N' (fun _ => defaultValue ty)) (hn : ¬ n < 0) (hN : n.toNatClampNeg = N') (hbytes : N' * componentBytes ty ≤ 536870912) (hcells : cells + 1 ≤ R.cells) (hslots : slots + N' ≤ R.slots) (hdg : decode cc pc = .ok (.newarray atype, 2)) (hab : ∀ k, a k = b0 + k) {j j1 : Nat} (hZ : H.size = b0 + j) (hj : j1 = j + 1) {H0 : Heap} (hS : va_S A H0 H locs)
    (kk : ∀ H1 : Heap, PP G [(a j, .inl (cA0, a0))] H1 → (∀ q : Nat, q < H.size → H1[q]? = H[q]?) → H1.size = b0 + j1 → va_S A H0 H1 locs →
      W p l e R s m args below meth c H1 locs (cells + 1) (slots + N') Q (F0 m (pc + 2) ls (.ref (a j) :: rest))) : W p l e R s m args below meth c H locs cells slots Q (F0 m pc ls (.int n :: rest)) := by
  subst hty
  subst hj
  rw [hab j] at kk
  refine va_newaK hexec hb harr rfl hdg rfl hn hN hbytes hcells hslots hZ fun H1 cA e1 z1 o1 hAr hNm => ?_
  have hc : cA0 = cA := Option.some.inj (hfc.symm.trans hNm)
  subst hc
  have o2 : ∀ q : Nat, q < H.size → H1[q]? = H[q]? := fun q hq => o1 q (by omega)
  refine kk H1 (fun k x hx => ?_) o2 (by omega) (va_S.more hS (by omega) o2)
  have hz : k < 1 := (List.getElem?_eq_some_iff.mp hx).1
  rw [show k = 0 by omega] at hx
  cases hx
  show H1[b0 + j]? = some (vp_cell _ _)
  rw [ha]
  exact e1
theorem pp_newq (hexec : p.tables.exec = Jvm.exec) (hb : c.code = cc) {own C : String} {index : Nat} (hown : s.vm.findClass own = some m.cls) (hclink : (Cond.classLink own index C).before args s = true) (hover : va_AO C s) {cA0 : ClassId} (hfc : s.vm.findClass ("[" ++ (FieldType.object C).toString) = some cA0)
    {n : Int32} {N' : Nat} (hn : ¬ n < 0) (hN : n.toNatClampNeg = N') (hbytes : N' * 4 ≤ 536870912) (hcells : cells + 1 ≤ R.cells) (hslots : slots + N' ≤ R.slots) (hdg : decode cc pc = .ok (.anewarray index, 3)) (hab : ∀ k, a k = b0 + k) {j j1 : Nat} (hZ : H.size = b0 + j) (hj : j1 = j + 1) {H0 : Heap} (hS : va_S A H0 H locs)
    (kk : ∀ H1 : Heap, PP G [(a j, .inl (cA0, N', .inr (.inr (.inr (.inr (fun _ => none))))))] H1 → (∀ q : Nat, q < H.size → H1[q]? = H[q]?) → H1.size = b0 + j1 → va_S A H0 H1 locs →
      W p l e R s m args below meth c H1 locs (cells + 1) (slots + N') Q (F0 m (pc + 3) ls (.ref (a j) :: rest))) : W p l e R s m args below meth c H locs cells slots Q (F0 m pc ls (.int n :: rest)) := by
  subst hN
  subst hj
  rw [hab j] at kk
  refine W.anew hexec hb hown hclink (va_AO.use hover) rfl hdg rfl hn hbytes hcells hslots fun cA kA comp f1 f2 f3 f4 => ?_
  have hc : cA0 = cA := Option.some.inj (hfc.symm.trans f1)
  subst hc
  generalize hH1 : H.push ({ cls := cA0, slots := Array.replicate n.toNatClampNeg .null, vm := .none } : Cell) = H1
  have z1 : H1.size = H.size + 1 := by rw [← hH1, Array.size_push]
  have e1 : H1[H.size]? = some (arrV cA0 n.toNatClampNeg (fun _ => .null)) := by rw [← hH1, Array.getElem?_push_size, ← arrV_new]
  have o1 : ∀ q : Nat, q < H.size → H1[q]? = H[q]? := fun q hq => by rw [← hH1, Array.getElem?_push, if_neg (Nat.ne_of_lt hq)]
  rw [hZ] at e1 ⊢
  refine kk H1 (fun k x hx => ?_) o1 (by omega) (va_S.more hS (by omega) o1)
  have hz : k < 1 := (List.getElem?_eq_some_iff.mp hx).1
  rw [show k = 0 by omega] at hx
  cases hx
  show H1[b0 + j]? = some (vp_cell _ _)
  rw [vp_cell_q]
  exact e1
theorem pp_putF (hexec : p.tables.exec = Jvm.exec) (hb : c.code = cc) {own ref C : String} {T : u_T} {N ci index b : Nat} {Ts : List Cond} (hts : ∀ w ∈ Ts, w.before args s = true) (hin : ∀ w ∈ u_ws C T N, w ∈ Ts) (ty0 : Nat → FieldType) (hty : ∀ k, k < N → parseFieldDescriptor (T k).2.2.1 = some (ty0 k)) (hnm : ∀ a, a < N → ∀ b, b < N → a ≠ b → (T a).2.1 ≠ (T b).2.1) (hown : s.vm.findClass own = some m.cls) (hK : KK G s) {fs : List Value} (hP : PP G [(b, .inr (ci, fs))] H) {H0 : Heap} (hS0 : va_S A H0 H locs) (hA : A b) (hc : vwCl[ci]? = some (C, T, N)) (k : Nat) (hk : k < N) (hlink : (Cond.fieldLink own index ref (T k).2.1 (T k).2.2.1).before args s = true) (hsame : ∀ x, s.fieldFound? (T k).1 (T k).2.1 (T k).2.2.1 = some x → s.fieldFound? ref (T k).2.1 (T k).2.2.1 = some x) (hfin : (T k).2.2.2 = true) (hin2 : meth.name = "<init>") (hdecl : (T k).1 = own) {ty : FieldType} {v : Value} (hd : parseFieldDescriptor (T k).2.2.1 = some ty) (hn : narrow ty v = v) (hfit : fits ty v = true) (hl : k < fs.length)
    (hdg : decode cc pc = .ok (.putfield index, 3)) (kk : ∀ (H1 : Heap) (locs1 : List Loc), PP G [(b, .inr (ci, fs.set k v))] H1 → (∀ q : Nat, q < H.size → ¬ (fun q => q = b) q → H1[q]? = H[q]?) → H1.size = H.size → va_S A H0 H1 locs1 → W p l e R s m args below meth c H1 locs1 cells slots Q (F0 m (pc + 3) ls rest)) : W p l e R s m args below meth c H locs cells slots Q (F0 m pc ls (v :: .ref b :: rest)) := by
  have hap := va_apart (own := own) hts hin ty0 hty hnm hK hc
  obtain ⟨r, h1, cell, q1, q2, q3, q4⟩ := hP 0 _ rfl
  have hr : r = (C, T, N) := Option.some.inj (h1.symm.trans hc)
  subst hr
  obtain ⟨hS, hfc, kC, hkC, hkind⟩ := hK.1 ci _ hc
  obtain ⟨cf, kf, fi, f, hi, hsl⟩ := hS k hk
  have hlay := hts _ (hin _ (u_in_lay hk))
  unfold u_lay at hlay
  rw [if_pos hfin] at hlay
  have hst := (u_facts hfc hkC (u_lays hts hin hk) hi).1
  have hcf : m.cls = cf := by
    obtain ⟨_, _, c', _, _, _, -, -, hf', -, -, -, hown2, -⟩ := Cond.laysFinal_spec hlay
    have e1 : c' = cf := by have := hi.symm.trans hf'; simp at this; exact this.1.symm
    rw [hdecl] at hown2
    rw [← e1]; exact Option.some.inj (hown.symm.trans hown2)
  have h6 := u_fits hfc hkC hkind (Or.inr hlay) hi hd hn hfit
  refine W.putFinK hexec hb hown hlink (hsame _ hi) hst hcf hin2 (by rw [q2]; exact h6) q1 q3 (by rw [hsl]; exact k2_hasslot (q4 k hk)) rfl rfl hdg fun H' e1 e2 e3 => ?_
  rw [hsl] at e1 ⊢
  refine kk H' _ (fun k0 q hk0 => ?_) (fun q _ h => e3 q h) e2 (hS0.put e2 e3 hA)
  match k0, hk0 with
  | 0, hk0 =>
    cases hk0
    exact ⟨_, hc, t_OB.to (V := updV (vp_V fs) k v) ⟨_, e1, q2, q3, t_set q4 hap hk v⟩ (fun j _ => vp_updV_set hl v j)⟩
  | k0 + 1, hk0 => simp at hk0
theorem pp_astq (hexec : p.tables.exec = Jvm.exec) (hb : c.code = cc) (hK : KK G s) {b v n : Nat} {f : Nat → Option Nat} {vs : List Value} (hP : PP G [(b, .inl (gQ G, n, .inr (.inr (.inr (.inr f)))))] H) (hV : PP G [(v, .inr (3, vs))] H) (hbv : b ≠ v) {H0 : Heap} (hS : va_S A H0 H locs) (hA : A b) (hAv : A v) {i : Int32} (hin : vp_in i n) (hdg : decode cc pc = .ok (.aastore, 1))
    (kk : ∀ (H1 : Heap) (locs1 : List Loc), PP G [(b, .inl (gQ G, n, .inr (.inr (.inr (.inr (va_up f i.toNatClampNeg (some v)))))))] H1 → (∀ q : Nat, q < H.size → ¬ (fun q => q = b) q → H1[q]? = H[q]?) → H1.size = H.size → va_S A H0 H1 locs1 → W p l e R s m args below meth c H1 locs1 cells slots Q (F0 m (pc + 1) ls rest)) : W p l e R s m args below meth c H locs cells slots Q (F0 m pc ls (.ref v :: .int i :: .ref b :: rest)) := by
  have hlt : i.toNatClampNeg < n := Nat.not_le.mp fun q => hin (Or.inr q)
  have h0 : ¬ i < 0 := fun q => hin (Or.inl q)
  obtain ⟨r', hr', cellV, g1, g2, g3, -⟩ := hV 0 _ rfl
  have hcls := (hK.1 3 (RX3, TX3, 8) rfl).2
  obtain ⟨kA, comp, k1, k2, k3, -⟩ := (hK.2 2 _ rfl).2
  have hcomp : comp = G.1.1 3 := Option.some.inj (k3.symm.trans hcls.1)
  subst hcomp
  obtain ⟨kC, hkC, -⟩ := hcls.2
  refine W.aast hexec hb (hP 0 _ rfl) (fun q h => by cases h) (fun h => by cases h) k1 k2 rfl hkC ⟨h0, by show _ < (arrV _ _ _).slots.size; rw [arrV_size]; exact hlt⟩ g1 (fun q h => by rw [g3] at h; cases h) (by rw [g2]; exact hkC) (by rw [g2]; exact va_assign hcls) rfl rfl hdg fun H1 e z oq => ?_
  refine kk H1 _ (fun k0 q hk0 => ?_) (fun q _ h => oq q h) z (hS.put z oq hA)
  match k0, hk0 with
  | 0, hk0 =>
    cases hk0
    show H1[b]? = some (vp_cell _ _)
    rw [e]
    rw [vp_cell_q, vp_cell_q, arrV_store]
    congr 2
    funext q
    by_cases hq : q = i.toNatClampNeg
    · subst hq
      simp [updV, va_up, va_rf]
    · simp [updV, va_up, hq]
  | k0 + 1, hk0 => simp at hk0
theorem lv_obj (hexec : p.tables.exec = Jvm.exec) (hb : c.code = cc) {own : String} (hown : s.vm.findClass own = some m.cls) {idx : Nat}
    (hlink : (Cond.methodLink own idx Lib.objectInit).before args s = true) (hinst : (Cond.instanceMethod Lib.objectInit).before args s = true) (hcode : (Cond.code Lib.objectInit ⟨#[0xb1]⟩ 1 none).before args s = true)
    (hsize : ls.size = c.maxLocals) {x : Addr} (hd : decode cc pc = .ok (.invokespecial idx, 3)) (hframes : 1 ≤ R.frames) (hlocals : (rest.map fun v => v.category).sum + 12 ≤ R.locals)
    (kk : W p l e R s m args below meth c H locs cells slots Q (F0 m (pc + 3) ls rest)) : W p l e R s m args below meth c H locs cells slots Q (F0 m pc ls (.ref x :: rest)) :=
  W.objInit hexec hb hown hlink hinst hcode rfl hsize rfl hd hframes (by show 2 * 0 + _ + 12 ≤ _; omega) kk
end CT
/-- a net as it is made -/
def N0 : NT := ((0, 0, 0), fun _ => 0, fun _ => 0, fun _ => 0, fun _ => nI 0, fun _ => 0)
abbrev makI (G : GG) (a : Nat → Nat) (i : Nat) : va_W := makO a i (nI 0) (nI 0) (nI 0) ++ (rowW G a (i + 1) 6 (fun _ => nI 0) ++ (rowW G a (i + 3) 6 (fun _ => nI 0) ++ (rowW G a (i + 5) 6 (fun _ => nI 0) ++ (rowW G a (i + 7) 6 (fun _ => nI 0) ++ (rowW G a (i + 9) 6 (fun _ => nI 0) ++ (rowW G a (i + 11) 16 (fun _ => nI 0) ++ rowW G a (i + 13) 5 (fun _ => nI 0)))))))
theorem makI_in {G : GG} {a : Nat → Nat} {i : Nat} : inR a i 15 (makI G a i) := inR_app (inR_cons (k := i) (by omega) inR_nil) (inR_app (inR_mono (i := i + 1) (n := 2) rowW_in (by omega)) (inR_app (inR_mono (i := i + 3) (n := 2) rowW_in (by omega)) (inR_app (inR_mono (i := i + 5) (n := 2) rowW_in (by omega)) (inR_app (inR_mono (i := i + 7) (n := 2) rowW_in (by omega)) (inR_app (inR_mono (i := i + 9) (n := 2) rowW_in (by omega)) (inR_app (inR_mono (i := i + 11) (n := 2) rowW_in (by omega)) (inR_mono (i := i + 13) (n := 2) rowW_in (by omega))))))))
theorem va_RA_nm {U : State} {cA : ClassId} {C : String} (h : va_RA U cA (.object C)) : U.vm.findClass ("[" ++ (FieldType.object C).toString) = some cA := by
  obtain ⟨kA, comp, -, -, -, h4⟩ := h
  exact h4
