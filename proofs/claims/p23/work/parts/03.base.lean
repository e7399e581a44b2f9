/-! own base: a map of addresses, parts of the heap by their places in it, contracts over parts -/
abbrev GG : Type := va_G × ClassId × ClassId × ClassId
abbrev gI (G : GG) : ClassId := G.2.1
abbrev gJ (G : GG) : ClassId := G.2.2.1
abbrev gQ (G : GG) : ClassId := G.2.2.2
abbrev TY (G : GG) : List (ClassId × FieldType) := [(G.2.1, .int), (G.2.2.1, .long), (G.2.2.2, .object "GateLedger$Net")]
abbrev PP (G : GG) (ws : va_W) (H : Heap) : Prop := va_P G.1 vwCl ws H
abbrev KK (G : GG) (U : State) : Prop := va_K G.1 vwCl (TY G) U
def Inj (a : Nat → Nat) : Prop := ∀ i j, a i = a j → i = j
def rng (a : Nat → Nat) (i n : Nat) : Nat → Prop := fun q => ∃ k, i ≤ k ∧ k < i + n ∧ q = a k
def inR (a : Nat → Nat) (i n : Nat) (ws : va_W) : Prop := ∀ e ∈ ws, ∃ k, i ≤ k ∧ k < i + n ∧ e.1 = a k
def dj (A : Nat → Prop) (ws : va_W) : Prop := ∀ e ∈ ws, ¬ A e.1
def orA (A B : Nat → Prop) : Nat → Prop := fun q => A q ∨ B q
theorem rng_in {a : Nat → Nat} {i n k : Nat} (h : i ≤ k ∧ k < i + n) : rng a i n (a k) := ⟨k, h.1, h.2, rfl⟩
theorem rng_no {a : Nat → Nat} (ha : Inj a) {i n k : Nat} (h : k < i ∨ i + n ≤ k) : ¬ rng a i n (a k) := by
  rintro ⟨j, h1, h2, h3⟩
  have := ha _ _ h3
  omega
theorem rng_sub {a : Nat → Nat} {i n j k : Nat} (h : j ≤ i ∧ i + n ≤ j + k) : ∀ q, rng a i n q → rng a j k q := by
  rintro q ⟨x, h1, h2, h3⟩
  exact ⟨x, by omega, by omega, h3⟩
theorem dj_rng {a : Nat → Nat} (ha : Inj a) {i n j k : Nat} {ws : va_W} (h : inR a j k ws) (hd : j + k ≤ i ∨ i + n ≤ j) : dj (rng a i n) ws := by
  intro e he hr
  obtain ⟨x, h1, h2, h3⟩ := h e he
  rw [h3] at hr
  exact rng_no ha (by omega) hr
theorem dj_or {A B : Nat → Prop} {ws : va_W} (h1 : dj A ws) (h2 : dj B ws) : dj (orA A B) ws := fun e he h => h.elim (h1 e he) (h2 e he)
theorem dj_app {A : Nat → Prop} {w1 w2 : va_W} (h1 : dj A w1) (h2 : dj A w2) : dj A (w1 ++ w2) := fun e he => (List.mem_append.mp he).elim (h1 e) (h2 e)
theorem dj_mono {A B : Nat → Prop} {ws : va_W} (h1 : dj A ws) (h : ∀ q, B q → A q) : dj B ws := fun e he hb => h1 e he (h _ hb)
theorem inR_app {a : Nat → Nat} {i n : Nat} {w1 w2 : va_W} (h1 : inR a i n w1) (h2 : inR a i n w2) : inR a i n (w1 ++ w2) := fun e he => (List.mem_append.mp he).elim (h1 e) (h2 e)
theorem inR_mono {a : Nat → Nat} {i n j k : Nat} {ws : va_W} (h1 : inR a i n ws) (h : j ≤ i ∧ i + n ≤ j + k) : inR a j k ws := by
  intro e he
  obtain ⟨x, q1, q2, q3⟩ := h1 e he
  exact ⟨x, by omega, by omega, q3⟩
theorem inR_cons {a : Nat → Nat} {i n k : Nat} {x : va_E} {ws : va_W} (h : i ≤ k ∧ k < i + n) (h2 : inR a i n ws) : inR a i n ((a k, x) :: ws) := by
  intro e he
  rcases List.mem_cons.mp he with rfl | h3
  · exact ⟨k, h.1, h.2, rfl⟩
  · exact h2 e h3
theorem inR_nil {a : Nat → Nat} {i n : Nat} : inR a i n [] := fun e he => absurd he List.not_mem_nil
theorem P_app1 {G : GG} {w1 w2 : va_W} {H : Heap} (h : PP G (w1 ++ w2) H) : PP G w1 H := fun k q hk => by
  obtain ⟨i, hi⟩ := List.getElem?_of_mem (List.mem_append_left w2 (List.mem_of_getElem? hk))
  exact h i q hi
theorem P_app2 {G : GG} {w1 w2 : va_W} {H : Heap} (h : PP G (w1 ++ w2) H) : PP G w2 H := fun k q hk => by
  obtain ⟨i, hi⟩ := List.getElem?_of_mem (List.mem_append_right w1 (List.mem_of_getElem? hk))
  exact h i q hi
theorem P_app {G : GG} {w1 w2 : va_W} {H : Heap} (h1 : PP G w1 H) (h2 : PP G w2 H) : PP G (w1 ++ w2) H := va_P.app h1 h2
/-- a part that this method doesn't write, at any time -/
theorem ro {G : GG} {A : Nat → Prop} {ws : va_W} {H0 H : Heap} {locs : List Loc} (hS : va_S A H0 H locs) (h : PP G ws H0) (d : dj A ws) : PP G ws H :=
  va_P.kept h fun k q hk => hS.2.1 q.1 (h k q hk).lt (d q (List.mem_of_getElem? hk))
/-- a part that the last step didn't write -/
theorem kp {G : GG} {A1 : Nat → Prop} {ws : va_W} {H H1 : Heap} (hk : ∀ q : Nat, q < H.size → ¬ A1 q → H1[q]? = H[q]?) (h : PP G ws H) (d : dj A1 ws) : PP G ws H1 :=
  va_P.kept h fun k q hk2 => hk q.1 (h k q hk2).lt (d q (List.mem_of_getElem? hk2))
/-- the words of nest mates' calls (join) -/
def NW (U : State) : Prop := va_Nw (.methodLinkNest RX1 58 yX11_join RX11) U ∧ va_Nw (.methodLinkNest RX6 75 yX11_join RX11) U ∧ va_Nw (.methodLinkNest RX8 84 yX11_join RX11) U ∧ va_Nw (.methodLinkNest RX10 82 yX11_join RX11) U
theorem NW.same {u U : State} (h : u.vm = U.vm) (n : NW u) : NW U := ⟨va_Nw.same rfl h n.1, va_Nw.same rfl h n.2.1, va_Nw.same rfl h n.2.2.1, va_Nw.same rfl h n.2.2.2⟩
theorem NW.warm {s U : State} (hW : s.WarmedH U.vm) (n : NW s) : NW U := ⟨va_Nw.warmM hW n.1, va_Nw.warmM hW n.2.1, va_Nw.warmM hW n.2.2.1, va_Nw.warmM hW n.2.2.2⟩
def PcB (G : GG) (av : List Value) (B : Heap → Prop) : Array Value → State → Prop := fun v U => v = av.toArray ∧ B U.heap ∧ KK G U ∧ NW U
theorem PcB_blind {G : GG} {av : List Value} {B : Heap → Prop} : FrameBlind (PcB G av B) := fun a U g mk h => ⟨h.1, h.2.1, va_K.moved (u := U) (U := U.calling g mk a) (Vm.Alike.refl U.vm) h.2.2.1, NW.same (u := U) (U := U.calling g mk a) rfl h.2.2.2⟩
theorem preV {G : GG} {s : State} {H : Heap} {C : String} {b : Addr} {As : List Value} {B : Heap → Prop} (hK : KK G s) (hNW : NW s) (hB : B H) (hrc : ∃ cell : Cell, H[b]? = some cell ∧ cell.vm.isStatics = false ∧ s.vm.findClass C = some cell.cls) : PreV s H C b (PcB G (.ref b :: As) B) As :=
  ⟨PcB_blind, hrc, fun U hU hW => ⟨rfl, by rw [hU]; exact hB, va_K.moved hW.alike hK, hNW.warm hW⟩⟩
theorem preS {G : GG} {s : State} {H : Heap} {As : List Value} {B : Heap → Prop} (hK : KK G s) (hNW : NW s) (hB : B H) : PreS s H (PcB G As B) As :=
  ⟨PcB_blind, fun U hU hW => ⟨rfl, by rw [hU]; exact hB, va_K.moved hW.alike hK, hNW.warm hW⟩⟩
/-- the static row of longs of Lanes, at t, that no method here writes -/
def lowF : Nat → Int64 := fun k => match k with
  | 0 => -6148914691236517206
  | 1 => -3689348814741910324
  | 2 => -1085102592571150096
  | 3 => -71777214294589696
  | 4 => -281470681808896
  | _ => -4294967296
def inM (a : Nat → Nat) : Nat → Prop := fun q => ∃ k, q = a k
def LOW (a : Nat → Nat) (t : Nat) (U : State) (H : Heap) : Prop := va_Z "GateLedger$Lanes" "LOW_INPUTS" "[J" (.ref t) (inM a) U H ∧ va_T .long t 6 (fun k => .long (lowF k)) (inM a) U H
theorem LOW.moved {a : Nat → Nat} {t : Nat} {u U : State} {H : Heap} (hvm : u.vm.Alike U.vm) (h : LOW a t u H) : LOW a t U H := ⟨h.1.moved hvm, h.2.moved hvm⟩
theorem LOW.kept {a : Nat → Nat} {t : Nat} {U : State} {H H1 : Heap} (h : LOW a t U H) (hq : ∀ q : Nat, q < H.size → ¬ inM a q → H1[q]? = H[q]?) : LOW a t U H1 := ⟨h.1.kept hq, h.2.kept hq⟩
theorem LOW.at {a : Nat → Nat} {t : Nat} {s : State} {A : Nat → Prop} {H : Heap} {locs : List Loc} (h : LOW a t s s.heap) (hS : va_S A s.heap H locs) (hA : ∀ q, q < s.heap.size → A q → inM a q) : LOW a t s H := h.kept fun q h1 h2 => hS.2.1 q h1 (fun h3 => h2 (hA q h1 h3))
theorem rng_M {a : Nat → Nat} {i n : Nat} : ∀ q, rng a i n q → inM a q := by
  rintro q ⟨k, _, _, h⟩
  exact ⟨k, h⟩
def PcL (G : GG) (a : Nat → Nat) (t : Nat) (av : List Value) (B : Heap → Prop) : Array Value → State → Prop := fun v U => PcB G av B v U ∧ LOW a t U U.heap
theorem PcL_blind {G : GG} {a : Nat → Nat} {t : Nat} {av : List Value} {B : Heap → Prop} : FrameBlind (PcL G a t av B) := fun x U g mk h => ⟨PcB_blind x U g mk h.1, LOW.moved (u := U) (U := U.calling g mk x) (Vm.Alike.refl U.vm) h.2⟩
theorem preVL {G : GG} {a : Nat → Nat} {t : Nat} {s : State} {H : Heap} {C : String} {b : Addr} {As : List Value} {B : Heap → Prop} (hK : KK G s) (hNW : NW s) (hB : B H) (hL : LOW a t s H) (hrc : ∃ cell : Cell, H[b]? = some cell ∧ cell.vm.isStatics = false ∧ s.vm.findClass C = some cell.cls) : PreV s H C b (PcL G a t (.ref b :: As) B) As :=
  ⟨PcL_blind, hrc, fun U hU hW => ⟨⟨rfl, by rw [hU]; exact hB, va_K.moved hW.alike hK, hNW.warm hW⟩, by rw [hU]; exact hL.moved hW.alike⟩⟩
theorem preSL {G : GG} {a : Nat → Nat} {t : Nat} {s : State} {H : Heap} {As : List Value} {B : Heap → Prop} (hK : KK G s) (hNW : NW s) (hB : B H) (hL : LOW a t s H) : PreS s H (PcL G a t As B) As :=
  ⟨PcL_blind, fun U hU hW => ⟨⟨rfl, by rw [hU]; exact hB, va_K.moved hW.alike hK, hNW.warm hW⟩, by rw [hU]; exact hL.moved hW.alike⟩⟩
def QV {S : Type} (post : S → Prop) (Bn : S → Heap → Prop) (A : Nat → Prop) : Array Value → State → Outcome → State → Prop := va_Qv post (fun u t => Bn u t.heap) A
def QI {S : Type} (post : Int32 → S → Prop) (Bn : S → Heap → Prop) (A : Nat → Prop) : Array Value → State → Outcome → State → Prop := va_Qi post (fun u t => Bn u t.heap) A
section OWN
variable {p : Program} {l : Launch} {e : Env} {R : Room} {s : State} {m : MethodId} {args : Array Value} {below : List Frame} {meth : Method} {c : Code} {H : Heap} {locs : List Loc} {cells slots : Nat} {Q : State → Prop}
variable {cc : ByteArray} {pc : Nat} {ls : Array Slot} {rest st0 : List Value} {G : GG} {A A0 A1 : Nat → Prop} {H0 : Heap} {mc ms : Nat} {free : Addr → Prop} {a : Array Value}
theorem lv_as {x y : Int32} (h : x = y) (k : W p l e R s m args below meth c H locs cells slots Q (F0 m pc ls (.int y :: rest))) : W p l e R s m args below meth c H locs cells slots Q (F0 m pc ls (.int x :: rest)) := h ▸ k
theorem lv_asl {x y : Int64} (h : x = y) (k : W p l e R s m args below meth c H locs cells slots Q (F0 m pc ls (.long y :: rest))) : W p l e R s m args below meth c H locs cells slots Q (F0 m pc ls (.long x :: rest)) := h ▸ k
theorem lv_st {st st' : List Value} (h : st = st') (k : W p l e R s m args below meth c H locs cells slots Q (F0 m pc ls st')) : W p l e R s m args below meth c H locs cells slots Q (F0 m pc ls st) := h ▸ k
/-- a place where ways meet -/
theorem lv_lab {X : Type} {g : JFrame} (pcl : Nat) (I : X → Heap → List Loc → Array Slot → Prop) (stf : X → List Value)
    (J : ∀ (x : X) (H : Heap) (locs : List Loc) (ls : Array Slot), I x H locs ls → W p l e R s m args below meth c H locs cells slots Q (F0 m pcl ls (stf x)))
    (K : (∀ (x : X) (H : Heap) (locs : List Loc) (ls : Array Slot), I x H locs ls → W p l e R s m args below meth c H locs cells slots Q (F0 m pcl ls (stf x))) → W p l e R s m args below meth c H locs cells slots Q g) : W p l e R s m args below meth c H locs cells slots Q g := K J
/-- a loop: what holds at its head, a measure that falls -/
theorem lv_loop {X : Type} {g : JFrame} (pcl : Nat) (μ : X → Nat) (I : X → Heap → List Loc → Array Slot → Prop) (stf : X → List Value)
    (body : ∀ (x : X) (H : Heap) (locs : List Loc) (ls : Array Slot), I x H locs ls → (∀ (x' : X) (H' : Heap) (locs' : List Loc) (ls' : Array Slot), I x' H' locs' ls' → μ x' < μ x → W p l e R s m args below meth c H' locs' cells slots Q (F0 m pcl ls' (stf x'))) → W p l e R s m args below meth c H locs cells slots Q (F0 m pcl ls (stf x)))
    (x0 : X) (h0 : I x0 H locs ls) (hg : g = F0 m pcl ls (stf x0)) : W p l e R s m args below meth c H locs cells slots Q g := by
  subst hg
  have key : ∀ (n : Nat) (x : X), μ x < n → ∀ (H : Heap) (locs : List Loc) (ls : Array Slot), I x H locs ls → W p l e R s m args below meth c H locs cells slots Q (F0 m pcl ls (stf x)) := by
    intro n
    induction n with
    | zero => intro x h; exact absurd h (Nat.not_lt_zero _)
    | succ n ih => intro x h H locs ls hI; exact body x H locs ls hI (fun x' H' locs' ls' hI' hlt => ih x' (by omega) H' locs' ls' hI')
  exact key (μ x0 + 1) x0 (Nat.lt_succ_self _) H locs ls h0
theorem pp_iald (hexec : p.tables.exec = Jvm.exec) (hb : c.code = cc) (hK : KK G s) {ws : va_W} {b : Nat} (hP : PP G ws H) (q0 : Nat) {n : Nat} {f : Nat → Int32} (ha : ws[q0]? = some (b, .inl (gI G, n, .inl f))) {i : Int32} (hin : vp_in i n) (hdg : decode cc pc = .ok (.iaload, 1))
    (kk : W p l e R s m args below meth c H locs cells slots Q (F0 m (pc + 1) ls (.int (f i.toNatClampNeg) :: rest))) : W p l e R s m args below meth c H locs cells slots Q (F0 m pc ls (.int i :: .ref b :: rest)) := va_iald hexec hb hK hP q0 0 ha rfl hin hdg kk
theorem pp_lald (hexec : p.tables.exec = Jvm.exec) (hb : c.code = cc) (hK : KK G s) {ws : va_W} {b : Nat} (hP : PP G ws H) (q0 : Nat) {n : Nat} {f : Nat → Int64} (ha : ws[q0]? = some (b, .inl (gJ G, n, .inr (.inl f)))) {i : Int32} (hin : vp_in i n) (hdg : decode cc pc = .ok (.laload, 1))
    (kk : W p l e R s m args below meth c H locs cells slots Q (F0 m (pc + 1) ls (.long (f i.toNatClampNeg) :: rest))) : W p l e R s m args below meth c H locs cells slots Q (F0 m pc ls (.int i :: .ref b :: rest)) := va_lald hexec hb hK hP q0 1 ha rfl hin hdg kk
theorem pp_iast (hexec : p.tables.exec = Jvm.exec) (hb : c.code = cc) (hK : KK G s) {b : Nat} {n : Nat} {f : Nat → Int32} (hP : PP G [(b, .inl (gI G, n, .inl f))] H) (hS : va_S A H0 H locs) (hA : A b) {i x : Int32} (hin : vp_in i n) (hdg : decode cc pc = .ok (.iastore, 1))
    (kk : ∀ (H1 : Heap) (locs1 : List Loc), PP G [(b, .inl (gI G, n, .inl (upd f i.toNatClampNeg x)))] H1 → (∀ q : Nat, q < H.size → ¬ (fun q => q = b) q → H1[q]? = H[q]?) → H1.size = H.size → va_S A H0 H1 locs1 → W p l e R s m args below meth c H1 locs1 cells slots Q (F0 m (pc + 1) ls rest)) : W p l e R s m args below meth c H locs cells slots Q (F0 m pc ls (.int x :: .int i :: .ref b :: rest)) := by
  refine W.iast hexec hb (hP 0 _ rfl) ((hK.2 0 _ rfl).1 n (fun j => .int (f j))) (fun q => by cases q) (by show ¬ (i < 0 ∨ (arrV _ _ _).slots.size ≤ _); rw [arrV_size]; exact hin) rfl rfl hdg fun H1 e z oq => ?_
  refine kk H1 _ (fun k q hk => ?_) (fun q _ h => oq q h) z (hS.put z oq hA)
  match k, hk with
  | 0, hk =>
    cases hk
    show H1[b]? = some (vp_cell _ _)
    rw [e]
    rw [vp_cell_i, vp_cell_i, arrV_store]
    congr 2
    funext q
    by_cases hq : q = i.toNatClampNeg
    · subst hq
      simp [updV, upd]
    · simp [updV, upd, hq]
  | k + 1, hk => simp at hk
theorem pp_last (hexec : p.tables.exec = Jvm.exec) (hb : c.code = cc) (hK : KK G s) {b : Nat} {n : Nat} {f : Nat → Int64} (hP : PP G [(b, .inl (gJ G, n, .inr (.inl f)))] H) (hS : va_S A H0 H locs) (hA : A b) {i : Int32} {x : Int64} (hin : vp_in i n) (hdg : decode cc pc = .ok (.lastore, 1))
    (kk : ∀ (H1 : Heap) (locs1 : List Loc), PP G [(b, .inl (gJ G, n, .inr (.inl (vp_updL f i.toNatClampNeg x))))] H1 → (∀ q : Nat, q < H.size → ¬ (fun q => q = b) q → H1[q]? = H[q]?) → H1.size = H.size → va_S A H0 H1 locs1 → W p l e R s m args below meth c H1 locs1 cells slots Q (F0 m (pc + 1) ls rest)) : W p l e R s m args below meth c H locs cells slots Q (F0 m pc ls (.long x :: .int i :: .ref b :: rest)) := by
  refine W.last hexec hb (hP 0 _ rfl) ((hK.2 1 _ rfl).1 n (fun j => .long (f j))) (fun q => by cases q) (by show ¬ (i < 0 ∨ (arrV _ _ _).slots.size ≤ _); rw [arrV_size]; exact hin) rfl rfl hdg fun H1 e z oq => ?_
  refine kk H1 _ (fun k q hk => ?_) (fun q _ h => oq q h) z (hS.put z oq hA)
  match k, hk with
  | 0, hk =>
    cases hk
    show H1[b]? = some (vp_cell _ _)
    rw [e]
    rw [vp_cell_l, vp_cell_l, arrV_store]
    congr 2
    funext q
    by_cases hq : q = i.toNatClampNeg
    · subst hq
      simp [updV, vp_updL]
    · simp [updV, vp_updL, hq]
  | k + 1, hk => simp at hk
theorem pp_put (hexec : p.tables.exec = Jvm.exec) (hb : c.code = cc) {own ref C : String} {T : u_T} {N ci index b : Nat} {Ts : List Cond} (hts : ∀ w ∈ Ts, w.before args s = true) (hin : ∀ w ∈ u_ws C T N, w ∈ Ts) (ty0 : Nat → FieldType) (hty : ∀ k, k < N → parseFieldDescriptor (T k).2.2.1 = some (ty0 k)) (hnm : ∀ a, a < N → ∀ b, b < N → a ≠ b → (T a).2.1 ≠ (T b).2.1) (hown : s.vm.findClass own = some m.cls) (hK : KK G s) {fs : List Value} (hP : PP G [(b, .inr (ci, fs))] H) (hS0 : va_S A H0 H locs) (hA : A b) (hc : vwCl[ci]? = some (C, T, N)) (k : Nat) (hk : k < N) (hlink : (Cond.fieldLink own index ref (T k).2.1 (T k).2.2.1).before args s = true) (hsame : ∀ x, s.fieldFound? (T k).1 (T k).2.1 (T k).2.2.1 = some x → s.fieldFound? ref (T k).2.1 (T k).2.2.1 = some x) (hfin : (T k).2.2.2 = false) {ty : FieldType} {v : Value} (hd : parseFieldDescriptor (T k).2.2.1 = some ty) (hn : narrow ty v = v) (hfit : fits ty v = true) (hl : k < fs.length)
    (hdg : decode cc pc = .ok (.putfield index, 3)) (kk : ∀ (H1 : Heap) (locs1 : List Loc), PP G [(b, .inr (ci, fs.set k v))] H1 → (∀ q : Nat, q < H.size → ¬ (fun q => q = b) q → H1[q]? = H[q]?) → H1.size = H.size → va_S A H0 H1 locs1 → W p l e R s m args below meth c H1 locs1 cells slots Q (F0 m (pc + 3) ls rest)) : W p l e R s m args below meth c H locs cells slots Q (F0 m pc ls (v :: .ref b :: rest)) := by
  have hap := va_apart (own := own) hts hin ty0 hty hnm hK hc
  obtain ⟨r, h1, cell, q1, q2, q3, q4⟩ := hP 0 _ rfl
  have hr : r = (C, T, N) := Option.some.inj (h1.symm.trans hc)
  subst hr
  obtain ⟨hS, hfc, kC, hkC, hkind⟩ := hK.1 ci _ hc
  obtain ⟨cf, kf, fi, f, hi, hsl⟩ := hS k hk
  have hlay := hts _ (hin _ (u_in_lay hk))
  unfold u_lay at hlay
  rw [if_neg (by rw [hfin]; decide)] at hlay
  have hst := (u_facts hfc hkC (u_lays hts hin hk) hi).1
  have h6 := u_store hfc hkC hkind hlay hi hd hn hfit
  refine W.putK hexec hb (f := f) ⟨hown, hlink, ⟨_, _, _, hsame _ hi⟩, hst⟩ (by rw [q2]; exact h6) q1 q3 (by rw [hsl]; exact k2_hasslot (q4 k hk)) rfl rfl hdg fun H' e1 e2 e3 => ?_
  rw [hsl] at e1 ⊢
  refine kk H' _ (fun k0 q hk0 => ?_) (fun q _ h => e3 q h) e2 (hS0.put e2 e3 hA)
  match k0, hk0 with
  | 0, hk0 =>
    cases hk0
    exact ⟨_, hc, t_OB.to (V := updV (vp_V fs) k v) ⟨_, e1, q2, q3, t_set q4 hap hk v⟩ (fun j _ => vp_updV_set hl v j)⟩
  | k0 + 1, hk0 => simp at hk0
variable {y : MethodName} {bytes : ByteArray} {maxL nL n index : Nat} {ret : Option FieldType} {ws : List Cond} {rm : Room} {Pc : Array Value → State → Prop} {Ts : List Cond} {own C : String} {b : Addr} {As : List Value}
/-- calls that write nothing -/
theorem ro_i {v : Int32} {a : Array Value} (hr : va_Run p l e R s m args below meth c H locs cells slots 0 0 (F0 m pc ls st0) rest (vp_Si (fun r => r = v) a) (fun _ => False))
    (k : W p l e R s m args below meth c H locs cells slots Q (F0 m (pc + 3) ls (.int v :: rest))) : W p l e R s m args below meth c H locs cells slots Q (F0 m pc ls st0) := by
  intro T hT X
  obtain ⟨v, st₀, t, T', L, h0, X', hL, e1, e2, ⟨r, hv, hp, hh⟩, st⟩ := hr T hT X
  cases hv
  subst hp
  obtain ⟨t2, a1, b1⟩ := k T' (by rw [e1, hh, h0]) (Stand.forget X' (fun q h => (hL q h).elim))
  exact ⟨t2, st t2 a1, b1⟩
theorem ro_l {v : Int64} {a : Array Value} (hr : va_Run p l e R s m args below meth c H locs cells slots 0 0 (F0 m pc ls st0) rest (vp_Sl (fun r => r = v) a) (fun _ => False))
    (k : W p l e R s m args below meth c H locs cells slots Q (F0 m (pc + 3) ls (.long v :: rest))) : W p l e R s m args below meth c H locs cells slots Q (F0 m pc ls st0) := by
  intro T hT X
  obtain ⟨v, st₀, t, T', L, h0, X', hL, e1, e2, ⟨r, hv, hp, hh⟩, st⟩ := hr T hT X
  cases hv
  subst hp
  obtain ⟨t2, a1, b1⟩ := k T' (by rw [e1, hh, h0]) (Stand.forget X' (fun q h => (hL q h).elim))
  exact ⟨t2, st t2 a1, b1⟩
/-- calls that write: the callee's cells A1 are among the caller's A0 -/
theorem wr_v {S : Type} {post : S → Prop} {Bn : S → Heap → Prop} {a : Array Value} (hr : va_Run p l e R s m args below meth c H locs cells slots mc ms (F0 m pc ls st0) rest (QV post Bn A1 a) A1) (hS : va_S A0 H0 H locs) (hA : ∀ q, A1 q → A0 q)
    (kk : ∀ (u : S) (H1 : Heap) (locs1 : List Loc), post u → Bn u H1 → (∀ q : Nat, q < H.size → ¬ A1 q → H1[q]? = H[q]?) → va_S A0 H0 H1 locs1 → W p l e R s m args below meth c H1 locs1 (cells + mc) (slots + ms) Q (F0 m (pc + 3) ls rest)) : W p l e R s m args below meth c H locs cells slots Q (F0 m pc ls st0) :=
  va_callv (B := fun u t => Bn u t.heap) (show va_Run p l e R s m args below meth c H locs cells slots mc ms (F0 m pc ls st0) rest (va_Qv post (fun u t => Bn u t.heap) A1 a) A1 from hr) hS (fun q _ h => hA q h) hA (fun u t H1 locs1 ht _ hp hb _ hk hS1 => kk u H1 locs1 hp (ht ▸ hb) hk hS1)
theorem wr_i {S : Type} {post : Int32 → S → Prop} {Bn : S → Heap → Prop} {a : Array Value} (hr : va_Run p l e R s m args below meth c H locs cells slots mc ms (F0 m pc ls st0) rest (QI post Bn A1 a) A1) (hS : va_S A0 H0 H locs) (hA : ∀ q, A1 q → A0 q)
    (kk : ∀ (r : Int32) (u : S) (H1 : Heap) (locs1 : List Loc), post r u → Bn u H1 → (∀ q : Nat, q < H.size → ¬ A1 q → H1[q]? = H[q]?) → va_S A0 H0 H1 locs1 → W p l e R s m args below meth c H1 locs1 (cells + mc) (slots + ms) Q (F0 m (pc + 3) ls (.int r :: rest))) : W p l e R s m args below meth c H locs cells slots Q (F0 m pc ls st0) :=
  va_calli (B := fun u t => Bn u t.heap) (show va_Run p l e R s m args below meth c H locs cells slots mc ms (F0 m pc ls st0) rest (va_Qi post (fun u t => Bn u t.heap) A1 a) A1 from hr) hS (fun q _ h => hA q h) hA (fun r u t H1 locs1 ht _ hp hb _ hk hS1 => kk r u H1 locs1 hp (ht ▸ hb) hk hS1)
/-- ends -/
theorem en_i {v v' : Int32} (hexec : p.tables.exec = Jvm.exec) (hb : c.code = cc) (hr : meth.sig.returnType = some .int) (hlocks : meth.locks = false) (hv : v' = v) (hdg : decode cc pc = .ok (.ireturn, 1)) : W p l e R s m args below meth c s.heap [] cells slots (MQ below (vp_Si (fun r => r = v)) args s cells slots (fun _ => False)) (F0 m pc ls [.int v']) :=
  W.iret hexec hb hr (fun t ht hW => ⟨v', rfl, hv, ht⟩) (fun _ h => absurd h List.not_mem_nil) hdg hlocks
theorem en_z {v v' : Int32} (hexec : p.tables.exec = Jvm.exec) (hb : c.code = cc) (hr : meth.sig.returnType = some .boolean) (hlocks : meth.locks = false) (hn : narrow .boolean (.int v') = .int v') (hv : v' = v) (hdg : decode cc pc = .ok (.ireturn, 1)) : W p l e R s m args below meth c s.heap [] cells slots (MQ below (vp_Si (fun r => r = v)) args s cells slots (fun _ => False)) (F0 m pc ls [.int v']) :=
  W.zret hexec hb hr hn (fun t ht hW => ⟨v', rfl, hv, ht⟩) (fun _ h => absurd h List.not_mem_nil) hdg hlocks
theorem en_l {v v' : Int64} (hexec : p.tables.exec = Jvm.exec) (hb : c.code = cc) (hr : meth.sig.returnType = some .long) (hlocks : meth.locks = false) (hv : v' = v) (hdg : decode cc pc = .ok (.lreturn, 1)) : W p l e R s m args below meth c s.heap [] cells slots (MQ below (vp_Sl (fun r => r = v)) args s cells slots (fun _ => False)) (F0 m pc ls [.long v']) :=
  W.lret hexec hb hr (fun t ht hW => ⟨v', rfl, hv, ht⟩) (fun _ h => absurd h List.not_mem_nil) hdg hlocks
theorem en_wv {S : Type} {post : S → Prop} {Bn : S → Heap → Prop} (u : S) (hexec : p.tables.exec = Jvm.exec) (hb : c.code = cc) (hr : meth.sig.returnType = none) (hlocks : meth.locks = false) (hS : va_S A s.heap H locs) (hp : post u) (hB : Bn u H) (hdg : decode cc pc = .ok (.return_, 1)) : W p l e R s m args below meth c H locs cells slots (MQ below (QV post Bn A) args s cells slots A) (F0 m pc ls []) :=
  W.vret hexec hb hr (fun t ht hW => ⟨⟨u, rfl, hp, by show Bn u t.heap; rw [ht]; exact hB⟩, hS.F ht⟩) hS.2.2 hdg hlocks
theorem en_wi {S : Type} {post : Int32 → S → Prop} {Bn : S → Heap → Prop} {v : Int32} (u : S) (hexec : p.tables.exec = Jvm.exec) (hb : c.code = cc) (hr : meth.sig.returnType = some .int) (hlocks : meth.locks = false) (hS : va_S A s.heap H locs) (hp : post v u) (hB : Bn u H) (hdg : decode cc pc = .ok (.ireturn, 1)) : W p l e R s m args below meth c H locs cells slots (MQ below (QI post Bn A) args s cells slots A) (F0 m pc ls [.int v]) :=
  W.iret hexec hb hr (fun t ht hW => ⟨⟨v, u, rfl, hp, by show Bn u t.heap; rw [ht]; exact hB⟩, hS.F ht⟩) hS.2.2 hdg hlocks
end OWN
/-- truth as an int -/
def bI (q : Prop) [Decidable q] : Int32 := if q then 1 else 0
theorem bI_0 {q : Prop} [Decidable q] : bI q = 0 ↔ ¬ q := by
  unfold bI
  by_cases h : q <;> simp [h]
theorem bI_t {q : Prop} [Decidable q] (h : q) : (1 : Int32) = bI q := by simp [bI, h]
theorem bI_f {q : Prop} [Decidable q] (h : ¬ q) : (0 : Int32) = bI q := by simp [bI, h]
theorem bI_n {q : Prop} [Decidable q] : narrow .boolean (.int (bI q)) = .int (bI q) := by
  unfold bI
  by_cases h : q <;> simp [h] <;> rfl
theorem bI_c {q r : Prop} [Decidable q] [Decidable r] (h : q ↔ r) : bI q = bI r := by simp [bI, h]
/-- an array read behind a test of its index; a write behind one -/
def rowAt (n : Nat) (f : Nat → Int32) (i : Int32) : Int32 := if i < 0 ∨ n ≤ i.toNatClampNeg then 0 else f i.toNatClampNeg
def wrowAt (n : Nat) (f : Nat → Int64) (i : Int32) : Int64 := if i < 0 ∨ n ≤ i.toNatClampNeg then 0 else f i.toNatClampNeg
def rowPut (n : Nat) (f : Nat → Int32) (i x : Int32) : Nat → Int32 := if i < 0 ∨ n ≤ i.toNatClampNeg then f else upd f i.toNatClampNeg x
def wrowPut (n : Nat) (f : Nat → Int64) (i : Int32) (x : Int64) : Nat → Int64 := if i < 0 ∨ n ≤ i.toNatClampNeg then f else vp_updL f i.toNatClampNeg x
theorem clamp_ge {x : Int32} {n : Nat} (h0 : ¬ x < 0) (h : nI n ≤ x) (hn : n < 2 ^ 31) : n ≤ x.toNatClampNeg := by
  obtain ⟨j, hj, rfl⟩ := nI_of h0
  rw [nI_clamp hj]
  exact (nI_leI hn hj).mp h
theorem clamp_lt {x : Int32} {n : Nat} (h0 : ¬ x < 0) (h : ¬ nI n ≤ x) (hn : n < 2 ^ 31) : ¬ n ≤ x.toNatClampNeg := by
  obtain ⟨j, hj, rfl⟩ := nI_of h0
  rw [nI_clamp hj]
  exact fun q => h ((nI_leI hn hj).mpr q)
theorem in_cmp {x : Int32} {n : Nat} (h0 : ¬ x < 0) (h : ¬ nI n ≤ x) (hn : n < 2 ^ 31) : vp_in x n := fun q => q.elim h0 (clamp_lt h0 h hn)
theorem rowAt_in {n : Nat} {f : Nat → Int32} {k : Nat} (h : k < n) (hn : n < 2 ^ 31) : rowAt n f (nI k) = f k := by
  unfold rowAt
  rw [nI_clamp (by omega), if_neg (fun q => q.elim (nI_pos (by omega)) (by omega))]
theorem wrowAt_in {n : Nat} {f : Nat → Int64} {k : Nat} (h : k < n) (hn : n < 2 ^ 31) : wrowAt n f (nI k) = f k := by
  unfold wrowAt
  rw [nI_clamp (by omega), if_neg (fun q => q.elim (nI_pos (by omega)) (by omega))]
theorem rowPut_in {n : Nat} {f : Nat → Int32} {k : Nat} {x : Int32} (h : k < n) (hn : n < 2 ^ 31) : rowPut n f (nI k) x = upd f k x := by
  unfold rowPut
  rw [nI_clamp (by omega), if_neg (fun q => q.elim (nI_pos (by omega)) (by omega))]
theorem wrowPut_in {n : Nat} {f : Nat → Int64} {k : Nat} {x : Int64} (h : k < n) (hn : n < 2 ^ 31) : wrowPut n f (nI k) x = vp_updL f k x := by
  unfold wrowPut
  rw [nI_clamp (by omega), if_neg (fun q => q.elim (nI_pos (by omega)) (by omega))]
theorem rowAt_out {n : Nat} {f : Nat → Int32} {k : Nat} (h : n ≤ k) (hk : k < 2 ^ 31) : rowAt n f (nI k) = 0 := by
  unfold rowAt
  rw [nI_clamp hk, if_pos (Or.inr h)]
theorem cv_le {a b : Nat} (ha : a < 2 ^ 31) (hb : b < 2 ^ 31) (c : nI a ≤ nI b) : a ≤ b := (nI_leI ha hb).mp c
theorem cv_nle {a b : Nat} (ha : a < 2 ^ 31) (hb : b < 2 ^ 31) (c : ¬ nI a ≤ nI b) : b < a := by
  rcases Nat.lt_or_ge b a with h | h
  · exact h
  · exact absurd ((nI_leI ha hb).mpr h) c
theorem cv_lt {a b : Nat} (ha : a < 2 ^ 31) (hb : b < 2 ^ 31) (c : nI a < nI b) : a < b := (nI_ltI ha hb).mp c
theorem cv_nlt {a b : Nat} (ha : a < 2 ^ 31) (hb : b < 2 ^ 31) (c : ¬ nI a < nI b) : b ≤ a := by
  rcases Nat.lt_or_ge a b with h | h
  · exact absurd ((nI_ltI ha hb).mpr h) c
  · exact h
theorem cv_eq {a b : Nat} (ha : a < 2 ^ 31) (hb : b < 2 ^ 31) (c : nI a = nI b) : a = b := (nI_eq ha hb).mp c
theorem cv_ne {a b : Nat} (ha : a < 2 ^ 31) (hb : b < 2 ^ 31) (c : ¬ nI a = nI b) : a ≠ b := fun h => c (by rw [h])
theorem bI_1 {q : Prop} [Decidable q] (h : ¬ bI q = 0) : q := by
  unfold bI at h
  by_cases hq : q
  · exact hq
  · rw [if_neg hq] at h; exact absurd rfl h
theorem ne_a {a : Nat → Nat} (ha : Inj a) {i j : Nat} (h : i ≠ j) : ¬ a i = a j := fun q => h (ha _ _ q)
theorem or_no {A B : Nat → Prop} {q : Nat} (h1 : ¬ A q) (h2 : ¬ B q) : ¬ orA A B q := fun h => h.elim h1 h2
theorem dj_nil {A : Nat → Prop} : dj A [] := fun e he => absurd he List.not_mem_nil
theorem dj_cons {A : Nat → Prop} {b : Nat} {x : va_E} {ws : va_W} (h : ¬ A b) (t : dj A ws) : dj A ((b, x) :: ws) := by
  intro e he
  rcases List.mem_cons.mp he with rfl | h3
  · exact h
  · exact t e h3
theorem dj_one {a : Nat → Nat} (ha : Inj a) {j k x : Nat} {ws : va_W} (h : inR a j k ws) (hd : x < j ∨ j + k ≤ x) : dj (fun q => q = a x) ws := by
  intro e he hr
  obtain ⟨y, h1, h2, h3⟩ := h e he
  have := ha _ _ (h3.symm.trans hr)
  omega
def lushr_ (x : Int64) (y : Int32) : Int64 := (x.toUInt64 >>> (y.toInt64.toUInt64 &&& Int64.toUInt64 63)).toInt64
def lshl_ (x : Int64) (y : Int32) : Int64 := x <<< (y.toInt64 &&& 63)
/-- a row of ints behind its object, of longs behind its own -/
abbrev rowW (G : GG) (a : Nat → Nat) (i n : Nat) (f : Nat → Int32) : va_W := [(a i, .inr (4, [.ref (a (i + 1))])), (a (i + 1), .inl (gI G, n, .inl f))]
abbrev wrowW (G : GG) (a : Nat → Nat) (i n : Nat) (f : Nat → Int64) : va_W := [(a i, .inr (9, [.ref (a (i + 1))])), (a (i + 1), .inl (gJ G, n, .inr (.inl f)))]
theorem rowW_in {G : GG} {a : Nat → Nat} {i n : Nat} {f : Nat → Int32} : inR a i 2 (rowW G a i n f) := inR_cons (by omega) (inR_cons (by omega) inR_nil)
theorem wrowW_in {G : GG} {a : Nat → Nat} {i n : Nat} {f : Nat → Int64} : inR a i 2 (wrowW G a i n f) := inR_cons (by omega) (inR_cons (by omega) inR_nil)
section OWNL0
variable {p : Program} {l : Launch} {e : Env} {R : Room} {s : State} {m : MethodId} {args : Array Value} {below : List Frame} {meth : Method} {c : Code} {H : Heap} {locs : List Loc} {cells slots : Nat} {Q : State → Prop} {ls : Array Slot}
theorem lv_lab0 {g : JFrame} (pcl : Nat) (I : Heap → List Loc → Array Slot → Prop) (stf : List Value)
    (J : ∀ (H : Heap) (locs : List Loc) (ls : Array Slot), I  H locs ls → W p l e R s m args below meth c H locs cells slots Q (F0 m pcl ls (stf)))
    (K : (∀ (H : Heap) (locs : List Loc) (ls : Array Slot), I  H locs ls → W p l e R s m args below meth c H locs cells slots Q (F0 m pcl ls (stf))) → W p l e R s m args below meth c H locs cells slots Q g) : W p l e R s m args below meth c H locs cells slots Q g := K J
end OWNL0
section OWNL1
variable {p : Program} {l : Launch} {e : Env} {R : Room} {s : State} {m : MethodId} {args : Array Value} {below : List Frame} {meth : Method} {c : Code} {H : Heap} {locs : List Loc} {cells slots : Nat} {Q : State → Prop} {ls : Array Slot}
theorem lv_lab1 {T0 : Type} {g : JFrame} (pcl : Nat) (I : T0 → Heap → List Loc → Array Slot → Prop) (stf : T0 → List Value)
    (J : ∀ (x0 : T0) (H : Heap) (locs : List Loc) (ls : Array Slot), I x0 H locs ls → W p l e R s m args below meth c H locs cells slots Q (F0 m pcl ls (stf x0)))
    (K : (∀ (x0 : T0) (H : Heap) (locs : List Loc) (ls : Array Slot), I x0 H locs ls → W p l e R s m args below meth c H locs cells slots Q (F0 m pcl ls (stf x0))) → W p l e R s m args below meth c H locs cells slots Q g) : W p l e R s m args below meth c H locs cells slots Q g := K J
theorem lv_loop1 {T0 : Type} {g : JFrame} (pcl : Nat) (μ : T0 → Nat) (I : T0 → Heap → List Loc → Array Slot → Prop) (stf : T0 → List Value)
    (body : ∀ (x0 : T0) (H : Heap) (locs : List Loc) (ls : Array Slot), I x0 H locs ls → (∀ (y0 : T0) (H' : Heap) (locs' : List Loc) (ls' : Array Slot), I y0 H' locs' ls' → μ y0 < μ x0 → W p l e R s m args below meth c H' locs' cells slots Q (F0 m pcl ls' (stf y0))) → W p l e R s m args below meth c H locs cells slots Q (F0 m pcl ls (stf x0)))
    (z0 : T0) (h0 : I z0 H locs ls) (hg : g = F0 m pcl ls (stf z0)) : W p l e R s m args below meth c H locs cells slots Q g := by
  subst hg
  have key : ∀ (n : Nat) (x0 : T0), μ x0 < n → ∀ (H : Heap) (locs : List Loc) (ls : Array Slot), I x0 H locs ls → W p l e R s m args below meth c H locs cells slots Q (F0 m pcl ls (stf x0)) := by
    intro n
    induction n with
    | zero => intro x0 h; exact absurd h (Nat.not_lt_zero _)
    | succ n ih => intro x0 h H locs ls hI; exact body x0 H locs ls hI (fun y0 H' locs' ls' hI' hlt => ih y0 (by omega) H' locs' ls' hI')
  exact key (μ z0 + 1) z0 (Nat.lt_succ_self _) H locs ls h0
end OWNL1
section OWNL2
variable {p : Program} {l : Launch} {e : Env} {R : Room} {s : State} {m : MethodId} {args : Array Value} {below : List Frame} {meth : Method} {c : Code} {H : Heap} {locs : List Loc} {cells slots : Nat} {Q : State → Prop} {ls : Array Slot}
theorem lv_lab2 {T0 T1 : Type} {g : JFrame} (pcl : Nat) (I : T0 → T1 → Heap → List Loc → Array Slot → Prop) (stf : T0 → T1 → List Value)
    (J : ∀ (x0 : T0) (x1 : T1) (H : Heap) (locs : List Loc) (ls : Array Slot), I x0 x1 H locs ls → W p l e R s m args below meth c H locs cells slots Q (F0 m pcl ls (stf x0 x1)))
    (K : (∀ (x0 : T0) (x1 : T1) (H : Heap) (locs : List Loc) (ls : Array Slot), I x0 x1 H locs ls → W p l e R s m args below meth c H locs cells slots Q (F0 m pcl ls (stf x0 x1))) → W p l e R s m args below meth c H locs cells slots Q g) : W p l e R s m args below meth c H locs cells slots Q g := K J
theorem lv_loop2 {T0 T1 : Type} {g : JFrame} (pcl : Nat) (μ : T0 → T1 → Nat) (I : T0 → T1 → Heap → List Loc → Array Slot → Prop) (stf : T0 → T1 → List Value)
    (body : ∀ (x0 : T0) (x1 : T1) (H : Heap) (locs : List Loc) (ls : Array Slot), I x0 x1 H locs ls → (∀ (y0 : T0) (y1 : T1) (H' : Heap) (locs' : List Loc) (ls' : Array Slot), I y0 y1 H' locs' ls' → μ y0 y1 < μ x0 x1 → W p l e R s m args below meth c H' locs' cells slots Q (F0 m pcl ls' (stf y0 y1))) → W p l e R s m args below meth c H locs cells slots Q (F0 m pcl ls (stf x0 x1)))
    (z0 : T0) (z1 : T1) (h0 : I z0 z1 H locs ls) (hg : g = F0 m pcl ls (stf z0 z1)) : W p l e R s m args below meth c H locs cells slots Q g := by
  subst hg
  have key : ∀ (n : Nat) (x0 : T0) (x1 : T1), μ x0 x1 < n → ∀ (H : Heap) (locs : List Loc) (ls : Array Slot), I x0 x1 H locs ls → W p l e R s m args below meth c H locs cells slots Q (F0 m pcl ls (stf x0 x1)) := by
    intro n
    induction n with
    | zero => intro x0 x1 h; exact absurd h (Nat.not_lt_zero _)
    | succ n ih => intro x0 x1 h H locs ls hI; exact body x0 x1 H locs ls hI (fun y0 y1 H' locs' ls' hI' hlt => ih y0 y1 (by omega) H' locs' ls' hI')
  exact key (μ z0 z1 + 1) z0 z1 (Nat.lt_succ_self _) H locs ls h0
end OWNL2
section OWNL3
variable {p : Program} {l : Launch} {e : Env} {R : Room} {s : State} {m : MethodId} {args : Array Value} {below : List Frame} {meth : Method} {c : Code} {H : Heap} {locs : List Loc} {cells slots : Nat} {Q : State → Prop} {ls : Array Slot}
theorem lv_lab3 {T0 T1 T2 : Type} {g : JFrame} (pcl : Nat) (I : T0 → T1 → T2 → Heap → List Loc → Array Slot → Prop) (stf : T0 → T1 → T2 → List Value)
    (J : ∀ (x0 : T0) (x1 : T1) (x2 : T2) (H : Heap) (locs : List Loc) (ls : Array Slot), I x0 x1 x2 H locs ls → W p l e R s m args below meth c H locs cells slots Q (F0 m pcl ls (stf x0 x1 x2)))
    (K : (∀ (x0 : T0) (x1 : T1) (x2 : T2) (H : Heap) (locs : List Loc) (ls : Array Slot), I x0 x1 x2 H locs ls → W p l e R s m args below meth c H locs cells slots Q (F0 m pcl ls (stf x0 x1 x2))) → W p l e R s m args below meth c H locs cells slots Q g) : W p l e R s m args below meth c H locs cells slots Q g := K J
theorem lv_loop3 {T0 T1 T2 : Type} {g : JFrame} (pcl : Nat) (μ : T0 → T1 → T2 → Nat) (I : T0 → T1 → T2 → Heap → List Loc → Array Slot → Prop) (stf : T0 → T1 → T2 → List Value)
    (body : ∀ (x0 : T0) (x1 : T1) (x2 : T2) (H : Heap) (locs : List Loc) (ls : Array Slot), I x0 x1 x2 H locs ls → (∀ (y0 : T0) (y1 : T1) (y2 : T2) (H' : Heap) (locs' : List Loc) (ls' : Array Slot), I y0 y1 y2 H' locs' ls' → μ y0 y1 y2 < μ x0 x1 x2 → W p l e R s m args below meth c H' locs' cells slots Q (F0 m pcl ls' (stf y0 y1 y2))) → W p l e R s m args below meth c H locs cells slots Q (F0 m pcl ls (stf x0 x1 x2)))
    (z0 : T0) (z1 : T1) (z2 : T2) (h0 : I z0 z1 z2 H locs ls) (hg : g = F0 m pcl ls (stf z0 z1 z2)) : W p l e R s m args below meth c H locs cells slots Q g := by
  subst hg
  have key : ∀ (n : Nat) (x0 : T0) (x1 : T1) (x2 : T2), μ x0 x1 x2 < n → ∀ (H : Heap) (locs : List Loc) (ls : Array Slot), I x0 x1 x2 H locs ls → W p l e R s m args below meth c H locs cells slots Q (F0 m pcl ls (stf x0 x1 x2)) := by
    intro n
    induction n with
    | zero => intro x0 x1 x2 h; exact absurd h (Nat.not_lt_zero _)
    | succ n ih => intro x0 x1 x2 h H locs ls hI; exact body x0 x1 x2 H locs ls hI (fun y0 y1 y2 H' locs' ls' hI' hlt => ih y0 y1 y2 (by omega) H' locs' ls' hI')
  exact key (μ z0 z1 z2 + 1) z0 z1 z2 (Nat.lt_succ_self _) H locs ls h0
end OWNL3
section OWNL4
variable {p : Program} {l : Launch} {e : Env} {R : Room} {s : State} {m : MethodId} {args : Array Value} {below : List Frame} {meth : Method} {c : Code} {H : Heap} {locs : List Loc} {cells slots : Nat} {Q : State → Prop} {ls : Array Slot}
theorem lv_lab4 {T0 T1 T2 T3 : Type} {g : JFrame} (pcl : Nat) (I : T0 → T1 → T2 → T3 → Heap → List Loc → Array Slot → Prop) (stf : T0 → T1 → T2 → T3 → List Value)
    (J : ∀ (x0 : T0) (x1 : T1) (x2 : T2) (x3 : T3) (H : Heap) (locs : List Loc) (ls : Array Slot), I x0 x1 x2 x3 H locs ls → W p l e R s m args below meth c H locs cells slots Q (F0 m pcl ls (stf x0 x1 x2 x3)))
    (K : (∀ (x0 : T0) (x1 : T1) (x2 : T2) (x3 : T3) (H : Heap) (locs : List Loc) (ls : Array Slot), I x0 x1 x2 x3 H locs ls → W p l e R s m args below meth c H locs cells slots Q (F0 m pcl ls (stf x0 x1 x2 x3))) → W p l e R s m args below meth c H locs cells slots Q g) : W p l e R s m args below meth c H locs cells slots Q g := K J
theorem lv_loop4 {T0 T1 T2 T3 : Type} {g : JFrame} (pcl : Nat) (μ : T0 → T1 → T2 → T3 → Nat) (I : T0 → T1 → T2 → T3 → Heap → List Loc → Array Slot → Prop) (stf : T0 → T1 → T2 → T3 → List Value)
    (body : ∀ (x0 : T0) (x1 : T1) (x2 : T2) (x3 : T3) (H : Heap) (locs : List Loc) (ls : Array Slot), I x0 x1 x2 x3 H locs ls → (∀ (y0 : T0) (y1 : T1) (y2 : T2) (y3 : T3) (H' : Heap) (locs' : List Loc) (ls' : Array Slot), I y0 y1 y2 y3 H' locs' ls' → μ y0 y1 y2 y3 < μ x0 x1 x2 x3 → W p l e R s m args below meth c H' locs' cells slots Q (F0 m pcl ls' (stf y0 y1 y2 y3))) → W p l e R s m args below meth c H locs cells slots Q (F0 m pcl ls (stf x0 x1 x2 x3)))
    (z0 : T0) (z1 : T1) (z2 : T2) (z3 : T3) (h0 : I z0 z1 z2 z3 H locs ls) (hg : g = F0 m pcl ls (stf z0 z1 z2 z3)) : W p l e R s m args below meth c H locs cells slots Q g := by
  subst hg
  have key : ∀ (n : Nat) (x0 : T0) (x1 : T1) (x2 : T2) (x3 : T3), μ x0 x1 x2 x3 < n → ∀ (H : Heap) (locs : List Loc) (ls : Array Slot), I x0 x1 x2 x3 H locs ls → W p l e R s m args below meth c H locs cells slots Q (F0 m pcl ls (stf x0 x1 x2 x3)) := by
    intro n
    induction n with
    | zero => intro x0 x1 x2 x3 h; exact absurd h (Nat.not_lt_zero _)
    | succ n ih => intro x0 x1 x2 x3 h H locs ls hI; exact body x0 x1 x2 x3 H locs ls hI (fun y0 y1 y2 y3 H' locs' ls' hI' hlt => ih y0 y1 y2 y3 (by omega) H' locs' ls' hI')
  exact key (μ z0 z1 z2 z3 + 1) z0 z1 z2 z3 (Nat.lt_succ_self _) H locs ls h0
end OWNL4
section OWNL5
variable {p : Program} {l : Launch} {e : Env} {R : Room} {s : State} {m : MethodId} {args : Array Value} {below : List Frame} {meth : Method} {c : Code} {H : Heap} {locs : List Loc} {cells slots : Nat} {Q : State → Prop} {ls : Array Slot}
theorem lv_lab5 {T0 T1 T2 T3 T4 : Type} {g : JFrame} (pcl : Nat) (I : T0 → T1 → T2 → T3 → T4 → Heap → List Loc → Array Slot → Prop) (stf : T0 → T1 → T2 → T3 → T4 → List Value)
    (J : ∀ (x0 : T0) (x1 : T1) (x2 : T2) (x3 : T3) (x4 : T4) (H : Heap) (locs : List Loc) (ls : Array Slot), I x0 x1 x2 x3 x4 H locs ls → W p l e R s m args below meth c H locs cells slots Q (F0 m pcl ls (stf x0 x1 x2 x3 x4)))
    (K : (∀ (x0 : T0) (x1 : T1) (x2 : T2) (x3 : T3) (x4 : T4) (H : Heap) (locs : List Loc) (ls : Array Slot), I x0 x1 x2 x3 x4 H locs ls → W p l e R s m args below meth c H locs cells slots Q (F0 m pcl ls (stf x0 x1 x2 x3 x4))) → W p l e R s m args below meth c H locs cells slots Q g) : W p l e R s m args below meth c H locs cells slots Q g := K J
theorem lv_loop5 {T0 T1 T2 T3 T4 : Type} {g : JFrame} (pcl : Nat) (μ : T0 → T1 → T2 → T3 → T4 → Nat) (I : T0 → T1 → T2 → T3 → T4 → Heap → List Loc → Array Slot → Prop) (stf : T0 → T1 → T2 → T3 → T4 → List Value)
    (body : ∀ (x0 : T0) (x1 : T1) (x2 : T2) (x3 : T3) (x4 : T4) (H : Heap) (locs : List Loc) (ls : Array Slot), I x0 x1 x2 x3 x4 H locs ls → (∀ (y0 : T0) (y1 : T1) (y2 : T2) (y3 : T3) (y4 : T4) (H' : Heap) (locs' : List Loc) (ls' : Array Slot), I y0 y1 y2 y3 y4 H' locs' ls' → μ y0 y1 y2 y3 y4 < μ x0 x1 x2 x3 x4 → W p l e R s m args below meth c H' locs' cells slots Q (F0 m pcl ls' (stf y0 y1 y2 y3 y4))) → W p l e R s m args below meth c H locs cells slots Q (F0 m pcl ls (stf x0 x1 x2 x3 x4)))
    (z0 : T0) (z1 : T1) (z2 : T2) (z3 : T3) (z4 : T4) (h0 : I z0 z1 z2 z3 z4 H locs ls) (hg : g = F0 m pcl ls (stf z0 z1 z2 z3 z4)) : W p l e R s m args below meth c H locs cells slots Q g := by
  subst hg
  have key : ∀ (n : Nat) (x0 : T0) (x1 : T1) (x2 : T2) (x3 : T3) (x4 : T4), μ x0 x1 x2 x3 x4 < n → ∀ (H : Heap) (locs : List Loc) (ls : Array Slot), I x0 x1 x2 x3 x4 H locs ls → W p l e R s m args below meth c H locs cells slots Q (F0 m pcl ls (stf x0 x1 x2 x3 x4)) := by
    intro n
    induction n with
    | zero => intro x0 x1 x2 x3 x4 h; exact absurd h (Nat.not_lt_zero _)
    | succ n ih => intro x0 x1 x2 x3 x4 h H locs ls hI; exact body x0 x1 x2 x3 x4 H locs ls hI (fun y0 y1 y2 y3 y4 H' locs' ls' hI' hlt => ih y0 y1 y2 y3 y4 (by omega) H' locs' ls' hI')
  exact key (μ z0 z1 z2 z3 z4 + 1) z0 z1 z2 z3 z4 (Nat.lt_succ_self _) H locs ls h0
end OWNL5
section OWNL6
variable {p : Program} {l : Launch} {e : Env} {R : Room} {s : State} {m : MethodId} {args : Array Value} {below : List Frame} {meth : Method} {c : Code} {H : Heap} {locs : List Loc} {cells slots : Nat} {Q : State → Prop} {ls : Array Slot}
theorem lv_lab6 {T0 T1 T2 T3 T4 T5 : Type} {g : JFrame} (pcl : Nat) (I : T0 → T1 → T2 → T3 → T4 → T5 → Heap → List Loc → Array Slot → Prop) (stf : T0 → T1 → T2 → T3 → T4 → T5 → List Value)
    (J : ∀ (x0 : T0) (x1 : T1) (x2 : T2) (x3 : T3) (x4 : T4) (x5 : T5) (H : Heap) (locs : List Loc) (ls : Array Slot), I x0 x1 x2 x3 x4 x5 H locs ls → W p l e R s m args below meth c H locs cells slots Q (F0 m pcl ls (stf x0 x1 x2 x3 x4 x5)))
    (K : (∀ (x0 : T0) (x1 : T1) (x2 : T2) (x3 : T3) (x4 : T4) (x5 : T5) (H : Heap) (locs : List Loc) (ls : Array Slot), I x0 x1 x2 x3 x4 x5 H locs ls → W p l e R s m args below meth c H locs cells slots Q (F0 m pcl ls (stf x0 x1 x2 x3 x4 x5))) → W p l e R s m args below meth c H locs cells slots Q g) : W p l e R s m args below meth c H locs cells slots Q g := K J
theorem lv_loop6 {T0 T1 T2 T3 T4 T5 : Type} {g : JFrame} (pcl : Nat) (μ : T0 → T1 → T2 → T3 → T4 → T5 → Nat) (I : T0 → T1 → T2 → T3 → T4 → T5 → Heap → List Loc → Array Slot → Prop) (stf : T0 → T1 → T2 → T3 → T4 → T5 → List Value)
    (body : ∀ (x0 : T0) (x1 : T1) (x2 : T2) (x3 : T3) (x4 : T4) (x5 : T5) (H : Heap) (locs : List Loc) (ls : Array Slot), I x0 x1 x2 x3 x4 x5 H locs ls → (∀ (y0 : T0) (y1 : T1) (y2 : T2) (y3 : T3) (y4 : T4) (y5 : T5) (H' : Heap) (locs' : List Loc) (ls' : Array Slot), I y0 y1 y2 y3 y4 y5 H' locs' ls' → μ y0 y1 y2 y3 y4 y5 < μ x0 x1 x2 x3 x4 x5 → W p l e R s m args below meth c H' locs' cells slots Q (F0 m pcl ls' (stf y0 y1 y2 y3 y4 y5))) → W p l e R s m args below meth c H locs cells slots Q (F0 m pcl ls (stf x0 x1 x2 x3 x4 x5)))
    (z0 : T0) (z1 : T1) (z2 : T2) (z3 : T3) (z4 : T4) (z5 : T5) (h0 : I z0 z1 z2 z3 z4 z5 H locs ls) (hg : g = F0 m pcl ls (stf z0 z1 z2 z3 z4 z5)) : W p l e R s m args below meth c H locs cells slots Q g := by
  subst hg
  have key : ∀ (n : Nat) (x0 : T0) (x1 : T1) (x2 : T2) (x3 : T3) (x4 : T4) (x5 : T5), μ x0 x1 x2 x3 x4 x5 < n → ∀ (H : Heap) (locs : List Loc) (ls : Array Slot), I x0 x1 x2 x3 x4 x5 H locs ls → W p l e R s m args below meth c H locs cells slots Q (F0 m pcl ls (stf x0 x1 x2 x3 x4 x5)) := by
    intro n
    induction n with
    | zero => intro x0 x1 x2 x3 x4 x5 h; exact absurd h (Nat.not_lt_zero _)
    | succ n ih => intro x0 x1 x2 x3 x4 x5 h H locs ls hI; exact body x0 x1 x2 x3 x4 x5 H locs ls hI (fun y0 y1 y2 y3 y4 y5 H' locs' ls' hI' hlt => ih y0 y1 y2 y3 y4 y5 (by omega) H' locs' ls' hI')
  exact key (μ z0 z1 z2 z3 z4 z5 + 1) z0 z1 z2 z3 z4 z5 (Nat.lt_succ_self _) H locs ls h0
end OWNL6
section OWNL7
variable {p : Program} {l : Launch} {e : Env} {R : Room} {s : State} {m : MethodId} {args : Array Value} {below : List Frame} {meth : Method} {c : Code} {H : Heap} {locs : List Loc} {cells slots : Nat} {Q : State → Prop} {ls : Array Slot}
theorem lv_lab7 {T0 T1 T2 T3 T4 T5 T6 : Type} {g : JFrame} (pcl : Nat) (I : T0 → T1 → T2 → T3 → T4 → T5 → T6 → Heap → List Loc → Array Slot → Prop) (stf : T0 → T1 → T2 → T3 → T4 → T5 → T6 → List Value)
    (J : ∀ (x0 : T0) (x1 : T1) (x2 : T2) (x3 : T3) (x4 : T4) (x5 : T5) (x6 : T6) (H : Heap) (locs : List Loc) (ls : Array Slot), I x0 x1 x2 x3 x4 x5 x6 H locs ls → W p l e R s m args below meth c H locs cells slots Q (F0 m pcl ls (stf x0 x1 x2 x3 x4 x5 x6)))
    (K : (∀ (x0 : T0) (x1 : T1) (x2 : T2) (x3 : T3) (x4 : T4) (x5 : T5) (x6 : T6) (H : Heap) (locs : List Loc) (ls : Array Slot), I x0 x1 x2 x3 x4 x5 x6 H locs ls → W p l e R s m args below meth c H locs cells slots Q (F0 m pcl ls (stf x0 x1 x2 x3 x4 x5 x6))) → W p l e R s m args below meth c H locs cells slots Q g) : W p l e R s m args below meth c H locs cells slots Q g := K J
theorem lv_loop7 {T0 T1 T2 T3 T4 T5 T6 : Type} {g : JFrame} (pcl : Nat) (μ : T0 → T1 → T2 → T3 → T4 → T5 → T6 → Nat) (I : T0 → T1 → T2 → T3 → T4 → T5 → T6 → Heap → List Loc → Array Slot → Prop) (stf : T0 → T1 → T2 → T3 → T4 → T5 → T6 → List Value)
    (body : ∀ (x0 : T0) (x1 : T1) (x2 : T2) (x3 : T3) (x4 : T4) (x5 : T5) (x6 : T6) (H : Heap) (locs : List Loc) (ls : Array Slot), I x0 x1 x2 x3 x4 x5 x6 H locs ls → (∀ (y0 : T0) (y1 : T1) (y2 : T2) (y3 : T3) (y4 : T4) (y5 : T5) (y6 : T6) (H' : Heap) (locs' : List Loc) (ls' : Array Slot), I y0 y1 y2 y3 y4 y5 y6 H' locs' ls' → μ y0 y1 y2 y3 y4 y5 y6 < μ x0 x1 x2 x3 x4 x5 x6 → W p l e R s m args below meth c H' locs' cells slots Q (F0 m pcl ls' (stf y0 y1 y2 y3 y4 y5 y6))) → W p l e R s m args below meth c H locs cells slots Q (F0 m pcl ls (stf x0 x1 x2 x3 x4 x5 x6)))
    (z0 : T0) (z1 : T1) (z2 : T2) (z3 : T3) (z4 : T4) (z5 : T5) (z6 : T6) (h0 : I z0 z1 z2 z3 z4 z5 z6 H locs ls) (hg : g = F0 m pcl ls (stf z0 z1 z2 z3 z4 z5 z6)) : W p l e R s m args below meth c H locs cells slots Q g := by
  subst hg
  have key : ∀ (n : Nat) (x0 : T0) (x1 : T1) (x2 : T2) (x3 : T3) (x4 : T4) (x5 : T5) (x6 : T6), μ x0 x1 x2 x3 x4 x5 x6 < n → ∀ (H : Heap) (locs : List Loc) (ls : Array Slot), I x0 x1 x2 x3 x4 x5 x6 H locs ls → W p l e R s m args below meth c H locs cells slots Q (F0 m pcl ls (stf x0 x1 x2 x3 x4 x5 x6)) := by
    intro n
    induction n with
    | zero => intro x0 x1 x2 x3 x4 x5 x6 h; exact absurd h (Nat.not_lt_zero _)
    | succ n ih => intro x0 x1 x2 x3 x4 x5 x6 h H locs ls hI; exact body x0 x1 x2 x3 x4 x5 x6 H locs ls hI (fun y0 y1 y2 y3 y4 y5 y6 H' locs' ls' hI' hlt => ih y0 y1 y2 y3 y4 y5 y6 (by omega) H' locs' ls' hI')
  exact key (μ z0 z1 z2 z3 z4 z5 z6 + 1) z0 z1 z2 z3 z4 z5 z6 (Nat.lt_succ_self _) H locs ls h0
end OWNL7
section OWNL8
variable {p : Program} {l : Launch} {e : Env} {R : Room} {s : State} {m : MethodId} {args : Array Value} {below : List Frame} {meth : Method} {c : Code} {H : Heap} {locs : List Loc} {cells slots : Nat} {Q : State → Prop} {ls : Array Slot}
theorem lv_lab8 {T0 T1 T2 T3 T4 T5 T6 T7 : Type} {g : JFrame} (pcl : Nat) (I : T0 → T1 → T2 → T3 → T4 → T5 → T6 → T7 → Heap → List Loc → Array Slot → Prop) (stf : T0 → T1 → T2 → T3 → T4 → T5 → T6 → T7 → List Value)
    (J : ∀ (x0 : T0) (x1 : T1) (x2 : T2) (x3 : T3) (x4 : T4) (x5 : T5) (x6 : T6) (x7 : T7) (H : Heap) (locs : List Loc) (ls : Array Slot), I x0 x1 x2 x3 x4 x5 x6 x7 H locs ls → W p l e R s m args below meth c H locs cells slots Q (F0 m pcl ls (stf x0 x1 x2 x3 x4 x5 x6 x7)))
    (K : (∀ (x0 : T0) (x1 : T1) (x2 : T2) (x3 : T3) (x4 : T4) (x5 : T5) (x6 : T6) (x7 : T7) (H : Heap) (locs : List Loc) (ls : Array Slot), I x0 x1 x2 x3 x4 x5 x6 x7 H locs ls → W p l e R s m args below meth c H locs cells slots Q (F0 m pcl ls (stf x0 x1 x2 x3 x4 x5 x6 x7))) → W p l e R s m args below meth c H locs cells slots Q g) : W p l e R s m args below meth c H locs cells slots Q g := K J
theorem lv_loop8 {T0 T1 T2 T3 T4 T5 T6 T7 : Type} {g : JFrame} (pcl : Nat) (μ : T0 → T1 → T2 → T3 → T4 → T5 → T6 → T7 → Nat) (I : T0 → T1 → T2 → T3 → T4 → T5 → T6 → T7 → Heap → List Loc → Array Slot → Prop) (stf : T0 → T1 → T2 → T3 → T4 → T5 → T6 → T7 → List Value)
    (body : ∀ (x0 : T0) (x1 : T1) (x2 : T2) (x3 : T3) (x4 : T4) (x5 : T5) (x6 : T6) (x7 : T7) (H : Heap) (locs : List Loc) (ls : Array Slot), I x0 x1 x2 x3 x4 x5 x6 x7 H locs ls → (∀ (y0 : T0) (y1 : T1) (y2 : T2) (y3 : T3) (y4 : T4) (y5 : T5) (y6 : T6) (y7 : T7) (H' : Heap) (locs' : List Loc) (ls' : Array Slot), I y0 y1 y2 y3 y4 y5 y6 y7 H' locs' ls' → μ y0 y1 y2 y3 y4 y5 y6 y7 < μ x0 x1 x2 x3 x4 x5 x6 x7 → W p l e R s m args below meth c H' locs' cells slots Q (F0 m pcl ls' (stf y0 y1 y2 y3 y4 y5 y6 y7))) → W p l e R s m args below meth c H locs cells slots Q (F0 m pcl ls (stf x0 x1 x2 x3 x4 x5 x6 x7)))
    (z0 : T0) (z1 : T1) (z2 : T2) (z3 : T3) (z4 : T4) (z5 : T5) (z6 : T6) (z7 : T7) (h0 : I z0 z1 z2 z3 z4 z5 z6 z7 H locs ls) (hg : g = F0 m pcl ls (stf z0 z1 z2 z3 z4 z5 z6 z7)) : W p l e R s m args below meth c H locs cells slots Q g := by
  subst hg
  have key : ∀ (n : Nat) (x0 : T0) (x1 : T1) (x2 : T2) (x3 : T3) (x4 : T4) (x5 : T5) (x6 : T6) (x7 : T7), μ x0 x1 x2 x3 x4 x5 x6 x7 < n → ∀ (H : Heap) (locs : List Loc) (ls : Array Slot), I x0 x1 x2 x3 x4 x5 x6 x7 H locs ls → W p l e R s m args below meth c H locs cells slots Q (F0 m pcl ls (stf x0 x1 x2 x3 x4 x5 x6 x7)) := by
    intro n
    induction n with
    | zero => intro x0 x1 x2 x3 x4 x5 x6 x7 h; exact absurd h (Nat.not_lt_zero _)
    | succ n ih => intro x0 x1 x2 x3 x4 x5 x6 x7 h H locs ls hI; exact body x0 x1 x2 x3 x4 x5 x6 x7 H locs ls hI (fun y0 y1 y2 y3 y4 y5 y6 y7 H' locs' ls' hI' hlt => ih y0 y1 y2 y3 y4 y5 y6 y7 (by omega) H' locs' ls' hI')
  exact key (μ z0 z1 z2 z3 z4 z5 z6 z7 + 1) z0 z1 z2 z3 z4 z5 z6 z7 (Nat.lt_succ_self _) H locs ls h0
end OWNL8

theorem mmax_nat {a b : Nat} (ha : a < 2 ^ 31) (hb : b < 2 ^ 31) : (if nI a < nI b then nI b else nI a) = nI (max a b) := by
  by_cases h : a < b
  · rw [if_pos (nI_lt h hb), Nat.max_eq_right (by omega)]
  · rw [if_neg (nI_nlt (by omega) ha), Nat.max_eq_left (by omega)]
theorem mmin_nat {a b : Nat} (ha : a < 2 ^ 31) (hb : b < 2 ^ 31) : (if nI b < nI a then nI b else nI a) = nI (min a b) := by
  by_cases h : b < a
  · rw [if_pos (nI_lt h ha), Nat.min_eq_right (by omega)]
  · rw [if_neg (nI_nlt (by omega) hb), Nat.min_eq_left (by omega)]

theorem sw_out {k : Nat} {d : Int} {o1 o2 : Int} (hk : k < 2 ^ 31) (h : ¬ (k = 0 ∨ k = 1)) : Op.lookupswitch.offset [((0 : Int), o1), (1, o2)] d (nI k).toInt = d := by
  rw [nI_toInt hk, Op.lookupswitch.offset_cons, if_neg (by omega), Op.lookupswitch.offset_cons, if_neg (by omega), Op.lookupswitch.offset_nil]

theorem updL_fill {g v : Nat → Int64} {k : Nat} {x : Int64} (h : ∀ j, j < k → g j = v j) (hx : x = v k) : ∀ j, j < k + 1 → vp_updL g k x j = v j := by
  intro j hj
  unfold vp_updL
  by_cases e : j = k
  · rw [if_pos e, hx, e]
  · rw [if_neg e]; exact h j (by omega)
