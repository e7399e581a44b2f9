/-! what the law's start gives -/
theorem tbw {k : Nat} {w : Cond} (h : tables_1[k]? = some w) : w ∈ lw_tbl := List.mem_append_right _ (List.mem_of_getElem? h)
theorem fl_ok {l : Launch} (h : l.flags = flags0) : l.stackTraces = false := by unfold Launch.stackTraces; rw [h]; decide
set_option maxRecDepth 100000 in
theorem kn_0 {s : State} {b : Addr} (hts : ∀ w ∈ lw_tbl, w.before #[Value.ref b] s = true) : ∃ (c : ClassId) (i : Nat → Nat), u_Kn s RX0 TX0 5 c i := u_known (C := RX0) (T := TX0) (N := 5) (n := 5) hts inX0 (hts _ (tbw (k := 182) (by decide +kernel)))
set_option maxRecDepth 100000 in
theorem kn_1 {s : State} {b : Addr} (hts : ∀ w ∈ lw_tbl, w.before #[Value.ref b] s = true) : ∃ (c : ClassId) (i : Nat → Nat), u_Kn s RX1 TX1 2 c i := u_known (C := RX1) (T := TX1) (N := 2) (n := 2) hts inX1 (hts _ (tbw (k := 115) (by decide +kernel)))
set_option maxRecDepth 100000 in
theorem kn_2 {s : State} {b : Addr} (hts : ∀ w ∈ lw_tbl, w.before #[Value.ref b] s = true) : ∃ (c : ClassId) (i : Nat → Nat), u_Kn s RX2 TX2 10 c i := u_known (C := RX2) (T := TX2) (N := 10) (n := 10) hts inX2 (hts _ (tbw (k := 43) (by decide +kernel)))
set_option maxRecDepth 100000 in
theorem kn_3 {s : State} {b : Addr} (hts : ∀ w ∈ lw_tbl, w.before #[Value.ref b] s = true) : ∃ (c : ClassId) (i : Nat → Nat), u_Kn s RX3 TX3 8 c i := u_known (C := RX3) (T := TX3) (N := 8) (n := 8) hts inX3 (hts _ (tbw (k := 203) (by decide +kernel)))
set_option maxRecDepth 100000 in
theorem kn_4 {s : State} {b : Addr} (hts : ∀ w ∈ lw_tbl, w.before #[Value.ref b] s = true) : ∃ (c : ClassId) (i : Nat → Nat), u_Kn s RX4 TX4 1 c i := u_known (C := RX4) (T := TX4) (N := 1) (n := 1) hts inX4 (hts _ (tbw (k := 32) (by decide +kernel)))
set_option maxRecDepth 100000 in
theorem kn_5 {s : State} {b : Addr} (hts : ∀ w ∈ lw_tbl, w.before #[Value.ref b] s = true) : ∃ (c : ClassId) (i : Nat → Nat), u_Kn s RX5 TX5 3 c i := u_known (C := RX5) (T := TX5) (N := 3) (n := 3) hts inX5 (hts _ (tbw (k := 139) (by decide +kernel)))
set_option maxRecDepth 100000 in
theorem kn_6 {s : State} {b : Addr} (hts : ∀ w ∈ lw_tbl, w.before #[Value.ref b] s = true) : ∃ (c : ClassId) (i : Nat → Nat), u_Kn s RX6 TX6 1 c i := u_known (C := RX6) (T := TX6) (N := 1) (n := 1) hts inX6 (hts _ (tbw (k := 170) (by decide +kernel)))
set_option maxRecDepth 100000 in
theorem kn_7 {s : State} {b : Addr} (hts : ∀ w ∈ lw_tbl, w.before #[Value.ref b] s = true) : ∃ (c : ClassId) (i : Nat → Nat), u_Kn s RX7 TX7 2 c i := u_known (C := RX7) (T := TX7) (N := 2) (n := 2) hts inX7 (hts _ (tbw (k := 100) (by decide +kernel)))
set_option maxRecDepth 100000 in
theorem kn_8 {s : State} {b : Addr} (hts : ∀ w ∈ lw_tbl, w.before #[Value.ref b] s = true) : ∃ (c : ClassId) (i : Nat → Nat), u_Kn s RX8 TX8 2 c i := u_known (C := RX8) (T := TX8) (N := 2) (n := 2) hts inX8 (hts _ (tbw (k := 155) (by decide +kernel)))
set_option maxRecDepth 100000 in
theorem kn_9 {s : State} {b : Addr} (hts : ∀ w ∈ lw_tbl, w.before #[Value.ref b] s = true) : ∃ (c : ClassId) (i : Nat → Nat), u_Kn s RX9 TX9 1 c i := u_known (C := RX9) (T := TX9) (N := 1) (n := 1) hts inX9 (hts _ (tbw (k := 121) (by decide +kernel)))
set_option maxRecDepth 100000 in
theorem kn_10 {s : State} {b : Addr} (hts : ∀ w ∈ lw_tbl, w.before #[Value.ref b] s = true) : ∃ (c : ClassId) (i : Nat → Nat), u_Kn s RX10 TX10 3 c i := u_known (C := RX10) (T := TX10) (N := 3) (n := 3) hts inX10 (hts _ (tbw (k := 82) (by decide +kernel)))
set_option maxRecDepth 100000 in
theorem kn_11 {s : State} {b : Addr} (hts : ∀ w ∈ lw_tbl, w.before #[Value.ref b] s = true) : ∃ (c : ClassId) (i : Nat → Nat), u_Kn s RX11 TX11 12 c i := u_known (C := RX11) (T := TX11) (N := 12) (n := 12) hts inX11 (hts _ (tbw (k := 22) (by decide +kernel)))
theorem kn_all {s : State} {b : Addr} (hts : ∀ w ∈ lw_tbl, w.before #[Value.ref b] s = true) (k : Nat) : ∃ r : ClassId × (Nat → Nat), ∀ q, vwCl[k]? = some q → u_Kn s q.1 q.2.1 q.2.2 r.1 r.2 := by
  match k with
  | 0 => obtain ⟨c, i, h⟩ := kn_0 hts; exact ⟨(c, i), fun q hq => by cases hq; exact h⟩
  | 1 => obtain ⟨c, i, h⟩ := kn_1 hts; exact ⟨(c, i), fun q hq => by cases hq; exact h⟩
  | 2 => obtain ⟨c, i, h⟩ := kn_2 hts; exact ⟨(c, i), fun q hq => by cases hq; exact h⟩
  | 3 => obtain ⟨c, i, h⟩ := kn_3 hts; exact ⟨(c, i), fun q hq => by cases hq; exact h⟩
  | 4 => obtain ⟨c, i, h⟩ := kn_4 hts; exact ⟨(c, i), fun q hq => by cases hq; exact h⟩
  | 5 => obtain ⟨c, i, h⟩ := kn_5 hts; exact ⟨(c, i), fun q hq => by cases hq; exact h⟩
  | 6 => obtain ⟨c, i, h⟩ := kn_6 hts; exact ⟨(c, i), fun q hq => by cases hq; exact h⟩
  | 7 => obtain ⟨c, i, h⟩ := kn_7 hts; exact ⟨(c, i), fun q hq => by cases hq; exact h⟩
  | 8 => obtain ⟨c, i, h⟩ := kn_8 hts; exact ⟨(c, i), fun q hq => by cases hq; exact h⟩
  | 9 => obtain ⟨c, i, h⟩ := kn_9 hts; exact ⟨(c, i), fun q hq => by cases hq; exact h⟩
  | 10 => obtain ⟨c, i, h⟩ := kn_10 hts; exact ⟨(c, i), fun q hq => by cases hq; exact h⟩
  | 11 => obtain ⟨c, i, h⟩ := kn_11 hts; exact ⟨(c, i), fun q hq => by cases hq; exact h⟩
  | k + 12 => exact ⟨(0, fun _ => 0), fun q hq => by simp [vwCl] at hq⟩
theorem gg_ok {s : State} {b : Addr} (hts : ∀ w ∈ lw_tbl, w.before #[Value.ref b] s = true) : ∃ G : GG, KK G s := by
  obtain ⟨f, hf⟩ := Classical.axiomOfChoice (kn_all hts)
  obtain ⟨cI, kI, pI, i1, i2, i3⟩ := Cond.arrayClass_spec (type := .int) (hts _ (tbw (k := 41) (by decide +kernel)))
  obtain ⟨cJ, kJ, pJ, j1, j2, j3⟩ := Cond.arrayClass_spec (type := .long) (hts _ (tbw (k := 130) (by decide +kernel)))
  obtain ⟨pN, cN, kN, n1, n2, n3, n4, n5⟩ := Cond.arrayOver_spec (n := "GateLedger$Net") (hts _ (tbw (k := 30) (by decide +kernel)))
  refine ⟨((fun k => (f k).1, fun k => (f k).2), cI, cJ, cN), fun c q hq => hf c q hq, fun k q hk => ?_⟩
  match k, hk with
  | 0, hk => cases hk; exact ⟨fun n z => ⟨fun k h => (by cases h), kI, i2, pI, i3⟩, i1⟩
  | 1, hk => cases hk; exact ⟨fun n z => ⟨fun k h => (by cases h), kJ, j2, pJ, j3⟩, j1⟩
  | 2, hk => cases hk; exact ⟨fun n z => ⟨fun k h => (by cases h), kN, n3, pN, n4⟩, kN, pN, n3, n4, n1, n5⟩
  | k + 3, hk => simp [TY] at hk
theorem nw_ok {s : State} {b : Addr} (hts : ∀ w ∈ lw_tbl, w.before #[Value.ref b] s = true) : NW s := ⟨va_Nw.of rfl (hts _ (tbw (k := 456) (by decide +kernel))), va_Nw.of rfl (hts _ (tbw (k := 829) (by decide +kernel))), va_Nw.of rfl (hts _ (tbw (k := 628) (by decide +kernel))), va_Nw.of rfl (hts _ (tbw (k := 507) (by decide +kernel)))⟩
theorem ni_ok {s : State} {b : Addr} (hts : ∀ w ∈ lw_tbl, w.before #[Value.ref b] s = true) : NI s := ⟨va_Nw.of rfl (hts _ (tbw (k := 44) (by decide +kernel))), va_Nw.of rfl (hts _ (tbw (k := 83) (by decide +kernel))), va_Nw.of rfl (hts _ (tbw (k := 101) (by decide +kernel))), va_Nw.of rfl (hts _ (tbw (k := 116) (by decide +kernel))), va_Nw.of rfl (hts _ (tbw (k := 140) (by decide +kernel))), va_Nw.of rfl (hts _ (tbw (k := 156) (by decide +kernel))), va_Nw.of rfl (hts _ (tbw (k := 171) (by decide +kernel))), va_Nw.of rfl (hts _ (tbw (k := 183) (by decide +kernel))), va_Nw.of rfl (hts _ (tbw (k := 204) (by decide +kernel)))⟩
theorem ao_ok {s : State} {b : Addr} (hts : ∀ w ∈ lw_tbl, w.before #[Value.ref b] s = true) : va_AO RX3 s := va_AO.of (hts _ (tbw (k := 30) (by decide +kernel)))
theorem xn_ok {s : State} {b : Addr} (hts : ∀ w ∈ lw_tbl, w.before #[Value.ref b] s = true) : XN s := ⟨⟨va_Nw.of rfl (hts _ (tbw (k := 288) (by decide +kernel))), va_Nw.of rfl (hts _ (tbw (k := 290) (by decide +kernel))), va_Nw.of rfl (hts _ (tbw (k := 292) (by decide +kernel)))⟩, va_Nw.of rfl (hts _ (tbw (k := 286) (by decide +kernel))), va_Nw.of rfl (hts _ (tbw (k := 373) (by decide +kernel))), va_Nw.of rfl (hts _ (tbw (k := 665) (by decide +kernel)))⟩
set_option maxRecDepth 100000 in
theorem ncx_ok {s : State} {b : Addr} (hgv : (Jvm.Cond.and given_1 narrow_1).before #[Value.ref b] s = true) : NCX s := by
  have hs := flat_of_before _ hgv
  exact ⟨va_Nc.of (hs _ (by decide +kernel)), va_Nc.of (hs _ (by decide +kernel)), va_Nc.of (hs _ (by decide +kernel))⟩
set_option maxRecDepth 100000 in
theorem txt_ok {s : State} {b : Addr} (hts : ∀ w ∈ lw_tbl, w.before #[Value.ref b] s = true) (hgv : (Jvm.Cond.and given_1 narrow_1).before #[Value.ref b] s = true) : TXT s := by
  have hs := flat_of_before _ hgv
  have H : ∀ (k : Nat) (tx : String), (Cond.stringRef RX11 k tx).before #[Value.ref b] s = true → (Cond.exactly (.string RX11 k) "java/lang/String").before #[Value.ref b] s = true → ∃ sa, vk_R RX11 k tx sa s := fun k tx h1 h2 => by
    obtain ⟨sa, _, _, _, e, -⟩ := Cond.exactly_spec h2
    exact ⟨sa, vk_R.of h1 e⟩
  exact List.forall_mem_cons.mpr ⟨H _ _ (hts _ (tbw (k := 325) (by decide +kernel))) (hs _ (by decide +kernel)), List.forall_mem_cons.mpr ⟨H _ _ (hts _ (tbw (k := 702) (by decide +kernel))) (hs _ (by decide +kernel)), List.forall_mem_cons.mpr ⟨H _ _ (hts _ (tbw (k := 367) (by decide +kernel))) (hs _ (by decide +kernel)), List.forall_mem_cons.mpr ⟨H _ _ (hts _ (tbw (k := 402) (by decide +kernel))) (hs _ (by decide +kernel)), List.forall_mem_cons.mpr ⟨H _ _ (hts _ (tbw (k := 715) (by decide +kernel))) (hs _ (by decide +kernel)), List.forall_mem_cons.mpr ⟨H _ _ (hts _ (tbw (k := 724) (by decide +kernel))) (hs _ (by decide +kernel)), List.forall_mem_cons.mpr ⟨H _ _ (hts _ (tbw (k := 380) (by decide +kernel))) (hs _ (by decide +kernel)), List.forall_mem_cons.mpr ⟨H _ _ (hts _ (tbw (k := 736) (by decide +kernel))) (hs _ (by decide +kernel)), List.forall_mem_cons.mpr ⟨H _ _ (hts _ (tbw (k := 575) (by decide +kernel))) (hs _ (by decide +kernel)), List.forall_mem_cons.mpr ⟨H _ _ (hts _ (tbw (k := 839) (by decide +kernel))) (hs _ (by decide +kernel)), List.forall_mem_cons.mpr ⟨H _ _ (hts _ (tbw (k := 672) (by decide +kernel))) (hs _ (by decide +kernel)), fun _ h => absurd h List.not_mem_nil⟩⟩⟩⟩⟩⟩⟩⟩⟩⟩⟩
set_option maxRecDepth 100000 in
theorem xs_ok {s : State} {b : Addr} (hts : ∀ w ∈ lw_tbl, w.before #[Value.ref b] s = true) (hgv : (Jvm.Cond.and given_1 narrow_1).before #[Value.ref b] s = true) {a : Nat → Nat} (hA : ∀ q, q < s.heap.size → ¬ inM a q) : XS a s s.heap := by
  have hs := flat_of_before _ hgv
  exact ⟨vx_Zqof (hts _ (tbw (k := 311) (by decide +kernel))) (hts _ (tbw (k := 13) (by decide +kernel))) (hs _ (by decide +kernel)) hA, vx_Zqof (hts _ (tbw (k := 313) (by decide +kernel))) (hts _ (tbw (k := 13) (by decide +kernel))) (hs _ (by decide +kernel)) hA⟩
set_option maxRecDepth 100000 in
theorem low_ok {s : State} {b : Addr} (hts : ∀ w ∈ lw_tbl, w.before #[Value.ref b] s = true) (hgv : (Jvm.Cond.and given_1 narrow_1).before #[Value.ref b] s = true) {a : Nat → Nat} (hA : ∀ q, q < s.heap.size → ¬ inM a q) : ∃ t, LOW a t s s.heap := by
  have hs := flat_of_before _ hgv
  obtain ⟨t, e, h⟩ := va_Tof (tm := .static "GateLedger$Lanes" "LOW_INPUTS" "[J") (ty := .long) (N := 6) (f := fun k => .long (lowF k)) (A := inM a) (by decide) (hs _ (by decide +kernel)) (va_eqt (hs _ (by decide +kernel))) (fun j hj => by
    match j, hj with
    | 0, _ => exact va_eqtl (hs _ (by decide +kernel))
    | 1, _ => exact va_eqtl (hs _ (by decide +kernel))
    | 2, _ => exact va_eqtl (hs _ (by decide +kernel))
    | 3, _ => exact va_eqtl (hs _ (by decide +kernel))
    | 4, _ => exact va_eqtl (hs _ (by decide +kernel))
    | 5, _ => exact va_eqtl (hs _ (by decide +kernel))
    | j + 6, h => exact absurd h (by omega)) hA
  exact ⟨t, va_Zof (hts _ (tbw (k := 435) (by decide +kernel))) (hts _ (tbw (k := 6) (by decide +kernel))) e hA, h⟩
