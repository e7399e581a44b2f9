set_option maxRecDepth 20000 in
theorem inX12_load_12 : ∀ w ∈ u_ws RX12 TX12 23, w ∈ wsX12_load := by decide +kernel
set_option maxHeartbeats 4000000 in
set_option maxRecDepth 100000 in
/-- load -/
theorem c_X12_load (l : Launch) (G : GG) (a : Nat → Nat) (ha : Inj a) (cy th : Int32) (Ns : Nat → NT) (z : Nat) (fs sc : FN) (m0 : FN) (hz : z < 4) (hN : WF (Ns z)) (hFS : FS Ns fs sc)  : Met l yX12_load wsX12_load ({ frames := 0, cells := 0, slots := 0, locals := 0 } : Room) (PcB G [.ref (a 93), .int (nI z)] (fun H => PP G (modO a cy th) H ∧ PP G (sixW G a Ns fs sc) H ∧ PP G (twoW G a Ns) H ∧ PP G (ar1 G a 106 120 m0) H)) (QI (fun (r : Int32) (u : FN) => r = mxA (loT (Ns z) (nO (Ns z))) (nG (Ns z))) (fun u H => PP G (ar1 G a 106 120 u) H) (rng a 106 1)) 0 0 (rng a 106 1) := by
  refine Met.ofW (cc := cX12_load) (maxL := 4) (ret := (some .int)) (by decide) rfl ?_
  intro p e s m args below meth c s₁ B hml hv
  obtain ⟨rfl, hB, hK, hNW⟩ := hv
  have hx := B.exec
  have hb := B.bytes
  have hr := B.returns
  have hts := atoms_spec (ws := wsX12_load) B.pre
  have hown : s.vm.findClass RX12 = some m.cls := findClass_of_methodNamed B.named
  have hlocks := B.notSynchronized
  have FX : CallFix p m c cX12_load 4 s ([.ref (a 93), .int (nI z)] : List Value).toArray wsX12_load RX12 := ⟨hx, hb, hml, hown, hts⟩
  have hl := lv_entry ([.ref (a 93), .int (nI z)]) (n := 4) (Nat.le_of_ble_eq_true rfl)
  rw [lg_entry_eq]
  generalize (lg_sl ([.ref (a 93), .int (nI z)]) ++ List.replicate (4 - (lg_sl ([.ref (a 93), .int (nI z)])).length) Slot.unset).toArray = ls at hl ⊢
  have hl : lv_has ls 4 [(0, .ref (a 93)), (1, .int (nI z))] := hl
  obtain ⟨h_o, h_x, h_y, h_marks⟩ := hB
  have hS : va_S (rng a 106 1) s.heap s.heap [] := va_S.rf
  have hg9 := hN.g
  have ho9 := hN.o
  have hi9 := hN.2.1
  refine lv_iconst (v := nI 0) hx hb dX12_load_0 (by decide) ?_
  refine lv_istore_n (lv' := [(2, .int (nI 0)), (0, .ref (a 93)), (1, .int (nI z))]) hx hb dX12_load_1 rfl hl (by decide) rfl (fun ls hl => ?_)
  refine lv_loop2 2 (fun (k : Nat) (mf : FN) => nG (Ns z) - k) (fun (k : Nat) (mf : FN) (H : Heap) (locs : List Loc) (ls : Array Slot) => (PP G (ar1 G a 106 120 mf) H) ∧ (va_S (rng a 106 1) s.heap H locs) ∧ (lv_has ls 4 [(0, .ref (a 93)), (1, .int (nI z)), (2, .int (nI k))]) ∧ (k ≤ nG (Ns z)) ∧ (∀ r, r < k → mf r = nI 0)) (fun _ _ => []) (fun k mf H locs ls hI ih => ?_) 0 m0 ⟨h_marks, hS, lv_sub hl [1, 2, 0] rfl, by omega, fun r h => absurd h (Nat.not_lt_zero r)⟩ rfl
  obtain ⟨h_marks, hS, hl, hk, hm⟩ := hI
  have ih1 := @ih
  clear ih
  refine lv_iload_n hx hb dX12_load_2 rfl (lv_at hl 2 rfl) ?_
  refine lv_aload_n hx hb dX12_load_3 rfl (lv_at hl 0 rfl) ?_
  refine va_get (D := G.1) (ci := 12) (v := .ref (a 98)) (C := RX12) (T := TX12) (N := 23) hx hb hts inX12_load_12 hown hK (ro hS h_o (dj_cons (rng_no ha (by omega)) (dj_nil))) 0 rfl rfl 4 (by decide) (hts (.fieldLink RX12 22 "GateLedgerModel" "many" "[I") (List.mem_of_getElem? (i := 1) (by decide +kernel))) (fun _ h9 => h9) rfl dX12_load_4 ?_
  refine lv_iload_n hx hb dX12_load_7 rfl (lv_at hl 1 rfl) ?_
  refine pp_iald hx hb hK (ro hS h_x (dj_cons (rng_no ha (by omega)) (dj_cons (rng_no ha (by omega)) (dj_cons (rng_no ha (by omega)) (dj_cons (rng_no ha (by omega)) (dj_cons (rng_no ha (by omega)) (dj_cons (rng_no ha (by omega)) (dj_nil)))))))) 4 rfl (vp_in_nI (by omega) (by omega)) dX12_load_8 ?_
  refine lv_as (congrArg (MF Ns) (nI_clamp (by omega))) ?_
  refine lv_as (y := nI (nG (Ns z))) rfl ?_
  refine lv_icmp_ge (tgt := 25) hx hb dX12_load_9 (by decide) (fun c9 => ?_) (fun c9 => ?_)
  · skip
    have c9 := cv_le (by omega) (by omega) c9
    refine lv_iconst (v := nI 0) hx hb dX12_load_25 (by decide) ?_
    refine lv_istore_n (lv' := [(2, .int (nI 0)), (0, .ref (a 93)), (1, .int (nI z))]) hx hb dX12_load_26 rfl hl (by decide) rfl (fun ls hl => ?_)
    refine lv_loop2 27 (fun (k : Nat) (mf : FN) => nG (Ns z) - k) (fun (k : Nat) (mf : FN) (H : Heap) (locs : List Loc) (ls : Array Slot) => (PP G (ar1 G a 106 120 mf) H) ∧ (va_S (rng a 106 1) s.heap H locs) ∧ (lv_has ls 4 [(0, .ref (a 93)), (1, .int (nI z)), (2, .int (nI k))]) ∧ (k ≤ nG (Ns z)) ∧ (∀ r, r < nG (Ns z) → mf r = ldT (Ns z) k r)) (fun _ _ => []) (fun k mf H locs ls hI ih => ?_) 0 mf ⟨h_marks, hS, lv_sub hl [1, 2, 0] rfl, by omega, fun r h => hm r (by omega)⟩ rfl
    obtain ⟨h_marks, hS, hl, hk, hm2⟩ := hI
    have ih2 := @ih
    clear ih
    refine lv_iload_n hx hb dX12_load_27 rfl (lv_at hl 2 rfl) ?_
    refine lv_aload_n hx hb dX12_load_28 rfl (lv_at hl 0 rfl) ?_
    refine va_get (D := G.1) (ci := 12) (v := .ref (a 98)) (C := RX12) (T := TX12) (N := 23) hx hb hts inX12_load_12 hown hK (ro hS h_o (dj_cons (rng_no ha (by omega)) (dj_nil))) 0 rfl rfl 4 (by decide) (hts (.fieldLink RX12 22 "GateLedgerModel" "many" "[I") (List.mem_of_getElem? (i := 1) (by decide +kernel))) (fun _ h9 => h9) rfl dX12_load_29 ?_
    refine lv_iload_n hx hb dX12_load_32 rfl (lv_at hl 1 rfl) ?_
    refine pp_iald hx hb hK (ro hS h_x (dj_cons (rng_no ha (by omega)) (dj_cons (rng_no ha (by omega)) (dj_cons (rng_no ha (by omega)) (dj_cons (rng_no ha (by omega)) (dj_cons (rng_no ha (by omega)) (dj_cons (rng_no ha (by omega)) (dj_nil)))))))) 4 rfl (vp_in_nI (by omega) (by omega)) dX12_load_33 ?_
    refine lv_as (congrArg (MF Ns) (nI_clamp (by omega))) ?_
    refine lv_as (y := nI (nG (Ns z))) rfl ?_
    refine lv_icmp_ge (tgt := 104) hx hb dX12_load_34 (by decide) (fun c34 => ?_) (fun c34 => ?_)
    · skip
      have c34 := cv_le (by omega) (by omega) c34
      refine lv_iconst (v := nI 0) hx hb dX12_load_104 (by decide) ?_
      refine lv_istore_n (lv' := [(2, .int (nI 0)), (0, .ref (a 93)), (1, .int (nI z))]) hx hb dX12_load_105 rfl hl (by decide) rfl (fun ls hl => ?_)
      refine lv_loop2 106 (fun (q : Nat) (mf : FN) => nO (Ns z) - q) (fun (q : Nat) (mf : FN) (H : Heap) (locs : List Loc) (ls : Array Slot) => (PP G (ar1 G a 106 120 mf) H) ∧ (va_S (rng a 106 1) s.heap H locs) ∧ (lv_has ls 4 [(0, .ref (a 93)), (1, .int (nI z)), (2, .int (nI q))]) ∧ (q ≤ nO (Ns z)) ∧ (∀ r, r < nG (Ns z) → mf r = loT (Ns z) q r)) (fun _ _ => []) (fun q mf H locs ls hI ih => ?_) 0 mf ⟨h_marks, hS, lv_sub hl [1, 2, 0] rfl, by omega, fun r h => by rw [hm2 r h, show k = nG (Ns z) by omega]; rfl⟩ rfl
      obtain ⟨h_marks, hS, hl, hq, hm3⟩ := hI
      have ih3 := @ih
      clear ih
      refine lv_iload_n hx hb dX12_load_106 rfl (lv_at hl 2 rfl) ?_
      refine lv_aload_n hx hb dX12_load_107 rfl (lv_at hl 0 rfl) ?_
      refine va_get (D := G.1) (ci := 12) (v := .ref (a 101)) (C := RX12) (T := TX12) (N := 23) hx hb hts inX12_load_12 hown hK (ro hS h_o (dj_cons (rng_no ha (by omega)) (dj_nil))) 0 rfl rfl 7 (by decide) (hts (.fieldLink RX12 31 "GateLedgerModel" "outMany" "[I") (List.mem_of_getElem? (i := 6) (by decide +kernel))) (fun _ h9 => h9) rfl dX12_load_108 ?_
      refine lv_iload_n hx hb dX12_load_111 rfl (lv_at hl 1 rfl) ?_
      refine pp_iald hx hb hK (ro hS h_y (dj_cons (rng_no ha (by omega)) (dj_cons (rng_no ha (by omega)) (dj_nil)))) 1 rfl (vp_in_nI (by omega) (by omega)) dX12_load_112 ?_
      refine lv_as (congrArg (OF Ns) (nI_clamp (by omega))) ?_
      refine lv_as (y := nI (nO (Ns z))) rfl ?_
      refine lv_icmp_ge (tgt := 142) hx hb dX12_load_113 (by decide) (fun c113 => ?_) (fun c113 => ?_)
      · skip
        have c113 := cv_le (by omega) (by omega) c113
        refine lv_iconst (v := nI 0) hx hb dX12_load_142 (by decide) ?_
        refine lv_istore_n (lv' := [(2, .int (nI 0)), (0, .ref (a 93)), (1, .int (nI z))]) hx hb dX12_load_143 rfl hl (by decide) rfl (fun ls hl => ?_)
        refine lv_iconst (v := nI 0) hx hb dX12_load_144 (by decide) ?_
        refine lv_istore_n (lv' := [(3, .int (nI 0)), (2, .int (nI 0)), (0, .ref (a 93)), (1, .int (nI z))]) hx hb dX12_load_145 rfl hl (by decide) rfl (fun ls hl => ?_)
        have hm4 : ∀ r, r < nG (Ns z) → mf r = loT (Ns z) (nO (Ns z)) r := fun r h => by rw [hm3 r h, show q = nO (Ns z) by omega]
        refine lv_loop1 146 (fun (k : Nat) => nG (Ns z) - k) (fun (k : Nat) (H : Heap) (locs : List Loc) (ls : Array Slot) => (PP G (ar1 G a 106 120 mf) H) ∧ (va_S (rng a 106 1) s.heap H locs) ∧ (lv_has ls 4 [(0, .ref (a 93)), (1, .int (nI z)), (2, .int (mxA (loT (Ns z) (nO (Ns z))) k)), (3, .int (nI k))]) ∧ (k ≤ nG (Ns z))) (fun _ => []) (fun k H locs ls hI ih => ?_) 0 ⟨h_marks, hS, lv_sub hl [2, 3, 1, 0] rfl, by omega⟩ rfl
        obtain ⟨h_marks, hS, hl, hk⟩ := hI
        have ih4 := @ih
        clear ih
        refine lv_iload_n hx hb dX12_load_146 rfl (lv_at hl 3 rfl) ?_
        refine lv_aload_n hx hb dX12_load_147 rfl (lv_at hl 0 rfl) ?_
        refine va_get (D := G.1) (ci := 12) (v := .ref (a 98)) (C := RX12) (T := TX12) (N := 23) hx hb hts inX12_load_12 hown hK (ro hS h_o (dj_cons (rng_no ha (by omega)) (dj_nil))) 0 rfl rfl 4 (by decide) (hts (.fieldLink RX12 22 "GateLedgerModel" "many" "[I") (List.mem_of_getElem? (i := 1) (by decide +kernel))) (fun _ h9 => h9) rfl dX12_load_148 ?_
        refine lv_iload_n hx hb dX12_load_151 rfl (lv_at hl 1 rfl) ?_
        refine pp_iald hx hb hK (ro hS h_x (dj_cons (rng_no ha (by omega)) (dj_cons (rng_no ha (by omega)) (dj_cons (rng_no ha (by omega)) (dj_cons (rng_no ha (by omega)) (dj_cons (rng_no ha (by omega)) (dj_cons (rng_no ha (by omega)) (dj_nil)))))))) 4 rfl (vp_in_nI (by omega) (by omega)) dX12_load_152 ?_
        refine lv_as (congrArg (MF Ns) (nI_clamp (by omega))) ?_
        refine lv_as (y := nI (nG (Ns z))) rfl ?_
        refine lv_icmp_ge (tgt := 183) hx hb dX12_load_153 (by decide) (fun c153 => ?_) (fun c153 => ?_)
        · skip
          have c153 := cv_le (by omega) (by omega) c153
          refine lv_iload_n hx hb dX12_load_183 rfl (lv_at hl 2 rfl) ?_
          exact en_wi mf hx hb hr hlocks hS (by rw [show k = nG (Ns z) by omega]) h_marks dX12_load_184
        · skip
          have c153 := cv_nle (by omega) (by omega) c153
          refine lv_aload_n hx hb dX12_load_156 rfl (lv_at hl 0 rfl) ?_
          refine va_get (D := G.1) (ci := 12) (v := .ref (a 106)) (C := RX12) (T := TX12) (N := 23) hx hb hts inX12_load_12 hown hK (ro hS h_o (dj_cons (rng_no ha (by omega)) (dj_nil))) 0 rfl rfl 12 (by decide) (hts (.fieldLink RX12 46 "GateLedgerModel" "marks" "[I") (List.mem_of_getElem? (i := 2) (by decide +kernel))) (fun _ h9 => h9) rfl dX12_load_157 ?_
          refine lv_iload_n hx hb dX12_load_160 rfl (lv_at hl 3 rfl) ?_
          refine pp_iald hx hb hK h_marks 0 rfl (vp_in_nI (by omega) (by omega)) dX12_load_161 ?_
          refine lv_as (congrArg mf (nI_clamp (by omega))) ?_
          refine lv_as (y := (loT (Ns z) (nO (Ns z))) k) (hm4 _ (by omega)) ?_
          refine lv_iload_n hx hb dX12_load_162 rfl (lv_at hl 2 rfl) ?_
          refine lv_icmp_le (tgt := 175) hx hb dX12_load_163 (by decide) (fun c163 => ?_) (fun c163 => ?_)
          · skip
            refine lv_iload_n hx hb dX12_load_175 rfl (lv_at hl 2 rfl) ?_
            refine lv_istore_n (lv' := [(2, .int (mxA (loT (Ns z) (nO (Ns z))) k)), (0, .ref (a 93)), (1, .int (nI z)), (3, .int (nI k))]) hx hb dX12_load_176 rfl hl (by decide) rfl (fun ls hl => ?_)
            refine lv_iinc (v := nI (k + 1)) (lv' := [(3, .int (nI (k + 1))), (2, .int (mxA (loT (Ns z) (nO (Ns z))) k)), (0, .ref (a 93)), (1, .int (nI z))]) hx hb dX12_load_177 hl (k := 3) rfl (by first | exact nI_add _ 1 | decide) (by decide) rfl (fun ls hl => ?_)
            refine lv_goto (tgt := 146) hx hb dX12_load_180 (by decide) ?_
            exact ih4 (k + 1) _ _ _ ⟨h_marks, hS, (by rw [show mxA (loT (Ns z) (nO (Ns z))) (k + 1) = _ from if_neg (Int32.not_lt.mpr c163)]; exact lv_sub hl [2, 3, 1, 0] rfl), by omega⟩ (by show nG (Ns z) - (k + 1) < nG (Ns z) - k; omega)
          · skip
            refine lv_aload_n hx hb dX12_load_166 rfl (lv_at hl 0 rfl) ?_
            refine va_get (D := G.1) (ci := 12) (v := .ref (a 106)) (C := RX12) (T := TX12) (N := 23) hx hb hts inX12_load_12 hown hK (ro hS h_o (dj_cons (rng_no ha (by omega)) (dj_nil))) 0 rfl rfl 12 (by decide) (hts (.fieldLink RX12 46 "GateLedgerModel" "marks" "[I") (List.mem_of_getElem? (i := 2) (by decide +kernel))) (fun _ h9 => h9) rfl dX12_load_167 ?_
            refine lv_iload_n hx hb dX12_load_170 rfl (lv_at hl 3 rfl) ?_
            refine pp_iald hx hb hK h_marks 0 rfl (vp_in_nI (by omega) (by omega)) dX12_load_171 ?_
            refine lv_as (congrArg mf (nI_clamp (by omega))) ?_
            refine lv_as (y := (loT (Ns z) (nO (Ns z))) k) (hm4 _ (by omega)) ?_
            refine lv_goto (tgt := 176) hx hb dX12_load_172 (by decide) ?_
            refine lv_istore_n (lv' := [(2, .int ((loT (Ns z) (nO (Ns z))) k)), (0, .ref (a 93)), (1, .int (nI z)), (3, .int (nI k))]) hx hb dX12_load_176 rfl hl (by decide) rfl (fun ls hl => ?_)
            refine lv_iinc (v := nI (k + 1)) (lv' := [(3, .int (nI (k + 1))), (2, .int ((loT (Ns z) (nO (Ns z))) k)), (0, .ref (a 93)), (1, .int (nI z))]) hx hb dX12_load_177 hl (k := 3) rfl (by first | exact nI_add _ 1 | decide) (by decide) rfl (fun ls hl => ?_)
            refine lv_goto (tgt := 146) hx hb dX12_load_180 (by decide) ?_
            exact ih4 (k + 1) _ _ _ ⟨h_marks, hS, (by rw [show mxA (loT (Ns z) (nO (Ns z))) (k + 1) = _ from if_pos (Int32.not_le.mp c163)]; exact lv_sub hl [2, 3, 1, 0] rfl), by omega⟩ (by show nG (Ns z) - (k + 1) < nG (Ns z) - k; omega)
      · skip
        have c113 := cv_nle (by omega) (by omega) c113
        have hu9 := hN.u c113
        refine lv_aload_n hx hb dX12_load_116 rfl (lv_at hl 0 rfl) ?_
        refine va_get (D := G.1) (ci := 12) (v := .ref (a 106)) (C := RX12) (T := TX12) (N := 23) hx hb hts inX12_load_12 hown hK (ro hS h_o (dj_cons (rng_no ha (by omega)) (dj_nil))) 0 rfl rfl 12 (by decide) (hts (.fieldLink RX12 46 "GateLedgerModel" "marks" "[I") (List.mem_of_getElem? (i := 2) (by decide +kernel))) (fun _ h9 => h9) rfl dX12_load_117 ?_
        refine lv_aload_n hx hb dX12_load_120 rfl (lv_at hl 0 rfl) ?_
        refine va_get (D := G.1) (ci := 12) (v := .ref (a 100)) (C := RX12) (T := TX12) (N := 23) hx hb hts inX12_load_12 hown hK (ro hS h_o (dj_cons (rng_no ha (by omega)) (dj_nil))) 0 rfl rfl 6 (by decide) (hts (.fieldLink RX12 28 "GateLedgerModel" "outs" "[I") (List.mem_of_getElem? (i := 7) (by decide +kernel))) (fun _ h9 => h9) rfl dX12_load_121 ?_
        refine lv_bipush (v := nI 16) hx hb dX12_load_124 (by decide) ?_
        refine lv_iload_n hx hb dX12_load_126 rfl (lv_at hl 1 rfl) ?_
        refine lv_imul hx hb dX12_load_127 ?_
        refine lv_as (pk_mul _ _) ?_
        refine lv_iload_n hx hb dX12_load_128 rfl (lv_at hl 2 rfl) ?_
        refine lv_iadd hx hb dX12_load_129 ?_
        refine lv_as (nI_add _ _) ?_
        refine pp_iald hx hb hK (ro hS h_y (dj_cons (rng_no ha (by omega)) (dj_cons (rng_no ha (by omega)) (dj_nil)))) 0 rfl (vp_in_nI (by omega) (by omega)) dX12_load_130 ?_
        refine lv_as (congrArg (UF Ns) (nI_clamp (by omega))) ?_
        refine lv_as (y := nI (nU (Ns z) q)) (UF_at (by omega)) ?_
        refine lv_dup2_11 hx hb dX12_load_131 rfl rfl ?_
        refine pp_iald hx hb hK h_marks 0 rfl (vp_in_nI (by omega) (by omega)) dX12_load_132 ?_
        refine lv_as (congrArg mf (nI_clamp (by omega))) ?_
        refine lv_iconst (v := nI 1) hx hb dX12_load_133 (by decide) ?_
        refine lv_iadd hx hb dX12_load_134 ?_
        refine pp_iast hx hb hK h_marks hS (rng_in (by omega)) (vp_in_nI (by omega) (by omega)) dX12_load_135 (fun H locs hP9 hk5 _ hS => ?_)
        rw [nI_clamp (by omega)] at hP9
        have h_marks : PP G (ar1 G a 106 120 (upd mf (nU (Ns z) q) ((mf (nU (Ns z) q)) + (nI 1)))) H := hP9
        refine lv_iinc (v := nI (q + 1)) (lv' := [(2, .int (nI (q + 1))), (0, .ref (a 93)), (1, .int (nI z))]) hx hb dX12_load_136 hl (k := 2) rfl (by first | exact nI_add _ 1 | decide) (by decide) rfl (fun ls hl => ?_)
        refine lv_goto (tgt := 106) hx hb dX12_load_139 (by decide) ?_
        exact ih3 (q + 1) (upd mf (nU (Ns z) q) ((mf (nU (Ns z) q)) + (nI 1))) _ _ _ ⟨h_marks, hS, lv_sub hl [1, 2, 0] rfl, by omega, upd_cong hm3 (by rw [hm3 _ (by omega)])⟩ (by show nO (Ns z) - (q + 1) < nO (Ns z) - q; omega)
    · skip
      have c34 := cv_nle (by omega) (by omega) c34
      have hk4 := hN.k c34
      refine lv_bipush (v := nI 120) hx hb dX12_load_37 (by decide) ?_
      refine lv_iload_n hx hb dX12_load_39 rfl (lv_at hl 1 rfl) ?_
      refine lv_imul hx hb dX12_load_40 ?_
      refine lv_as (pk_mul _ _) ?_
      refine lv_iload_n hx hb dX12_load_41 rfl (lv_at hl 2 rfl) ?_
      refine lv_iadd hx hb dX12_load_42 ?_
      refine lv_as (nI_add _ _) ?_
      refine lv_istore_n (lv' := [(3, .int (nI ((120 * z) + k))), (0, .ref (a 93)), (1, .int (nI z)), (2, .int (nI k))]) hx hb dX12_load_43 rfl hl (by decide) rfl (fun ls hl => ?_)
      refine lv_aload_n hx hb dX12_load_44 rfl (lv_at hl 1 rfl) ?_
      refine va_get (D := G.1) (ci := 12) (v := .ref (a 94)) (C := RX12) (T := TX12) (N := 23) hx hb hts inX12_load_12 hown hK (ro hS h_o (dj_cons (rng_no ha (by omega)) (dj_nil))) 0 rfl rfl 0 (by decide) (hts (.fieldLink RX12 7 "GateLedgerModel" "kind" "[I") (List.mem_of_getElem? (i := 3) (by decide +kernel))) (fun _ h9 => h9) rfl dX12_load_45 ?_
      refine lv_iload_n hx hb dX12_load_48 rfl (lv_at hl 0 rfl) ?_
      refine pp_iald hx hb hK (ro hS h_x (dj_cons (rng_no ha (by omega)) (dj_cons (rng_no ha (by omega)) (dj_cons (rng_no ha (by omega)) (dj_cons (rng_no ha (by omega)) (dj_cons (rng_no ha (by omega)) (dj_cons (rng_no ha (by omega)) (dj_nil)))))))) 0 rfl (vp_in_nI (by omega) (by omega)) dX12_load_49 ?_
      refine lv_as (congrArg (KF Ns) (nI_clamp (by omega))) ?_
      refine lv_as (y := nI (nK (Ns z) k)) (KF_at (by omega)) ?_
      refine lv_iconst (v := nI 4) hx hb dX12_load_50 (by decide) ?_
      refine lv_icmp_eq (tgt := 98) hx hb dX12_load_51 (by decide) (fun c51 => ?_) (fun c51 => ?_)
      · skip
        have c51 := cv_eq (by omega) (by omega) c51
        refine lv_iinc (v := nI (k + 1)) (lv' := [(2, .int (nI (k + 1))), (3, .int (nI ((120 * z) + k))), (0, .ref (a 93)), (1, .int (nI z))]) hx hb dX12_load_98 hl (k := 3) rfl (by first | exact nI_add _ 1 | decide) (by decide) rfl (fun ls hl => ?_)
        refine lv_goto (tgt := 27) hx hb dX12_load_101 (by decide) ?_
        exact ih2 (k + 1) mf _ _ _ ⟨h_marks, hS, lv_sub hl [2, 3, 0] rfl, by omega, fun r h => (hm2 r h).trans (congrFun (show ldS (Ns z) (ldT (Ns z) k) k = ldT (Ns z) k from if_pos c51) r).symm⟩ (by show nG (Ns z) - (k + 1) < nG (Ns z) - k; omega)
      · skip
        have c51 := cv_ne (by omega) (by omega) c51
        have hfs := hN.fs c34 c51
        refine lv_aload_n hx hb dX12_load_54 rfl (lv_at hl 1 rfl) ?_
        refine va_get (D := G.1) (ci := 12) (v := .ref (a 106)) (C := RX12) (T := TX12) (N := 23) hx hb hts inX12_load_12 hown hK (ro hS h_o (dj_cons (rng_no ha (by omega)) (dj_nil))) 0 rfl rfl 12 (by decide) (hts (.fieldLink RX12 46 "GateLedgerModel" "marks" "[I") (List.mem_of_getElem? (i := 2) (by decide +kernel))) (fun _ h9 => h9) rfl dX12_load_55 ?_
        refine lv_aload_n hx hb dX12_load_58 rfl (lv_at hl 1 rfl) ?_
        refine va_get (D := G.1) (ci := 12) (v := .ref (a 95)) (C := RX12) (T := TX12) (N := 23) hx hb hts inX12_load_12 hown hK (ro hS h_o (dj_cons (rng_no ha (by omega)) (dj_nil))) 0 rfl rfl 1 (by decide) (hts (.fieldLink RX12 13 "GateLedgerModel" "first" "[I") (List.mem_of_getElem? (i := 4) (by decide +kernel))) (fun _ h9 => h9) rfl dX12_load_59 ?_
        refine lv_iload_n hx hb dX12_load_62 rfl (lv_at hl 0 rfl) ?_
        refine pp_iald hx hb hK (ro hS h_x (dj_cons (rng_no ha (by omega)) (dj_cons (rng_no ha (by omega)) (dj_cons (rng_no ha (by omega)) (dj_cons (rng_no ha (by omega)) (dj_cons (rng_no ha (by omega)) (dj_cons (rng_no ha (by omega)) (dj_nil)))))))) 1 rfl (vp_in_nI (by omega) (by omega)) dX12_load_63 ?_
        refine lv_as (congrArg fs (nI_clamp (by omega))) ?_
        refine lv_as (y := nI (nF (Ns z) k)) ((hFS z hz k (by omega) c34 c51).1) ?_
        refine lv_dup2_11 hx hb dX12_load_64 rfl rfl ?_
        refine pp_iald hx hb hK h_marks 0 rfl (vp_in_nI (by omega) (by omega)) dX12_load_65 ?_
        refine lv_as (congrArg mf (nI_clamp (by omega))) ?_
        refine lv_iconst (v := nI 1) hx hb dX12_load_66 (by decide) ?_
        refine lv_iadd hx hb dX12_load_67 ?_
        refine pp_iast hx hb hK h_marks hS (rng_in (by omega)) (vp_in_nI (by omega) (by omega)) dX12_load_68 (fun H locs hP9 hk6 _ hS => ?_)
        rw [nI_clamp (by omega)] at hP9
        have h_marks : PP G (ar1 G a 106 120 (upd mf (nF (Ns z) k) ((mf (nF (Ns z) k)) + (nI 1)))) H := hP9
        refine lv_aload_n hx hb dX12_load_69 rfl (lv_at hl 1 rfl) ?_
        refine va_get (D := G.1) (ci := 12) (v := .ref (a 106)) (C := RX12) (T := TX12) (N := 23) hx hb hts inX12_load_12 hown hK (ro hS h_o (dj_cons (rng_no ha (by omega)) (dj_nil))) 0 rfl rfl 12 (by decide) (hts (.fieldLink RX12 46 "GateLedgerModel" "marks" "[I") (List.mem_of_getElem? (i := 2) (by decide +kernel))) (fun _ h9 => h9) rfl dX12_load_70 ?_
        refine lv_aload_n hx hb dX12_load_73 rfl (lv_at hl 1 rfl) ?_
        refine va_get (D := G.1) (ci := 12) (v := .ref (a 96)) (C := RX12) (T := TX12) (N := 23) hx hb hts inX12_load_12 hown hK (ro hS h_o (dj_cons (rng_no ha (by omega)) (dj_nil))) 0 rfl rfl 2 (by decide) (hts (.fieldLink RX12 16 "GateLedgerModel" "second" "[I") (List.mem_of_getElem? (i := 5) (by decide +kernel))) (fun _ h9 => h9) rfl dX12_load_74 ?_
        refine lv_iload_n hx hb dX12_load_77 rfl (lv_at hl 0 rfl) ?_
        refine pp_iald hx hb hK (ro hS h_x (dj_cons (rng_no ha (by omega)) (dj_cons (rng_no ha (by omega)) (dj_cons (rng_no ha (by omega)) (dj_cons (rng_no ha (by omega)) (dj_cons (rng_no ha (by omega)) (dj_cons (rng_no ha (by omega)) (dj_nil)))))))) 2 rfl (vp_in_nI (by omega) (by omega)) dX12_load_78 ?_
        refine lv_as (congrArg sc (nI_clamp (by omega))) ?_
        refine lv_as (y := nI (nS (Ns z) k)) ((hFS z hz k (by omega) c34 c51).2) ?_
        refine lv_dup2_11 hx hb dX12_load_79 rfl rfl ?_
        refine pp_iald hx hb hK h_marks 0 rfl (vp_in_nI (by omega) (by omega)) dX12_load_80 ?_
        refine lv_as (congrArg (upd mf (nF (Ns z) k) ((mf (nF (Ns z) k)) + (nI 1))) (nI_clamp (by omega))) ?_
        refine lv_aload_n hx hb dX12_load_81 rfl (lv_at hl 1 rfl) ?_
        refine va_get (D := G.1) (ci := 12) (v := .ref (a 94)) (C := RX12) (T := TX12) (N := 23) hx hb hts inX12_load_12 hown hK (ro hS h_o (dj_cons (rng_no ha (by omega)) (dj_nil))) 0 rfl rfl 0 (by decide) (hts (.fieldLink RX12 7 "GateLedgerModel" "kind" "[I") (List.mem_of_getElem? (i := 3) (by decide +kernel))) (fun _ h9 => h9) rfl dX12_load_82 ?_
        refine lv_iload_n hx hb dX12_load_85 rfl (lv_at hl 0 rfl) ?_
        refine pp_iald hx hb hK (ro hS h_x (dj_cons (rng_no ha (by omega)) (dj_cons (rng_no ha (by omega)) (dj_cons (rng_no ha (by omega)) (dj_cons (rng_no ha (by omega)) (dj_cons (rng_no ha (by omega)) (dj_cons (rng_no ha (by omega)) (dj_nil)))))))) 0 rfl (vp_in_nI (by omega) (by omega)) dX12_load_86 ?_
        refine lv_as (congrArg (KF Ns) (nI_clamp (by omega))) ?_
        refine lv_as (y := nI (nK (Ns z) k)) (KF_at (by omega)) ?_
        refine lv_iconst (v := nI 3) hx hb dX12_load_87 (by decide) ?_
        refine lv_icmp_ne (tgt := 95) hx hb dX12_load_88 (by decide) (fun c88 => ?_) (fun c88 => ?_)
        · skip
          have c88 := cv_ne (by omega) (by omega) c88
          refine lv_iconst (v := nI 1) hx hb dX12_load_95 (by decide) ?_
          refine lv_iadd hx hb dX12_load_96 ?_
          refine pp_iast hx hb hK h_marks hS (rng_in (by omega)) (vp_in_nI (by omega) (by omega)) dX12_load_97 (fun H locs hP9 hk7 _ hS => ?_)
          rw [nI_clamp (by omega)] at hP9
          rw [show upd (upd mf (nF (Ns z) k) ((mf (nF (Ns z) k)) + (nI 1))) (nS (Ns z) k) (((upd mf (nF (Ns z) k) ((mf (nF (Ns z) k)) + (nI 1))) (nS (Ns z) k)) + (nI 1)) = ldS (Ns z) mf k from ((if_neg c51).trans (by first | rw [if_pos c88] | rw [if_neg c88])).symm] at hP9
          have h_marks : PP G (ar1 G a 106 120 (ldS (Ns z) mf k)) H := hP9
          refine lv_iinc (v := nI (k + 1)) (lv' := [(2, .int (nI (k + 1))), (3, .int (nI ((120 * z) + k))), (0, .ref (a 93)), (1, .int (nI z))]) hx hb dX12_load_98 hl (k := 3) rfl (by first | exact nI_add _ 1 | decide) (by decide) rfl (fun ls hl => ?_)
          refine lv_goto (tgt := 27) hx hb dX12_load_101 (by decide) ?_
          exact ih2 (k + 1) (ldS (Ns z) mf k) _ _ _ ⟨h_marks, hS, lv_sub hl [2, 3, 0] rfl, by omega, ldS_cong (n := nG (Ns z)) (fun _ => ⟨by omega, by omega⟩) hm2⟩ (by show nG (Ns z) - (k + 1) < nG (Ns z) - k; omega)
        · skip
          have c88 := cv_eq (by omega) (by omega) c88
          refine lv_iconst (v := nI 0) hx hb dX12_load_91 (by decide) ?_
          refine lv_goto (tgt := 96) hx hb dX12_load_92 (by decide) ?_
          refine lv_iadd hx hb dX12_load_96 ?_
          refine pp_iast hx hb hK h_marks hS (rng_in (by omega)) (vp_in_nI (by omega) (by omega)) dX12_load_97 (fun H locs hP9 hk8 _ hS => ?_)
          rw [nI_clamp (by omega)] at hP9
          rw [show upd (upd mf (nF (Ns z) k) ((mf (nF (Ns z) k)) + (nI 1))) (nS (Ns z) k) (((upd mf (nF (Ns z) k) ((mf (nF (Ns z) k)) + (nI 1))) (nS (Ns z) k)) + (nI 0)) = ldS (Ns z) mf k from ((if_neg c51).trans (by first | rw [if_pos c88] | rw [if_neg c88])).symm] at hP9
          have h_marks : PP G (ar1 G a 106 120 (ldS (Ns z) mf k)) H := hP9
          refine lv_iinc (v := nI (k + 1)) (lv' := [(2, .int (nI (k + 1))), (3, .int (nI ((120 * z) + k))), (0, .ref (a 93)), (1, .int (nI z))]) hx hb dX12_load_98 hl (k := 3) rfl (by first | exact nI_add _ 1 | decide) (by decide) rfl (fun ls hl => ?_)
          refine lv_goto (tgt := 27) hx hb dX12_load_101 (by decide) ?_
          exact ih2 (k + 1) (ldS (Ns z) mf k) _ _ _ ⟨h_marks, hS, lv_sub hl [2, 3, 0] rfl, by omega, ldS_cong (n := nG (Ns z)) (fun _ => ⟨by omega, by omega⟩) hm2⟩ (by show nG (Ns z) - (k + 1) < nG (Ns z) - k; omega)
  · skip
    have c9 := cv_nle (by omega) (by omega) c9
    refine lv_aload_n hx hb dX12_load_12 rfl (lv_at hl 0 rfl) ?_
    refine va_get (D := G.1) (ci := 12) (v := .ref (a 106)) (C := RX12) (T := TX12) (N := 23) hx hb hts inX12_load_12 hown hK (ro hS h_o (dj_cons (rng_no ha (by omega)) (dj_nil))) 0 rfl rfl 12 (by decide) (hts (.fieldLink RX12 46 "GateLedgerModel" "marks" "[I") (List.mem_of_getElem? (i := 2) (by decide +kernel))) (fun _ h9 => h9) rfl dX12_load_13 ?_
    refine lv_iload_n hx hb dX12_load_16 rfl (lv_at hl 2 rfl) ?_
    refine lv_iconst (v := nI 0) hx hb dX12_load_17 (by decide) ?_
    refine pp_iast hx hb hK h_marks hS (rng_in (by omega)) (vp_in_nI (by omega) (by omega)) dX12_load_18 (fun H locs hP9 hk9 _ hS => ?_)
    rw [nI_clamp (by omega)] at hP9
    have h_marks : PP G (ar1 G a 106 120 (upd mf k (nI 0))) H := hP9
    refine lv_iinc (v := nI (k + 1)) (lv' := [(2, .int (nI (k + 1))), (0, .ref (a 93)), (1, .int (nI z))]) hx hb dX12_load_19 hl (k := 2) rfl (by first | exact nI_add _ 1 | decide) (by decide) rfl (fun ls hl => ?_)
    refine lv_goto (tgt := 2) hx hb dX12_load_22 (by decide) ?_
    exact ih1 (k + 1) (upd mf k (nI 0)) _ _ _ ⟨h_marks, hS, lv_sub hl [1, 2, 0] rfl, by omega, upd_fill (v := fun _ => nI 0) hm rfl⟩ (by show nG (Ns z) - (k + 1) < nG (Ns z) - k; omega)
set_option maxRecDepth 20000 in
theorem inX12_idle_12 : ∀ w ∈ u_ws RX12 TX12 23, w ∈ wsX12_idle := by decide +kernel
set_option maxHeartbeats 4000000 in
set_option maxRecDepth 100000 in
/-- idle -/
theorem c_X12_idle (l : Launch) (G : GG) (a : Nat → Nat) (ha : Inj a) (cy th : Int32) (Ns : Nat → NT) (z : Nat) (fs sc : FN) (m0 : FN) (hz : z < 4) (hN : WF (Ns z)) (hFS : FS Ns fs sc)  : Met l yX12_idle wsX12_idle ({ frames := 0, cells := 0, slots := 0, locals := 0 } : Room) (PcB G [.ref (a 93), .int (nI z)] (fun H => PP G (modO a cy th) H ∧ PP G (sixW G a Ns fs sc) H ∧ PP G (twoW G a Ns) H ∧ PP G (ar1 G a 106 120 m0) H)) (QI (fun (r : Int32) (u : FN) => r = nI (idT (Ns z) (mbD (Ns z) (ouT (Ns z) (nO (Ns z))) (nG (Ns z))) (nG (Ns z)))) (fun u H => PP G (ar1 G a 106 120 u) H) (rng a 106 1)) 0 0 (rng a 106 1) := by
  refine Met.ofW (cc := cX12_idle) (maxL := 5) (ret := (some .int)) (by decide) rfl ?_
  intro p e s m args below meth c s₁ B hml hv
  obtain ⟨rfl, hB, hK, hNW⟩ := hv
  have hx := B.exec
  have hb := B.bytes
  have hr := B.returns
  have hts := atoms_spec (ws := wsX12_idle) B.pre
  have hown : s.vm.findClass RX12 = some m.cls := findClass_of_methodNamed B.named
  have hlocks := B.notSynchronized
  have FX : CallFix p m c cX12_idle 5 s ([.ref (a 93), .int (nI z)] : List Value).toArray wsX12_idle RX12 := ⟨hx, hb, hml, hown, hts⟩
  have hl := lv_entry ([.ref (a 93), .int (nI z)]) (n := 5) (Nat.le_of_ble_eq_true rfl)
  rw [lg_entry_eq]
  generalize (lg_sl ([.ref (a 93), .int (nI z)]) ++ List.replicate (5 - (lg_sl ([.ref (a 93), .int (nI z)])).length) Slot.unset).toArray = ls at hl ⊢
  have hl : lv_has ls 5 [(0, .ref (a 93)), (1, .int (nI z))] := hl
  obtain ⟨h_o, h_x, h_y, h_marks⟩ := hB
  have hS : va_S (rng a 106 1) s.heap s.heap [] := va_S.rf
  have hg9 := hN.g
  have ho9 := hN.o
  have hi9 := hN.2.1
  refine lv_iconst (v := nI 0) hx hb dX12_idle_0 (by decide) ?_
  refine lv_istore_n (lv' := [(2, .int (nI 0)), (0, .ref (a 93)), (1, .int (nI z))]) hx hb dX12_idle_1 rfl hl (by decide) rfl (fun ls hl => ?_)
  refine lv_loop2 2 (fun (k : Nat) (mf : FN) => nG (Ns z) - k) (fun (k : Nat) (mf : FN) (H : Heap) (locs : List Loc) (ls : Array Slot) => (PP G (ar1 G a 106 120 mf) H) ∧ (va_S (rng a 106 1) s.heap H locs) ∧ (lv_has ls 5 [(0, .ref (a 93)), (1, .int (nI z)), (2, .int (nI k))]) ∧ (k ≤ nG (Ns z)) ∧ (∀ r, r < k → mf r = nI 0)) (fun _ _ => []) (fun k mf H locs ls hI ih => ?_) 0 m0 ⟨h_marks, hS, lv_sub hl [1, 2, 0] rfl, by omega, fun r h => absurd h (Nat.not_lt_zero r)⟩ rfl
  obtain ⟨h_marks, hS, hl, hk, hm⟩ := hI
  have ih1 := @ih
  clear ih
  refine lv_iload_n hx hb dX12_idle_2 rfl (lv_at hl 2 rfl) ?_
  refine lv_aload_n hx hb dX12_idle_3 rfl (lv_at hl 0 rfl) ?_
  refine va_get (D := G.1) (ci := 12) (v := .ref (a 98)) (C := RX12) (T := TX12) (N := 23) hx hb hts inX12_idle_12 hown hK (ro hS h_o (dj_cons (rng_no ha (by omega)) (dj_nil))) 0 rfl rfl 4 (by decide) (hts (.fieldLink RX12 22 "GateLedgerModel" "many" "[I") (List.mem_of_getElem? (i := 1) (by decide +kernel))) (fun _ h9 => h9) rfl dX12_idle_4 ?_
  refine lv_iload_n hx hb dX12_idle_7 rfl (lv_at hl 1 rfl) ?_
  refine pp_iald hx hb hK (ro hS h_x (dj_cons (rng_no ha (by omega)) (dj_cons (rng_no ha (by omega)) (dj_cons (rng_no ha (by omega)) (dj_cons (rng_no ha (by omega)) (dj_cons (rng_no ha (by omega)) (dj_cons (rng_no ha (by omega)) (dj_nil)))))))) 4 rfl (vp_in_nI (by omega) (by omega)) dX12_idle_8 ?_
  refine lv_as (congrArg (MF Ns) (nI_clamp (by omega))) ?_
  refine lv_as (y := nI (nG (Ns z))) rfl ?_
  refine lv_icmp_ge (tgt := 25) hx hb dX12_idle_9 (by decide) (fun c9 => ?_) (fun c9 => ?_)
  · skip
    have c9 := cv_le (by omega) (by omega) c9
    refine lv_iconst (v := nI 0) hx hb dX12_idle_25 (by decide) ?_
    refine lv_istore_n (lv' := [(2, .int (nI 0)), (0, .ref (a 93)), (1, .int (nI z))]) hx hb dX12_idle_26 rfl hl (by decide) rfl (fun ls hl => ?_)
    refine lv_loop2 27 (fun (q : Nat) (mf : FN) => nO (Ns z) - q) (fun (q : Nat) (mf : FN) (H : Heap) (locs : List Loc) (ls : Array Slot) => (PP G (ar1 G a 106 120 mf) H) ∧ (va_S (rng a 106 1) s.heap H locs) ∧ (lv_has ls 5 [(0, .ref (a 93)), (1, .int (nI z)), (2, .int (nI q))]) ∧ (q ≤ nO (Ns z)) ∧ (∀ r, r < nG (Ns z) → mf r = bi (ouT (Ns z) q r))) (fun _ _ => []) (fun q mf H locs ls hI ih => ?_) 0 mf ⟨h_marks, hS, lv_sub hl [1, 2, 0] rfl, by omega, fun r h => hm r (by omega)⟩ rfl
    obtain ⟨h_marks, hS, hl, hq, hm3⟩ := hI
    have ih2 := @ih
    clear ih
    refine lv_iload_n hx hb dX12_idle_27 rfl (lv_at hl 2 rfl) ?_
    refine lv_aload_n hx hb dX12_idle_28 rfl (lv_at hl 0 rfl) ?_
    refine va_get (D := G.1) (ci := 12) (v := .ref (a 101)) (C := RX12) (T := TX12) (N := 23) hx hb hts inX12_idle_12 hown hK (ro hS h_o (dj_cons (rng_no ha (by omega)) (dj_nil))) 0 rfl rfl 7 (by decide) (hts (.fieldLink RX12 31 "GateLedgerModel" "outMany" "[I") (List.mem_of_getElem? (i := 3) (by decide +kernel))) (fun _ h9 => h9) rfl dX12_idle_29 ?_
    refine lv_iload_n hx hb dX12_idle_32 rfl (lv_at hl 1 rfl) ?_
    refine pp_iald hx hb hK (ro hS h_y (dj_cons (rng_no ha (by omega)) (dj_cons (rng_no ha (by omega)) (dj_nil)))) 1 rfl (vp_in_nI (by omega) (by omega)) dX12_idle_33 ?_
    refine lv_as (congrArg (OF Ns) (nI_clamp (by omega))) ?_
    refine lv_as (y := nI (nO (Ns z))) rfl ?_
    refine lv_icmp_ge (tgt := 60) hx hb dX12_idle_34 (by decide) (fun c34 => ?_) (fun c34 => ?_)
    · skip
      have c34 := cv_le (by omega) (by omega) c34
      refine lv_iconst (v := nI 0) hx hb dX12_idle_60 (by decide) ?_
      refine lv_istore_n (lv' := [(2, .int (nI 0)), (0, .ref (a 93)), (1, .int (nI z))]) hx hb dX12_idle_61 rfl hl (by decide) rfl (fun ls hl => ?_)
      refine lv_aload_n hx hb dX12_idle_62 rfl (lv_at hl 1 rfl) ?_
      refine va_get (D := G.1) (ci := 12) (v := .ref (a 98)) (C := RX12) (T := TX12) (N := 23) hx hb hts inX12_idle_12 hown hK (ro hS h_o (dj_cons (rng_no ha (by omega)) (dj_nil))) 0 rfl rfl 4 (by decide) (hts (.fieldLink RX12 22 "GateLedgerModel" "many" "[I") (List.mem_of_getElem? (i := 1) (by decide +kernel))) (fun _ h9 => h9) rfl dX12_idle_63 ?_
      refine lv_iload_n hx hb dX12_idle_66 rfl (lv_at hl 2 rfl) ?_
      refine pp_iald hx hb hK (ro hS h_x (dj_cons (rng_no ha (by omega)) (dj_cons (rng_no ha (by omega)) (dj_cons (rng_no ha (by omega)) (dj_cons (rng_no ha (by omega)) (dj_cons (rng_no ha (by omega)) (dj_cons (rng_no ha (by omega)) (dj_nil)))))))) 4 rfl (vp_in_nI (by omega) (by omega)) dX12_idle_67 ?_
      refine lv_as (congrArg (MF Ns) (nI_clamp (by omega))) ?_
      refine lv_as (y := nI (nG (Ns z))) rfl ?_
      refine lv_iconst (v := nI 1) hx hb dX12_idle_68 (by decide) ?_
      refine lv_isub hx hb dX12_idle_69 ?_
      refine lv_istore_n (lv' := [(3, .int ((nI (nG (Ns z))) - (nI 1))), (2, .int (nI 0)), (0, .ref (a 93)), (1, .int (nI z))]) hx hb dX12_idle_70 rfl hl (by decide) rfl (fun ls hl => ?_)
      refine lv_loop3 71 (fun (n : Nat) (mf : FN) (F : Nat → Bool) => n) (fun (n : Nat) (mf : FN) (F : Nat → Bool) (H : Heap) (locs : List Loc) (ls : Array Slot) => (PP G (ar1 G a 106 120 mf) H) ∧ (va_S (rng a 106 1) s.heap H locs) ∧ (lv_has ls 5 [(0, .ref (a 93)), (1, .int (nI z)), (2, .int (nI (idT (Ns z) (mbD (Ns z) (ouT (Ns z) (nO (Ns z))) (nG (Ns z))) (nG (Ns z)) - idT (Ns z) (mbD (Ns z) (ouT (Ns z) (nO (Ns z))) (nG (Ns z))) n))), (3, .int (nI n - nI 1))]) ∧ (n ≤ nG (Ns z)) ∧ (∀ r, r < nG (Ns z) → mf r = bi (F r)) ∧ (mbD (Ns z) F n = (mbD (Ns z) (ouT (Ns z) (nO (Ns z))) (nG (Ns z))))) (fun _ _ _ => []) (fun n mf F H locs ls hI ih => ?_) (nG (Ns z)) mf (ouT (Ns z) (nO (Ns z))) ⟨h_marks, hS, (by rw [show idT (Ns z) (mbD (Ns z) (ouT (Ns z) (nO (Ns z))) (nG (Ns z))) (nG (Ns z)) - idT (Ns z) (mbD (Ns z) (ouT (Ns z) (nO (Ns z))) (nG (Ns z))) (nG (Ns z)) = 0 from Nat.sub_self _]; exact lv_sub hl [2, 3, 1, 0] rfl), by omega, fun r h => by rw [hm3 r h, show q = nO (Ns z) by omega], rfl⟩ rfl
      obtain ⟨h_marks, hS, hl, hn, hm5, hF⟩ := hI
      have ih3 := @ih
      clear ih
      refine lv_iload_n hx hb dX12_idle_71 rfl (lv_at hl 3 rfl) ?_
      refine lv_if_lt (tgt := 159) hx hb dX12_idle_72 (by decide) (fun c72 => ?_) (fun c72 => ?_)
      · skip
        refine lv_iload_n hx hb dX12_idle_159 rfl (lv_at hl 2 rfl) ?_
        exact en_wi mf hx hb hr hlocks hS (by rw [dn_lt (by omega) c72]; rfl) h_marks dX12_idle_160
      · skip
        obtain ⟨v, hv⟩ := dn_ge c72
        subst hv
        rw [dn_pred] at hl
        have hl : lv_has ls 5 [(0, .ref (a 93)), (1, .int (nI z)), (2, .int (nI (idT (Ns z) (mbD (Ns z) (ouT (Ns z) (nO (Ns z))) (nG (Ns z))) (nG (Ns z)) - idT (Ns z) (mbD (Ns z) (ouT (Ns z) (nO (Ns z))) (nG (Ns z))) (v + 1)))), (3, .int (nI v))] := hl
        have hfv := mb_at hN (by omega) hF
        have hid := idT_le (Ns z) (mbD (Ns z) (ouT (Ns z) (nO (Ns z))) (nG (Ns z))) (nG (Ns z))
        have hk4 := hN.k (k := v) (by omega)
        have him : idT (Ns z) (mbD (Ns z) (ouT (Ns z) (nO (Ns z))) (nG (Ns z))) (v + 1) ≤ idT (Ns z) (mbD (Ns z) (ouT (Ns z) (nO (Ns z))) (nG (Ns z))) (nG (Ns z)) := idT_mono _ _ (by omega)
        refine lv_bipush (v := nI 120) hx hb dX12_idle_75 (by decide) ?_
        refine lv_iload_n hx hb dX12_idle_77 rfl (lv_at hl 1 rfl) ?_
        refine lv_imul hx hb dX12_idle_78 ?_
        refine lv_as (pk_mul _ _) ?_
        refine lv_iload_n hx hb dX12_idle_79 rfl (lv_at hl 3 rfl) ?_
        refine lv_iadd hx hb dX12_idle_80 ?_
        refine lv_as (nI_add _ _) ?_
        refine lv_istore (lv' := [(4, .int (nI ((120 * z) + v))), (0, .ref (a 93)), (1, .int (nI z)), (2, .int (nI (idT (Ns z) (mbD (Ns z) (ouT (Ns z) (nO (Ns z))) (nG (Ns z))) (nG (Ns z)) - idT (Ns z) (mbD (Ns z) (ouT (Ns z) (nO (Ns z))) (nG (Ns z))) (v + 1)))), (3, .int (nI v))]) hx hb dX12_idle_81 hl (by decide) rfl (fun ls hl => ?_)
        refine lv_aload_n hx hb dX12_idle_83 rfl (lv_at hl 1 rfl) ?_
        refine va_get (D := G.1) (ci := 12) (v := .ref (a 94)) (C := RX12) (T := TX12) (N := 23) hx hb hts inX12_idle_12 hown hK (ro hS h_o (dj_cons (rng_no ha (by omega)) (dj_nil))) 0 rfl rfl 0 (by decide) (hts (.fieldLink RX12 7 "GateLedgerModel" "kind" "[I") (List.mem_of_getElem? (i := 5) (by decide +kernel))) (fun _ h9 => h9) rfl dX12_idle_84 ?_
        refine lv_iload hx hb dX12_idle_87 (lv_at hl 0 rfl) ?_
        refine pp_iald hx hb hK (ro hS h_x (dj_cons (rng_no ha (by omega)) (dj_cons (rng_no ha (by omega)) (dj_cons (rng_no ha (by omega)) (dj_cons (rng_no ha (by omega)) (dj_cons (rng_no ha (by omega)) (dj_cons (rng_no ha (by omega)) (dj_nil)))))))) 0 rfl (vp_in_nI (by omega) (by omega)) dX12_idle_89 ?_
        refine lv_as (congrArg (KF Ns) (nI_clamp (by omega))) ?_
        refine lv_as (y := nI (nK (Ns z) v)) (KF_at (by omega)) ?_
        refine lv_iconst (v := nI 4) hx hb dX12_idle_90 (by decide) ?_
        refine lv_icmp_eq (tgt := 153) hx hb dX12_idle_91 (by decide) (fun c91 => ?_) (fun c91 => ?_)
        · skip
          have c91 := cv_eq (by omega) (by omega) c91
          refine lv_iinc (v := nI v - nI 1) (lv' := [(3, .int (nI v - nI 1)), (4, .int (nI ((120 * z) + v))), (0, .ref (a 93)), (1, .int (nI z)), (2, .int (nI (idT (Ns z) (mbD (Ns z) (ouT (Ns z) (nO (Ns z))) (nG (Ns z))) (nG (Ns z)) - idT (Ns z) (mbD (Ns z) (ouT (Ns z) (nO (Ns z))) (nG (Ns z))) (v + 1))))]) hx hb dX12_idle_153 hl (k := 4) rfl (dn_iinc v) (by decide) rfl (fun ls hl => ?_)
          refine lv_goto (tgt := 71) hx hb dX12_idle_156 (by decide) ?_
          exact ih3 v mf (mbS (Ns z) v F) _ _ _ ⟨h_marks, hS, (by rw [show idT (Ns z) (mbD (Ns z) (ouT (Ns z) (nO (Ns z))) (nG (Ns z))) (nG (Ns z)) - idT (Ns z) (mbD (Ns z) (ouT (Ns z) (nO (Ns z))) (nG (Ns z))) v = idT (Ns z) (mbD (Ns z) (ouT (Ns z) (nO (Ns z))) (nG (Ns z))) (nG (Ns z)) - idT (Ns z) (mbD (Ns z) (ouT (Ns z) (nO (Ns z))) (nG (Ns z))) (v + 1) by rw [idT_n (fun q => q.1 c91)]]; exact lv_sub hl [2, 3, 4, 0] rfl), by omega, fun r h => by rw [mb_4 c91]; exact hm5 r h, hF⟩ (by show v < v + 1; omega)
        · skip
          have c91 := cv_ne (by omega) (by omega) c91
          have hfs := hN.fs (show v < nG (Ns z) by omega) c91
          refine lv_iload_n hx hb dX12_idle_94 rfl (lv_at hl 3 rfl) ?_
          refine lv_aload_n hx hb dX12_idle_95 rfl (lv_at hl 1 rfl) ?_
          refine va_get (D := G.1) (ci := 12) (v := .ref (a 106)) (C := RX12) (T := TX12) (N := 23) hx hb hts inX12_idle_12 hown hK (ro hS h_o (dj_cons (rng_no ha (by omega)) (dj_nil))) 0 rfl rfl 12 (by decide) (hts (.fieldLink RX12 46 "GateLedgerModel" "marks" "[I") (List.mem_of_getElem? (i := 2) (by decide +kernel))) (fun _ h9 => h9) rfl dX12_idle_96 ?_
          refine lv_iload_n hx hb dX12_idle_99 rfl (lv_at hl 4 rfl) ?_
          refine pp_iald hx hb hK h_marks 0 rfl (vp_in_nI (by omega) (by omega)) dX12_idle_100 ?_
          refine lv_as (congrArg mf (nI_clamp (by omega))) ?_
          refine lv_as (y := bi (F v)) (hm5 _ (by omega)) ?_
          refine lv_if_ne (tgt := 108) hx hb dX12_idle_101 (by decide) (fun c101 => ?_) (fun c101 => ?_)
          · skip
            have hft : F v = true := bi_t c101
            refine lv_iconst (v := nI 0) hx hb dX12_idle_108 (by decide) ?_
            refine lv_iadd hx hb dX12_idle_109 ?_
            refine lv_as (nI_add _ _) ?_
            refine lv_istore_n (lv' := [(2, .int (nI ((idT (Ns z) (mbD (Ns z) (ouT (Ns z) (nO (Ns z))) (nG (Ns z))) (nG (Ns z)) - idT (Ns z) (mbD (Ns z) (ouT (Ns z) (nO (Ns z))) (nG (Ns z))) (v + 1)) + 0))), (4, .int (nI ((120 * z) + v))), (0, .ref (a 93)), (1, .int (nI z)), (3, .int (nI v))]) hx hb dX12_idle_110 rfl hl (by decide) rfl (fun ls hl => ?_)
            refine lv_aload_n hx hb dX12_idle_111 rfl (lv_at hl 2 rfl) ?_
            refine va_get (D := G.1) (ci := 12) (v := .ref (a 106)) (C := RX12) (T := TX12) (N := 23) hx hb hts inX12_idle_12 hown hK (ro hS h_o (dj_cons (rng_no ha (by omega)) (dj_nil))) 0 rfl rfl 12 (by decide) (hts (.fieldLink RX12 46 "GateLedgerModel" "marks" "[I") (List.mem_of_getElem? (i := 2) (by decide +kernel))) (fun _ h9 => h9) rfl dX12_idle_112 ?_
            refine lv_aload_n hx hb dX12_idle_115 rfl (lv_at hl 2 rfl) ?_
            refine va_get (D := G.1) (ci := 12) (v := .ref (a 95)) (C := RX12) (T := TX12) (N := 23) hx hb hts inX12_idle_12 hown hK (ro hS h_o (dj_cons (rng_no ha (by omega)) (dj_nil))) 0 rfl rfl 1 (by decide) (hts (.fieldLink RX12 13 "GateLedgerModel" "first" "[I") (List.mem_of_getElem? (i := 6) (by decide +kernel))) (fun _ h9 => h9) rfl dX12_idle_116 ?_
            refine lv_iload hx hb dX12_idle_119 (lv_at hl 1 rfl) ?_
            refine pp_iald hx hb hK (ro hS h_x (dj_cons (rng_no ha (by omega)) (dj_cons (rng_no ha (by omega)) (dj_cons (rng_no ha (by omega)) (dj_cons (rng_no ha (by omega)) (dj_cons (rng_no ha (by omega)) (dj_cons (rng_no ha (by omega)) (dj_nil)))))))) 1 rfl (vp_in_nI (by omega) (by omega)) dX12_idle_121 ?_
            refine lv_as (congrArg fs (nI_clamp (by omega))) ?_
            refine lv_as (y := nI (nF (Ns z) v)) ((hFS z hz v (by omega) (by omega) c91).1) ?_
            refine lv_dup2_11 hx hb dX12_idle_122 rfl rfl ?_
            refine pp_iald hx hb hK h_marks 0 rfl (vp_in_nI (by omega) (by omega)) dX12_idle_123 ?_
            refine lv_as (congrArg mf (nI_clamp (by omega))) ?_
            refine lv_as (y := bi (F (nF (Ns z) v))) (hm5 _ (by omega)) ?_
            refine lv_aload_n hx hb dX12_idle_124 rfl (lv_at hl 2 rfl) ?_
            refine va_get (D := G.1) (ci := 12) (v := .ref (a 106)) (C := RX12) (T := TX12) (N := 23) hx hb hts inX12_idle_12 hown hK (ro hS h_o (dj_cons (rng_no ha (by omega)) (dj_nil))) 0 rfl rfl 12 (by decide) (hts (.fieldLink RX12 46 "GateLedgerModel" "marks" "[I") (List.mem_of_getElem? (i := 2) (by decide +kernel))) (fun _ h9 => h9) rfl dX12_idle_125 ?_
            refine lv_iload_n hx hb dX12_idle_128 rfl (lv_at hl 4 rfl) ?_
            refine pp_iald hx hb hK h_marks 0 rfl (vp_in_nI (by omega) (by omega)) dX12_idle_129 ?_
            refine lv_as (congrArg mf (nI_clamp (by omega))) ?_
            refine lv_as (y := bi true) ((hm5 _ (by omega)).trans (congrArg bi hft)) ?_
            refine lv_ior hx hb dX12_idle_130 ?_
            refine lv_as (y := bi (F (nF (Ns z) v) || true)) jn_or ?_
            refine pp_iast hx hb hK h_marks hS (rng_in (by omega)) (vp_in_nI (by omega) (by omega)) dX12_idle_131 (fun H locs hP9 hk4 _ hS => ?_)
            rw [nI_clamp (by omega)] at hP9
            have h_marks : PP G (ar1 G a 106 120 (upd mf (nF (Ns z) v) (bi (F (nF (Ns z) v) || true)))) H := hP9
            have hm6 : ∀ r, r < nG (Ns z) → (upd mf (nF (Ns z) v) (bi (F (nF (Ns z) v) || true))) r = bi ((setT F (nF (Ns z) v)) r) := or_t hm5
            refine lv_aload_n hx hb dX12_idle_132 rfl (lv_at hl 2 rfl) ?_
            refine va_get (D := G.1) (ci := 12) (v := .ref (a 106)) (C := RX12) (T := TX12) (N := 23) hx hb hts inX12_idle_12 hown hK (ro hS h_o (dj_cons (rng_no ha (by omega)) (dj_nil))) 0 rfl rfl 12 (by decide) (hts (.fieldLink RX12 46 "GateLedgerModel" "marks" "[I") (List.mem_of_getElem? (i := 2) (by decide +kernel))) (fun _ h9 => h9) rfl dX12_idle_133 ?_
            refine lv_aload_n hx hb dX12_idle_136 rfl (lv_at hl 2 rfl) ?_
            refine va_get (D := G.1) (ci := 12) (v := .ref (a 96)) (C := RX12) (T := TX12) (N := 23) hx hb hts inX12_idle_12 hown hK (ro hS h_o (dj_cons (rng_no ha (by omega)) (dj_nil))) 0 rfl rfl 2 (by decide) (hts (.fieldLink RX12 16 "GateLedgerModel" "second" "[I") (List.mem_of_getElem? (i := 7) (by decide +kernel))) (fun _ h9 => h9) rfl dX12_idle_137 ?_
            refine lv_iload hx hb dX12_idle_140 (lv_at hl 1 rfl) ?_
            refine pp_iald hx hb hK (ro hS h_x (dj_cons (rng_no ha (by omega)) (dj_cons (rng_no ha (by omega)) (dj_cons (rng_no ha (by omega)) (dj_cons (rng_no ha (by omega)) (dj_cons (rng_no ha (by omega)) (dj_cons (rng_no ha (by omega)) (dj_nil)))))))) 2 rfl (vp_in_nI (by omega) (by omega)) dX12_idle_142 ?_
            refine lv_as (congrArg sc (nI_clamp (by omega))) ?_
            refine lv_as (y := nI (nS (Ns z) v)) ((hFS z hz v (by omega) (by omega) c91).2) ?_
            refine lv_dup2_11 hx hb dX12_idle_143 rfl rfl ?_
            refine pp_iald hx hb hK h_marks 0 rfl (vp_in_nI (by omega) (by omega)) dX12_idle_144 ?_
            refine lv_as (congrArg (upd mf (nF (Ns z) v) (bi (F (nF (Ns z) v) || true))) (nI_clamp (by omega))) ?_
            refine lv_as (y := bi ((setT F (nF (Ns z) v)) (nS (Ns z) v))) (hm6 _ (by omega)) ?_
            refine lv_aload_n hx hb dX12_idle_145 rfl (lv_at hl 2 rfl) ?_
            refine va_get (D := G.1) (ci := 12) (v := .ref (a 106)) (C := RX12) (T := TX12) (N := 23) hx hb hts inX12_idle_12 hown hK (ro hS h_o (dj_cons (rng_no ha (by omega)) (dj_nil))) 0 rfl rfl 12 (by decide) (hts (.fieldLink RX12 46 "GateLedgerModel" "marks" "[I") (List.mem_of_getElem? (i := 2) (by decide +kernel))) (fun _ h9 => h9) rfl dX12_idle_146 ?_
            refine lv_iload_n hx hb dX12_idle_149 rfl (lv_at hl 4 rfl) ?_
            refine pp_iald hx hb hK h_marks 0 rfl (vp_in_nI (by omega) (by omega)) dX12_idle_150 ?_
            refine lv_as (congrArg (upd mf (nF (Ns z) v) (bi (F (nF (Ns z) v) || true))) (nI_clamp (by omega))) ?_
            refine lv_as (y := bi true) ((hm6 _ (by omega)).trans (congrArg bi ((show setT F (nF (Ns z) v) v = F v from if_neg (by omega)).trans hft))) ?_
            refine lv_ior hx hb dX12_idle_151 ?_
            refine lv_as (y := bi ((setT F (nF (Ns z) v)) (nS (Ns z) v) || true)) jn_or ?_
            refine pp_iast hx hb hK h_marks hS (rng_in (by omega)) (vp_in_nI (by omega) (by omega)) dX12_idle_152 (fun H locs hP9 hk5 _ hS => ?_)
            rw [nI_clamp (by omega)] at hP9
            have h_marks : PP G (ar1 G a 106 120 (upd (upd mf (nF (Ns z) v) (bi (F (nF (Ns z) v) || true))) (nS (Ns z) v) (bi ((setT F (nF (Ns z) v)) (nS (Ns z) v) || true)))) H := hP9
            have hm8 : ∀ r, r < nG (Ns z) → (upd (upd mf (nF (Ns z) v) (bi (F (nF (Ns z) v) || true))) (nS (Ns z) v) (bi ((setT F (nF (Ns z) v)) (nS (Ns z) v) || true))) r = bi ((setT (setT F (nF (Ns z) v)) (nS (Ns z) v)) r) := or_t hm6
            refine lv_iinc (v := nI v - nI 1) (lv' := [(3, .int (nI v - nI 1)), (2, .int (nI ((idT (Ns z) (mbD (Ns z) (ouT (Ns z) (nO (Ns z))) (nG (Ns z))) (nG (Ns z)) - idT (Ns z) (mbD (Ns z) (ouT (Ns z) (nO (Ns z))) (nG (Ns z))) (v + 1)) + 0))), (4, .int (nI ((120 * z) + v))), (0, .ref (a 93)), (1, .int (nI z))]) hx hb dX12_idle_153 hl (k := 4) rfl (dn_iinc v) (by decide) rfl (fun ls hl => ?_)
            refine lv_goto (tgt := 71) hx hb dX12_idle_156 (by decide) ?_
            exact ih3 v (upd (upd mf (nF (Ns z) v) (bi (F (nF (Ns z) v) || true))) (nS (Ns z) v) (bi ((setT F (nF (Ns z) v)) (nS (Ns z) v) || true))) (mbS (Ns z) v F) _ _ _ ⟨h_marks, hS, (by rw [show idT (Ns z) (mbD (Ns z) (ouT (Ns z) (nO (Ns z))) (nG (Ns z))) (nG (Ns z)) - idT (Ns z) (mbD (Ns z) (ouT (Ns z) (nO (Ns z))) (nG (Ns z))) v = idT (Ns z) (mbD (Ns z) (ouT (Ns z) (nO (Ns z))) (nG (Ns z))) (nG (Ns z)) - idT (Ns z) (mbD (Ns z) (ouT (Ns z) (nO (Ns z))) (nG (Ns z))) (v + 1) + 0 by rw [idT_n (fun q => absurd (hfv.symm.trans q.2) (by rw [hft]; decide))]; rfl]; exact lv_sub hl [3, 4, 1, 0] rfl), by omega, fun r h => by rw [mb_t hft c91]; exact hm8 r h, hF⟩ (by show v < v + 1; omega)
          · skip
            have hft : F v = false := bi_f c101
            refine lv_iconst (v := nI 1) hx hb dX12_idle_104 (by decide) ?_
            refine lv_goto (tgt := 109) hx hb dX12_idle_105 (by decide) ?_
            refine lv_iadd hx hb dX12_idle_109 ?_
            refine lv_as (nI_add _ _) ?_
            refine lv_istore_n (lv' := [(2, .int (nI ((idT (Ns z) (mbD (Ns z) (ouT (Ns z) (nO (Ns z))) (nG (Ns z))) (nG (Ns z)) - idT (Ns z) (mbD (Ns z) (ouT (Ns z) (nO (Ns z))) (nG (Ns z))) (v + 1)) + 1))), (4, .int (nI ((120 * z) + v))), (0, .ref (a 93)), (1, .int (nI z)), (3, .int (nI v))]) hx hb dX12_idle_110 rfl hl (by decide) rfl (fun ls hl => ?_)
            refine lv_aload_n hx hb dX12_idle_111 rfl (lv_at hl 2 rfl) ?_
            refine va_get (D := G.1) (ci := 12) (v := .ref (a 106)) (C := RX12) (T := TX12) (N := 23) hx hb hts inX12_idle_12 hown hK (ro hS h_o (dj_cons (rng_no ha (by omega)) (dj_nil))) 0 rfl rfl 12 (by decide) (hts (.fieldLink RX12 46 "GateLedgerModel" "marks" "[I") (List.mem_of_getElem? (i := 2) (by decide +kernel))) (fun _ h9 => h9) rfl dX12_idle_112 ?_
            refine lv_aload_n hx hb dX12_idle_115 rfl (lv_at hl 2 rfl) ?_
            refine va_get (D := G.1) (ci := 12) (v := .ref (a 95)) (C := RX12) (T := TX12) (N := 23) hx hb hts inX12_idle_12 hown hK (ro hS h_o (dj_cons (rng_no ha (by omega)) (dj_nil))) 0 rfl rfl 1 (by decide) (hts (.fieldLink RX12 13 "GateLedgerModel" "first" "[I") (List.mem_of_getElem? (i := 6) (by decide +kernel))) (fun _ h9 => h9) rfl dX12_idle_116 ?_
            refine lv_iload hx hb dX12_idle_119 (lv_at hl 1 rfl) ?_
            refine pp_iald hx hb hK (ro hS h_x (dj_cons (rng_no ha (by omega)) (dj_cons (rng_no ha (by omega)) (dj_cons (rng_no ha (by omega)) (dj_cons (rng_no ha (by omega)) (dj_cons (rng_no ha (by omega)) (dj_cons (rng_no ha (by omega)) (dj_nil)))))))) 1 rfl (vp_in_nI (by omega) (by omega)) dX12_idle_121 ?_
            refine lv_as (congrArg fs (nI_clamp (by omega))) ?_
            refine lv_as (y := nI (nF (Ns z) v)) ((hFS z hz v (by omega) (by omega) c91).1) ?_
            refine lv_dup2_11 hx hb dX12_idle_122 rfl rfl ?_
            refine pp_iald hx hb hK h_marks 0 rfl (vp_in_nI (by omega) (by omega)) dX12_idle_123 ?_
            refine lv_as (congrArg mf (nI_clamp (by omega))) ?_
            refine lv_as (y := bi (F (nF (Ns z) v))) (hm5 _ (by omega)) ?_
            refine lv_aload_n hx hb dX12_idle_124 rfl (lv_at hl 2 rfl) ?_
            refine va_get (D := G.1) (ci := 12) (v := .ref (a 106)) (C := RX12) (T := TX12) (N := 23) hx hb hts inX12_idle_12 hown hK (ro hS h_o (dj_cons (rng_no ha (by omega)) (dj_nil))) 0 rfl rfl 12 (by decide) (hts (.fieldLink RX12 46 "GateLedgerModel" "marks" "[I") (List.mem_of_getElem? (i := 2) (by decide +kernel))) (fun _ h9 => h9) rfl dX12_idle_125 ?_
            refine lv_iload_n hx hb dX12_idle_128 rfl (lv_at hl 4 rfl) ?_
            refine pp_iald hx hb hK h_marks 0 rfl (vp_in_nI (by omega) (by omega)) dX12_idle_129 ?_
            refine lv_as (congrArg mf (nI_clamp (by omega))) ?_
            refine lv_as (y := bi false) ((hm5 _ (by omega)).trans (congrArg bi hft)) ?_
            refine lv_ior hx hb dX12_idle_130 ?_
            refine lv_as (y := bi (F (nF (Ns z) v) || false)) jn_or ?_
            refine pp_iast hx hb hK h_marks hS (rng_in (by omega)) (vp_in_nI (by omega) (by omega)) dX12_idle_131 (fun H locs hP9 hk6 _ hS => ?_)
            rw [nI_clamp (by omega)] at hP9
            have h_marks : PP G (ar1 G a 106 120 (upd mf (nF (Ns z) v) (bi (F (nF (Ns z) v) || false)))) H := hP9
            have hm6 : ∀ r, r < nG (Ns z) → (upd mf (nF (Ns z) v) (bi (F (nF (Ns z) v) || false))) r = bi (F r) := or_f hm5
            refine lv_aload_n hx hb dX12_idle_132 rfl (lv_at hl 2 rfl) ?_
            refine va_get (D := G.1) (ci := 12) (v := .ref (a 106)) (C := RX12) (T := TX12) (N := 23) hx hb hts inX12_idle_12 hown hK (ro hS h_o (dj_cons (rng_no ha (by omega)) (dj_nil))) 0 rfl rfl 12 (by decide) (hts (.fieldLink RX12 46 "GateLedgerModel" "marks" "[I") (List.mem_of_getElem? (i := 2) (by decide +kernel))) (fun _ h9 => h9) rfl dX12_idle_133 ?_
            refine lv_aload_n hx hb dX12_idle_136 rfl (lv_at hl 2 rfl) ?_
            refine va_get (D := G.1) (ci := 12) (v := .ref (a 96)) (C := RX12) (T := TX12) (N := 23) hx hb hts inX12_idle_12 hown hK (ro hS h_o (dj_cons (rng_no ha (by omega)) (dj_nil))) 0 rfl rfl 2 (by decide) (hts (.fieldLink RX12 16 "GateLedgerModel" "second" "[I") (List.mem_of_getElem? (i := 7) (by decide +kernel))) (fun _ h9 => h9) rfl dX12_idle_137 ?_
            refine lv_iload hx hb dX12_idle_140 (lv_at hl 1 rfl) ?_
            refine pp_iald hx hb hK (ro hS h_x (dj_cons (rng_no ha (by omega)) (dj_cons (rng_no ha (by omega)) (dj_cons (rng_no ha (by omega)) (dj_cons (rng_no ha (by omega)) (dj_cons (rng_no ha (by omega)) (dj_cons (rng_no ha (by omega)) (dj_nil)))))))) 2 rfl (vp_in_nI (by omega) (by omega)) dX12_idle_142 ?_
            refine lv_as (congrArg sc (nI_clamp (by omega))) ?_
            refine lv_as (y := nI (nS (Ns z) v)) ((hFS z hz v (by omega) (by omega) c91).2) ?_
            refine lv_dup2_11 hx hb dX12_idle_143 rfl rfl ?_
            refine pp_iald hx hb hK h_marks 0 rfl (vp_in_nI (by omega) (by omega)) dX12_idle_144 ?_
            refine lv_as (congrArg (upd mf (nF (Ns z) v) (bi (F (nF (Ns z) v) || false))) (nI_clamp (by omega))) ?_
            refine lv_as (y := bi (F (nS (Ns z) v))) (hm6 _ (by omega)) ?_
            refine lv_aload_n hx hb dX12_idle_145 rfl (lv_at hl 2 rfl) ?_
            refine va_get (D := G.1) (ci := 12) (v := .ref (a 106)) (C := RX12) (T := TX12) (N := 23) hx hb hts inX12_idle_12 hown hK (ro hS h_o (dj_cons (rng_no ha (by omega)) (dj_nil))) 0 rfl rfl 12 (by decide) (hts (.fieldLink RX12 46 "GateLedgerModel" "marks" "[I") (List.mem_of_getElem? (i := 2) (by decide +kernel))) (fun _ h9 => h9) rfl dX12_idle_146 ?_
            refine lv_iload_n hx hb dX12_idle_149 rfl (lv_at hl 4 rfl) ?_
            refine pp_iald hx hb hK h_marks 0 rfl (vp_in_nI (by omega) (by omega)) dX12_idle_150 ?_
            refine lv_as (congrArg (upd mf (nF (Ns z) v) (bi (F (nF (Ns z) v) || false))) (nI_clamp (by omega))) ?_
            refine lv_as (y := bi false) ((hm6 _ (by omega)).trans (congrArg bi (hft))) ?_
            refine lv_ior hx hb dX12_idle_151 ?_
            refine lv_as (y := bi (F (nS (Ns z) v) || false)) jn_or ?_
            refine pp_iast hx hb hK h_marks hS (rng_in (by omega)) (vp_in_nI (by omega) (by omega)) dX12_idle_152 (fun H locs hP9 hk7 _ hS => ?_)
            rw [nI_clamp (by omega)] at hP9
            have h_marks : PP G (ar1 G a 106 120 (upd (upd mf (nF (Ns z) v) (bi (F (nF (Ns z) v) || false))) (nS (Ns z) v) (bi (F (nS (Ns z) v) || false)))) H := hP9
            have hm8 : ∀ r, r < nG (Ns z) → (upd (upd mf (nF (Ns z) v) (bi (F (nF (Ns z) v) || false))) (nS (Ns z) v) (bi (F (nS (Ns z) v) || false))) r = bi (F r) := or_f hm6
            refine lv_iinc (v := nI v - nI 1) (lv' := [(3, .int (nI v - nI 1)), (2, .int (nI ((idT (Ns z) (mbD (Ns z) (ouT (Ns z) (nO (Ns z))) (nG (Ns z))) (nG (Ns z)) - idT (Ns z) (mbD (Ns z) (ouT (Ns z) (nO (Ns z))) (nG (Ns z))) (v + 1)) + 1))), (4, .int (nI ((120 * z) + v))), (0, .ref (a 93)), (1, .int (nI z))]) hx hb dX12_idle_153 hl (k := 4) rfl (dn_iinc v) (by decide) rfl (fun ls hl => ?_)
            refine lv_goto (tgt := 71) hx hb dX12_idle_156 (by decide) ?_
            exact ih3 v (upd (upd mf (nF (Ns z) v) (bi (F (nF (Ns z) v) || false))) (nS (Ns z) v) (bi (F (nS (Ns z) v) || false))) (mbS (Ns z) v F) _ _ _ ⟨h_marks, hS, (by rw [show idT (Ns z) (mbD (Ns z) (ouT (Ns z) (nO (Ns z))) (nG (Ns z))) (nG (Ns z)) - idT (Ns z) (mbD (Ns z) (ouT (Ns z) (nO (Ns z))) (nG (Ns z))) v = idT (Ns z) (mbD (Ns z) (ouT (Ns z) (nO (Ns z))) (nG (Ns z))) (nG (Ns z)) - idT (Ns z) (mbD (Ns z) (ouT (Ns z) (nO (Ns z))) (nG (Ns z))) (v + 1) + 1 by have h9 := idT_y (F := (mbD (Ns z) (ouT (Ns z) (nO (Ns z))) (nG (Ns z)))) c91 (hfv.trans hft); omega]; exact lv_sub hl [3, 4, 1, 0] rfl), by omega, fun r h => by rw [mb_f hft]; exact hm8 r h, hF⟩ (by show v < v + 1; omega)
    · skip
      have c34 := cv_nle (by omega) (by omega) c34
      have hu9 := hN.u c34
      refine lv_aload_n hx hb dX12_idle_37 rfl (lv_at hl 0 rfl) ?_
      refine va_get (D := G.1) (ci := 12) (v := .ref (a 106)) (C := RX12) (T := TX12) (N := 23) hx hb hts inX12_idle_12 hown hK (ro hS h_o (dj_cons (rng_no ha (by omega)) (dj_nil))) 0 rfl rfl 12 (by decide) (hts (.fieldLink RX12 46 "GateLedgerModel" "marks" "[I") (List.mem_of_getElem? (i := 2) (by decide +kernel))) (fun _ h9 => h9) rfl dX12_idle_38 ?_
      refine lv_aload_n hx hb dX12_idle_41 rfl (lv_at hl 0 rfl) ?_
      refine va_get (D := G.1) (ci := 12) (v := .ref (a 100)) (C := RX12) (T := TX12) (N := 23) hx hb hts inX12_idle_12 hown hK (ro hS h_o (dj_cons (rng_no ha (by omega)) (dj_nil))) 0 rfl rfl 6 (by decide) (hts (.fieldLink RX12 28 "GateLedgerModel" "outs" "[I") (List.mem_of_getElem? (i := 4) (by decide +kernel))) (fun _ h9 => h9) rfl dX12_idle_42 ?_
      refine lv_bipush (v := nI 16) hx hb dX12_idle_45 (by decide) ?_
      refine lv_iload_n hx hb dX12_idle_47 rfl (lv_at hl 1 rfl) ?_
      refine lv_imul hx hb dX12_idle_48 ?_
      refine lv_as (pk_mul _ _) ?_
      refine lv_iload_n hx hb dX12_idle_49 rfl (lv_at hl 2 rfl) ?_
      refine lv_iadd hx hb dX12_idle_50 ?_
      refine lv_as (nI_add _ _) ?_
      refine pp_iald hx hb hK (ro hS h_y (dj_cons (rng_no ha (by omega)) (dj_cons (rng_no ha (by omega)) (dj_nil)))) 0 rfl (vp_in_nI (by omega) (by omega)) dX12_idle_51 ?_
      refine lv_as (congrArg (UF Ns) (nI_clamp (by omega))) ?_
      refine lv_as (y := nI (nU (Ns z) q)) (UF_at (by omega)) ?_
      refine lv_iconst (v := nI 1) hx hb dX12_idle_52 (by decide) ?_
      refine pp_iast hx hb hK h_marks hS (rng_in (by omega)) (vp_in_nI (by omega) (by omega)) dX12_idle_53 (fun H locs hP9 hk8 _ hS => ?_)
      rw [nI_clamp (by omega)] at hP9
      have h_marks : PP G (ar1 G a 106 120 (upd mf (nU (Ns z) q) (nI 1))) H := hP9
      refine lv_iinc (v := nI (q + 1)) (lv' := [(2, .int (nI (q + 1))), (0, .ref (a 93)), (1, .int (nI z))]) hx hb dX12_idle_54 hl (k := 2) rfl (by first | exact nI_add _ 1 | decide) (by decide) rfl (fun ls hl => ?_)
      refine lv_goto (tgt := 27) hx hb dX12_idle_57 (by decide) ?_
      exact ih2 (q + 1) (upd mf (nU (Ns z) q) (nI 1)) _ _ _ ⟨h_marks, hS, lv_sub hl [1, 2, 0] rfl, by omega, set_bi hm3⟩ (by show nO (Ns z) - (q + 1) < nO (Ns z) - q; omega)
  · skip
    have c9 := cv_nle (by omega) (by omega) c9
    refine lv_aload_n hx hb dX12_idle_12 rfl (lv_at hl 0 rfl) ?_
    refine va_get (D := G.1) (ci := 12) (v := .ref (a 106)) (C := RX12) (T := TX12) (N := 23) hx hb hts inX12_idle_12 hown hK (ro hS h_o (dj_cons (rng_no ha (by omega)) (dj_nil))) 0 rfl rfl 12 (by decide) (hts (.fieldLink RX12 46 "GateLedgerModel" "marks" "[I") (List.mem_of_getElem? (i := 2) (by decide +kernel))) (fun _ h9 => h9) rfl dX12_idle_13 ?_
    refine lv_iload_n hx hb dX12_idle_16 rfl (lv_at hl 2 rfl) ?_
    refine lv_iconst (v := nI 0) hx hb dX12_idle_17 (by decide) ?_
    refine pp_iast hx hb hK h_marks hS (rng_in (by omega)) (vp_in_nI (by omega) (by omega)) dX12_idle_18 (fun H locs hP9 hk9 _ hS => ?_)
    rw [nI_clamp (by omega)] at hP9
    have h_marks : PP G (ar1 G a 106 120 (upd mf k (nI 0))) H := hP9
    refine lv_iinc (v := nI (k + 1)) (lv' := [(2, .int (nI (k + 1))), (0, .ref (a 93)), (1, .int (nI z))]) hx hb dX12_idle_19 hl (k := 2) rfl (by first | exact nI_add _ 1 | decide) (by decide) rfl (fun ls hl => ?_)
    refine lv_goto (tgt := 2) hx hb dX12_idle_22 (by decide) ?_
    exact ih1 (k + 1) (upd mf k (nI 0)) _ _ _ ⟨h_marks, hS, lv_sub hl [1, 2, 0] rfl, by omega, upd_fill (v := fun _ => nI 0) hm rfl⟩ (by show nG (Ns z) - (k + 1) < nG (Ns z) - k; omega)
set_option maxRecDepth 20000 in
theorem inX12_areaOf_12 : ∀ w ∈ u_ws RX12 TX12 23, w ∈ wsX12_areaOf := by decide +kernel
set_option maxHeartbeats 4000000 in
set_option maxRecDepth 100000 in
/-- areaOf -/
theorem c_X12_areaOf (l : Launch) (G : GG) (a : Nat → Nat) (cy th : Int32) (Ns : Nat → NT) (z : Nat) (fs sc : FN) (ar0 : Nat → Nat) (hz : z < 4) (hN : WF (Ns z)) : Met l yX12_areaOf wsX12_areaOf ({ frames := 0, cells := 0, slots := 0, locals := 0 } : Room) (PcB G [.ref (a 93), .int (nI z)] (fun H => PP G (modO a cy th) H ∧ PP G (sixW G a Ns fs sc) H ∧ PP G (ar1 G a 103 4 (fun z => nI (ar0 z))) H)) (vp_Si (fun r => r = nI (arT (Ns z) ar0 (nG (Ns z))))) 0 0 (fun _ => False) := by
  refine Met.ofW (cc := cX12_areaOf) (maxL := 5) (ret := (some .int)) (by decide) rfl ?_
  intro p e s m args below meth c s₁ B hml hv
  obtain ⟨rfl, hB, hK, hNW⟩ := hv
  have hx := B.exec
  have hb := B.bytes
  have hr := B.returns
  have hts := atoms_spec (ws := wsX12_areaOf) B.pre
  have hown : s.vm.findClass RX12 = some m.cls := findClass_of_methodNamed B.named
  have hlocks := B.notSynchronized
  have FX : CallFix p m c cX12_areaOf 5 s ([.ref (a 93), .int (nI z)] : List Value).toArray wsX12_areaOf RX12 := ⟨hx, hb, hml, hown, hts⟩
  have hl := lv_entry ([.ref (a 93), .int (nI z)]) (n := 5) (Nat.le_of_ble_eq_true rfl)
  rw [lg_entry_eq]
  generalize (lg_sl ([.ref (a 93), .int (nI z)]) ++ List.replicate (5 - (lg_sl ([.ref (a 93), .int (nI z)])).length) Slot.unset).toArray = ls at hl ⊢
  have hl : lv_has ls 5 [(0, .ref (a 93)), (1, .int (nI z))] := hl
  obtain ⟨h_o, h_x, h_area⟩ := hB
  have hg9 := hN.g
  have ho9 := hN.o
  have hi9 := hN.2.1
  refine lv_iconst (v := nI 0) hx hb dX12_areaOf_0 (by decide) ?_
  refine lv_istore_n (lv' := [(2, .int (nI 0)), (0, .ref (a 93)), (1, .int (nI z))]) hx hb dX12_areaOf_1 rfl hl (by decide) rfl (fun ls hl => ?_)
  refine lv_iconst (v := nI 0) hx hb dX12_areaOf_2 (by decide) ?_
  refine lv_istore_n (lv' := [(3, .int (nI 0)), (2, .int (nI 0)), (0, .ref (a 93)), (1, .int (nI z))]) hx hb dX12_areaOf_3 rfl hl (by decide) rfl (fun ls hl => ?_)
  refine lv_loop1 4 (fun (k : Nat) => nG (Ns z) - k) (fun (k : Nat) (H : Heap) (locs : List Loc) (ls : Array Slot) => (H = s.heap) ∧ (locs = []) ∧ (lv_has ls 5 [(0, .ref (a 93)), (1, .int (nI z)), (2, .int (nI (arT (Ns z) ar0 k))), (3, .int (nI k))]) ∧ (k ≤ nG (Ns z))) (fun _ => []) (fun k H locs ls hI ih => ?_) 0 ⟨rfl, rfl, lv_sub hl [2, 3, 1, 0] rfl, by omega⟩ rfl
  obtain ⟨rfl, rfl, hl, hk⟩ := hI
  have ih1 := @ih
  clear ih
  refine lv_iload_n hx hb dX12_areaOf_4 rfl (lv_at hl 3 rfl) ?_
  refine lv_aload_n hx hb dX12_areaOf_5 rfl (lv_at hl 0 rfl) ?_
  refine va_get (D := G.1) (ci := 12) (v := .ref (a 98)) (C := RX12) (T := TX12) (N := 23) hx hb hts inX12_areaOf_12 hown hK h_o 0 rfl rfl 4 (by decide) (hts (.fieldLink RX12 22 "GateLedgerModel" "many" "[I") (List.mem_of_getElem? (i := 1) (by decide +kernel))) (fun _ h9 => h9) rfl dX12_areaOf_6 ?_
  refine lv_iload_n hx hb dX12_areaOf_9 rfl (lv_at hl 1 rfl) ?_
  refine pp_iald hx hb hK h_x 4 rfl (vp_in_nI (by omega) (by omega)) dX12_areaOf_10 ?_
  refine lv_as (congrArg (MF Ns) (nI_clamp (by omega))) ?_
  refine lv_as (y := nI (nG (Ns z))) rfl ?_
  refine lv_icmp_ge (tgt := 53) hx hb dX12_areaOf_11 (by decide) (fun c11 => ?_) (fun c11 => ?_)
  · skip
    have c11 := cv_le (by omega) (by omega) c11
    refine lv_iload_n hx hb dX12_areaOf_53 rfl (lv_at hl 2 rfl) ?_
    exact en_i hx hb hr hlocks (by rw [show k = nG (Ns z) by omega]) dX12_areaOf_54
  · skip
    have c11 := cv_nle (by omega) (by omega) c11
    have hk4 := hN.k c11
    refine lv_aload_n hx hb dX12_areaOf_14 rfl (lv_at hl 0 rfl) ?_
    refine va_get (D := G.1) (ci := 12) (v := .ref (a 94)) (C := RX12) (T := TX12) (N := 23) hx hb hts inX12_areaOf_12 hown hK h_o 0 rfl rfl 0 (by decide) (hts (.fieldLink RX12 7 "GateLedgerModel" "kind" "[I") (List.mem_of_getElem? (i := 2) (by decide +kernel))) (fun _ h9 => h9) rfl dX12_areaOf_15 ?_
    refine lv_bipush (v := nI 120) hx hb dX12_areaOf_18 (by decide) ?_
    refine lv_iload_n hx hb dX12_areaOf_20 rfl (lv_at hl 1 rfl) ?_
    refine lv_imul hx hb dX12_areaOf_21 ?_
    refine lv_as (pk_mul _ _) ?_
    refine lv_iload_n hx hb dX12_areaOf_22 rfl (lv_at hl 3 rfl) ?_
    refine lv_iadd hx hb dX12_areaOf_23 ?_
    refine lv_as (nI_add _ _) ?_
    refine pp_iald hx hb hK h_x 0 rfl (vp_in_nI (by omega) (by omega)) dX12_areaOf_24 ?_
    refine lv_as (congrArg (KF Ns) (nI_clamp (by omega))) ?_
    refine lv_as (y := nI (nK (Ns z) k)) (KF_at (by omega)) ?_
    refine lv_istore (lv' := [(4, .int (nI (nK (Ns z) k))), (0, .ref (a 93)), (1, .int (nI z)), (2, .int (nI (arT (Ns z) ar0 k))), (3, .int (nI k))]) hx hb dX12_areaOf_25 hl (by decide) rfl (fun ls hl => ?_)
    refine lv_iload_n hx hb dX12_areaOf_27 rfl (lv_at hl 3 rfl) ?_
    refine lv_iload hx hb dX12_areaOf_28 (lv_at hl 0 rfl) ?_
    refine lv_iconst (v := nI 4) hx hb dX12_areaOf_30 (by decide) ?_
    refine lv_icmp_ne (tgt := 38) hx hb dX12_areaOf_31 (by decide) (fun c31 => ?_) (fun c31 => ?_)
    · skip
      have c31 := cv_ne (by omega) (by omega) c31
      refine lv_aload_n hx hb dX12_areaOf_38 rfl (lv_at hl 1 rfl) ?_
      refine va_get (D := G.1) (ci := 12) (v := .ref (a 103)) (C := RX12) (T := TX12) (N := 23) hx hb hts inX12_areaOf_12 hown hK h_o 0 rfl rfl 9 (by decide) (hts (.fieldLink RX12 37 "GateLedgerModel" "area" "[I") (List.mem_of_getElem? (i := 3) (by decide +kernel))) (fun _ h9 => h9) rfl dX12_areaOf_39 ?_
      refine lv_iload hx hb dX12_areaOf_42 (lv_at hl 0 rfl) ?_
      refine pp_iald hx hb hK h_area 0 rfl (vp_in_nI (by omega) (by omega)) dX12_areaOf_44 ?_
      refine lv_as (congrArg (fun z => nI (ar0 z)) (nI_clamp (by omega))) ?_
      refine lv_st (st' := [.int (nI (ar0 (nK (Ns z) k))), .int (nI (arT (Ns z) ar0 k))]) rfl ?_
      refine lv_iadd hx hb dX12_areaOf_45 ?_
      refine lv_as (nI_add _ _) ?_
      refine lv_istore_n (lv' := [(2, .int (nI ((arT (Ns z) ar0 k) + (ar0 (nK (Ns z) k))))), (4, .int (nI (nK (Ns z) k))), (0, .ref (a 93)), (1, .int (nI z)), (3, .int (nI k))]) hx hb dX12_areaOf_46 rfl hl (by decide) rfl (fun ls hl => ?_)
      refine lv_iinc (v := nI (k + 1)) (lv' := [(3, .int (nI (k + 1))), (2, .int (nI ((arT (Ns z) ar0 k) + (ar0 (nK (Ns z) k))))), (4, .int (nI (nK (Ns z) k))), (0, .ref (a 93)), (1, .int (nI z))]) hx hb dX12_areaOf_47 hl (k := 4) rfl (by first | exact nI_add _ 1 | decide) (by decide) rfl (fun ls hl => ?_)
      refine lv_goto (tgt := 4) hx hb dX12_areaOf_50 (by decide) ?_
      exact ih1 (k + 1) _ _ _ ⟨rfl, rfl, (by first | (rw [ar_gt c31]; exact lv_sub hl [3, 4, 1, 0] rfl) | (rw [ar_in c31]; exact lv_sub hl [3, 4, 1, 0] rfl)), by omega⟩ (by show nG (Ns z) - (k + 1) < nG (Ns z) - k; omega)
    · skip
      have c31 := cv_eq (by omega) (by omega) c31
      refine lv_iconst (v := nI 0) hx hb dX12_areaOf_34 (by decide) ?_
      refine lv_goto (tgt := 45) hx hb dX12_areaOf_35 (by decide) ?_
      refine lv_iadd hx hb dX12_areaOf_45 ?_
      refine lv_as (nI_add _ _) ?_
      refine lv_istore_n (lv' := [(2, .int (nI ((arT (Ns z) ar0 k) + 0))), (4, .int (nI (nK (Ns z) k))), (0, .ref (a 93)), (1, .int (nI z)), (3, .int (nI k))]) hx hb dX12_areaOf_46 rfl hl (by decide) rfl (fun ls hl => ?_)
      refine lv_iinc (v := nI (k + 1)) (lv' := [(3, .int (nI (k + 1))), (2, .int (nI ((arT (Ns z) ar0 k) + 0))), (4, .int (nI (nK (Ns z) k))), (0, .ref (a 93)), (1, .int (nI z))]) hx hb dX12_areaOf_47 hl (k := 4) rfl (by first | exact nI_add _ 1 | decide) (by decide) rfl (fun ls hl => ?_)
      refine lv_goto (tgt := 4) hx hb dX12_areaOf_50 (by decide) ?_
      exact ih1 (k + 1) _ _ _ ⟨rfl, rfl, (by first | (rw [ar_gt c31]; exact lv_sub hl [3, 4, 1, 0] rfl) | (rw [ar_in c31]; exact lv_sub hl [3, 4, 1, 0] rfl)), by omega⟩ (by show nG (Ns z) - (k + 1) < nG (Ns z) - k; omega)
set_option maxRecDepth 20000 in
theorem inX12_ofNet_12 : ∀ w ∈ u_ws RX12 TX12 23, w ∈ wsX12_ofNet := by decide +kernel
set_option maxHeartbeats 4000000 in
set_option maxRecDepth 100000 in
/-- ofNet -/
theorem c_X12_ofNet (l : Launch) (G : GG) (a : Nat → Nat) (ha : Inj a) (cy th : Int32) (Ns : Nat → NT) (fs sc : FN) (dl ar0 : Nat → Nat) (t0 m0 : FN) (p9 w9 : Int32) (hW : ∀ z, z < 4 → WF (Ns z)) (hFS : FS Ns fs sc) (hd : DL dl)  : Met l yX12_ofNet wsX12_ofNet ({ frames := 2, cells := 0, slots := 0, locals := 50 } : Room) (PcB G [.ref (a 93), .int p9, .int w9] (fun H => PP G (modO a cy th) H ∧ PP G (sixW G a Ns fs sc) H ∧ PP G (twoW G a Ns) H ∧ PP G (ar1 G a 102 4 (fun z => nI (dl z))) H ∧ PP G (ar1 G a 103 4 (fun z => nI (ar0 z))) H ∧ PP G (ar1 G a 105 120 t0) H ∧ PP G (ar1 G a 106 120 m0) H)) (QI (fun (r : Int32) (u : FN × FN) => (cOf p9 w9 = 0 → r = ofV (Ns (ix p9)) dl ar0 (ix w9)) ∧ True) (fun u H => PP G (modO a cy (nI (cOf p9 w9))) H ∧ PP G (ar1 G a 105 120 u.1) H ∧ PP G (ar1 G a 106 120 u.2) H) (orA (rng a 93 1) (rng a 105 2))) 0 0 (orA (rng a 93 1) (rng a 105 2)) := by
  refine Met.ofW (cc := cX12_ofNet) (maxL := 3) (ret := (some .int)) (by decide) rfl ?_
  intro p e s m args below meth c s₁ B hml hv
  obtain ⟨rfl, hB, hK, hNW⟩ := hv
  have hx := B.exec
  have hb := B.bytes
  have hr := B.returns
  have hts := atoms_spec (ws := wsX12_ofNet) B.pre
  have hown : s.vm.findClass RX12 = some m.cls := findClass_of_methodNamed B.named
  have hlocks := B.notSynchronized
  have FX : CallFix p m c cX12_ofNet 3 s ([.ref (a 93), .int p9, .int w9] : List Value).toArray wsX12_ofNet RX12 := ⟨hx, hb, hml, hown, hts⟩
  have hl := lv_entry ([.ref (a 93), .int p9, .int w9]) (n := 3) (Nat.le_of_ble_eq_true rfl)
  rw [lg_entry_eq]
  generalize (lg_sl ([.ref (a 93), .int p9, .int w9]) ++ List.replicate (3 - (lg_sl ([.ref (a 93), .int p9, .int w9])).length) Slot.unset).toArray = ls at hl ⊢
  have hl : lv_has ls 3 [(0, .ref (a 93)), (1, .int p9), (2, .int w9)] := hl
  obtain ⟨h_o, h_x, h_y, h_delay, h_area, h_times, h_marks⟩ := hB
  have hS : va_S (orA (rng a 93 1) (rng a 105 2)) s.heap s.heap [] := va_S.rf
  refine lv_aload_n hx hb dX12_ofNet_0 rfl (lv_at hl 0 rfl) ?_
  refine lv_iload_n hx hb dX12_ofNet_1 rfl (lv_at hl 1 rfl) ?_
  refine ro_i (va_runS (As := [.int p9]) (rest := [.ref (a 93)]) FX (c_X12_isNet l G p9) (va_cwS 1 hts gX12_ofNet_X12_isNet rfl rfl rfl (by decide +kernel) ⟨Nat.le_of_ble_eq_true rfl, Nat.le_of_ble_eq_true rfl⟩) (preS hK hNW trivial) rfl rfl hl.1 rfl (lv_room (Nat.le_of_ble_eq_true rfl)) dX12_ofNet_2 ⟨Nat.le_of_ble_eq_true rfl, Nat.le_of_ble_eq_true rfl⟩) ?_
  refine lv_if_ne (tgt := 12) hx hb dX12_ofNet_5 (by decide) (fun c5 => ?_) (fun c5 => ?_)
  · skip
    have c5 := bI_1 c5
    obtain ⟨z, hz, ez, ep⟩ := inBd_z c5 (by omega)
    rw [ep] at hl
    have hl : lv_has ls 3 [(0, .ref (a 93)), (1, .int (nI z)), (2, .int w9)] := hl
    have hN := hW _ hz
    have hg9 := hN.g
    have ho9 := hN.o
    have hi9 := hN.2.1
    refine lv_iload_n hx hb dX12_ofNet_12 rfl (lv_at hl 2 rfl) ?_
    refine lv_iconst (v := nI 0) hx hb dX12_ofNet_13 (by decide) ?_
    refine lv_bipush (v := nI 6) hx hb dX12_ofNet_14 (by decide) ?_
    refine ro_i (va_runS (As := [.int w9, .int (nI 0), .int (nI 6)]) (rest := [.ref (a 93)]) FX (c_X12_isIn l G w9 (nI 0) (nI 6)) (va_cwS 3 hts gX12_ofNet_X12_isIn rfl rfl rfl (by decide +kernel) ⟨Nat.le_of_ble_eq_true rfl, Nat.le_of_ble_eq_true rfl⟩) (preS hK hNW trivial) rfl rfl hl.1 rfl (lv_room (Nat.le_of_ble_eq_true rfl)) dX12_ofNet_16 ⟨Nat.le_of_ble_eq_true rfl, Nat.le_of_ble_eq_true rfl⟩) ?_
    refine lv_if_ne (tgt := 26) hx hb dX12_ofNet_19 (by decide) (fun c19 => ?_) (fun c19 => ?_)
    · skip
      have c19 := bI_1 c19
      obtain ⟨w, ew, epw, hw1, hw2⟩ := rg_z c19 (by omega) (by omega)
      rw [epw] at hl
      have hl : lv_has ls 3 [(0, .ref (a 93)), (1, .int (nI z)), (2, .int (nI w))] := hl
      refine lv_iconst (v := nI 0) hx hb dX12_ofNet_26 (by decide) ?_
      refine pp_put (ci := 12) (v := .int (nI 0)) (ty := .int) (C := RX12) (T := TX12) (N := 23) hx hb hts inX12_ofNet_12 tyX12 tyX12_ok nmX12 hown hK h_o hS (Or.inl (rng_in (by omega))) rfl 22 (by decide) (hts (.fieldLink RX12 73 "GateLedgerModel" "thrown" "I") (List.mem_of_getElem? (i := 1) (by decide +kernel))) (fun _ h9 => h9) rfl (by decide +kernel) rfl rfl (Nat.le_of_ble_eq_true rfl) dX12_ofNet_27 (fun H locs hP9 hk1 _ hS => ?_)
      have h_o : PP G (modO a cy (nI 0)) H := hP9
      have h_times : PP G (ar1 G a 105 120 t0) H := kp hk1 h_times (dj_cons (ne_a ha (by omega)) (dj_nil))
      have h_marks : PP G (ar1 G a 106 120 m0) H := kp hk1 h_marks (dj_cons (ne_a ha (by omega)) (dj_nil))
      refine lv_aload_n hx hb dX12_ofNet_30 rfl (lv_at hl 0 rfl) ?_
      refine va_get (D := G.1) (ci := 12) (v := .int (nI 0)) (C := RX12) (T := TX12) (N := 23) hx hb hts inX12_ofNet_12 hown hK h_o 0 rfl rfl 22 (by decide) (hts (.fieldLink RX12 73 "GateLedgerModel" "thrown" "I") (List.mem_of_getElem? (i := 1) (by decide +kernel))) (fun _ h9 => h9) rfl dX12_ofNet_31 ?_
      refine lv_if_le (tgt := 39) hx hb dX12_ofNet_34 (by decide) (fun c34 => ?_) (fun c34 => ?_)
      · skip
        refine lv_iload_n hx hb dX12_ofNet_39 rfl (lv_at hl 2 rfl) ?_
        rcases (show w = 0 ∨ w = 1 ∨ w = 2 ∨ w = 3 ∨ w = 4 ∨ w = 5 ∨ ¬ (w = 0 ∨ w = 1 ∨ w = 2 ∨ w = 3 ∨ w = 4 ∨ w = 5) by omega) with hc | hc | hc | hc | hc | hc | hc
        · skip
          rw [hc]
          refine lv_tableIn (tgt := 80) hx hb dX12_ofNet_40 (by decide) (by decide) (off := 40) (by decide) (by decide) ?_
          refine lv_aload_n hx hb dX12_ofNet_80 rfl (lv_at hl 0 rfl) ?_
          refine va_get (D := G.1) (ci := 12) (v := .ref (a 98)) (C := RX12) (T := TX12) (N := 23) hx hb hts inX12_ofNet_12 hown hK h_o 0 rfl rfl 4 (by decide) (hts (.fieldLink RX12 22 "GateLedgerModel" "many" "[I") (List.mem_of_getElem? (i := 2) (by decide +kernel))) (fun _ h9 => h9) rfl dX12_ofNet_81 ?_
          refine lv_iload_n hx hb dX12_ofNet_84 rfl (lv_at hl 1 rfl) ?_
          refine pp_iald hx hb hK (ro hS h_x (dj_cons (or_no (rng_no ha (by omega)) (rng_no ha (by omega))) (dj_cons (or_no (rng_no ha (by omega)) (rng_no ha (by omega))) (dj_cons (or_no (rng_no ha (by omega)) (rng_no ha (by omega))) (dj_cons (or_no (rng_no ha (by omega)) (rng_no ha (by omega))) (dj_cons (or_no (rng_no ha (by omega)) (rng_no ha (by omega))) (dj_cons (or_no (rng_no ha (by omega)) (rng_no ha (by omega))) (dj_nil)))))))) 4 rfl (vp_in_nI (by omega) (by omega)) dX12_ofNet_85 ?_
          refine lv_as (congrArg (MF Ns) (nI_clamp (by omega))) ?_
          refine lv_as (y := nI (nG (Ns z))) rfl ?_
          have e1 : cOf p9 w9 = 0 := (if_pos c5).trans (if_pos c19)
          exact en_wi (t0, m0) hx hb hr hlocks hS ⟨fun _ => by rw [ez, ew, hc]; rfl, trivial⟩ (by rw [e1]; exact ⟨h_o, h_times, h_marks⟩) dX12_ofNet_86
        · skip
          rw [hc]
          refine lv_tableIn (tgt := 87) hx hb dX12_ofNet_40 (by decide) (by decide) (off := 47) (by decide) (by decide) ?_
          refine lv_aload_n hx hb dX12_ofNet_87 rfl (lv_at hl 0 rfl) ?_
          refine va_get (D := G.1) (ci := 12) (v := .ref (a 99)) (C := RX12) (T := TX12) (N := 23) hx hb hts inX12_ofNet_12 hown hK h_o 0 rfl rfl 5 (by decide) (hts (.fieldLink RX12 25 "GateLedgerModel" "inputs" "[I") (List.mem_of_getElem? (i := 3) (by decide +kernel))) (fun _ h9 => h9) rfl dX12_ofNet_88 ?_
          refine lv_iload_n hx hb dX12_ofNet_91 rfl (lv_at hl 1 rfl) ?_
          refine pp_iald hx hb hK (ro hS h_x (dj_cons (or_no (rng_no ha (by omega)) (rng_no ha (by omega))) (dj_cons (or_no (rng_no ha (by omega)) (rng_no ha (by omega))) (dj_cons (or_no (rng_no ha (by omega)) (rng_no ha (by omega))) (dj_cons (or_no (rng_no ha (by omega)) (rng_no ha (by omega))) (dj_cons (or_no (rng_no ha (by omega)) (rng_no ha (by omega))) (dj_cons (or_no (rng_no ha (by omega)) (rng_no ha (by omega))) (dj_nil)))))))) 5 rfl (vp_in_nI (by omega) (by omega)) dX12_ofNet_92 ?_
          refine lv_as (congrArg (IF Ns) (nI_clamp (by omega))) ?_
          refine lv_as (y := nI (nIn (Ns z))) rfl ?_
          have e1 : cOf p9 w9 = 0 := (if_pos c5).trans (if_pos c19)
          exact en_wi (t0, m0) hx hb hr hlocks hS ⟨fun _ => by rw [ez, ew, hc]; rfl, trivial⟩ (by rw [e1]; exact ⟨h_o, h_times, h_marks⟩) dX12_ofNet_93
        · skip
          rw [hc]
          refine lv_tableIn (tgt := 94) hx hb dX12_ofNet_40 (by decide) (by decide) (off := 54) (by decide) (by decide) ?_
          refine lv_aload_n hx hb dX12_ofNet_94 rfl (lv_at hl 0 rfl) ?_
          refine va_get (D := G.1) (ci := 12) (v := .ref (a 101)) (C := RX12) (T := TX12) (N := 23) hx hb hts inX12_ofNet_12 hown hK h_o 0 rfl rfl 7 (by decide) (hts (.fieldLink RX12 31 "GateLedgerModel" "outMany" "[I") (List.mem_of_getElem? (i := 4) (by decide +kernel))) (fun _ h9 => h9) rfl dX12_ofNet_95 ?_
          refine lv_iload_n hx hb dX12_ofNet_98 rfl (lv_at hl 1 rfl) ?_
          refine pp_iald hx hb hK (ro hS h_y (dj_cons (or_no (rng_no ha (by omega)) (rng_no ha (by omega))) (dj_cons (or_no (rng_no ha (by omega)) (rng_no ha (by omega))) (dj_nil)))) 1 rfl (vp_in_nI (by omega) (by omega)) dX12_ofNet_99 ?_
          refine lv_as (congrArg (OF Ns) (nI_clamp (by omega))) ?_
          refine lv_as (y := nI (nO (Ns z))) rfl ?_
          have e1 : cOf p9 w9 = 0 := (if_pos c5).trans (if_pos c19)
          exact en_wi (t0, m0) hx hb hr hlocks hS ⟨fun _ => by rw [ez, ew, hc]; rfl, trivial⟩ (by rw [e1]; exact ⟨h_o, h_times, h_marks⟩) dX12_ofNet_100
        · skip
          rw [hc]
          refine lv_tableIn (tgt := 101) hx hb dX12_ofNet_40 (by decide) (by decide) (off := 61) (by decide) (by decide) ?_
          refine lv_aload_n hx hb dX12_ofNet_101 rfl (lv_at hl 0 rfl) ?_
          refine lv_iload_n hx hb dX12_ofNet_102 rfl (lv_at hl 1 rfl) ?_
          refine ro_i (va_runV (As := [.int (nI z)]) (rest := []) FX (c_X12_areaOf l G a cy (nI 0) Ns z fs sc ar0 hz hN) (cwV 1 hts gX12_ofNet_X12_areaOf rfl rfl rfl (by decide +kernel) ⟨Nat.le_of_ble_eq_true rfl, Nat.le_of_ble_eq_true rfl⟩) (preV hK hNW (⟨h_o, (ro hS h_x (dj_cons (or_no (rng_no ha (by omega)) (rng_no ha (by omega))) (dj_cons (or_no (rng_no ha (by omega)) (rng_no ha (by omega))) (dj_cons (or_no (rng_no ha (by omega)) (rng_no ha (by omega))) (dj_cons (or_no (rng_no ha (by omega)) (rng_no ha (by omega))) (dj_cons (or_no (rng_no ha (by omega)) (rng_no ha (by omega))) (dj_cons (or_no (rng_no ha (by omega)) (rng_no ha (by omega))) (dj_nil)))))))), (ro hS h_area (dj_cons (or_no (rng_no ha (by omega)) (rng_no ha (by omega))) (dj_nil)))⟩) (va_recv hK h_o (ci := 12) (q0 := 0) rfl rfl)) rfl rfl hl.1 rfl (lv_room (Nat.le_of_ble_eq_true rfl)) dX12_ofNet_103 ⟨Nat.le_of_ble_eq_true rfl, Nat.le_of_ble_eq_true rfl⟩) ?_
          have e1 : cOf p9 w9 = 0 := (if_pos c5).trans (if_pos c19)
          exact en_wi (t0, m0) hx hb hr hlocks hS ⟨fun _ => by rw [ez, ew, hc]; rfl, trivial⟩ (by rw [e1]; exact ⟨h_o, h_times, h_marks⟩) dX12_ofNet_106
        · skip
          rw [hc]
          refine lv_tableIn (tgt := 107) hx hb dX12_ofNet_40 (by decide) (by decide) (off := 67) (by decide) (by decide) ?_
          refine lv_aload_n hx hb dX12_ofNet_107 rfl (lv_at hl 0 rfl) ?_
          refine lv_iload_n hx hb dX12_ofNet_108 rfl (lv_at hl 1 rfl) ?_
          refine wr_i (va_runV (As := [.int (nI z)]) (rest := []) FX (c_X12_delayOf l G a ha cy (nI 0) Ns z fs sc dl t0 hz hN hFS hd) (cwV 1 hts gX12_ofNet_X12_delayOf rfl rfl rfl (by decide +kernel) ⟨Nat.le_of_ble_eq_true rfl, Nat.le_of_ble_eq_true rfl⟩) (preV hK hNW (⟨h_o, (ro hS h_x (dj_cons (or_no (rng_no ha (by omega)) (rng_no ha (by omega))) (dj_cons (or_no (rng_no ha (by omega)) (rng_no ha (by omega))) (dj_cons (or_no (rng_no ha (by omega)) (rng_no ha (by omega))) (dj_cons (or_no (rng_no ha (by omega)) (rng_no ha (by omega))) (dj_cons (or_no (rng_no ha (by omega)) (rng_no ha (by omega))) (dj_cons (or_no (rng_no ha (by omega)) (rng_no ha (by omega))) (dj_nil)))))))), (ro hS h_y (dj_cons (or_no (rng_no ha (by omega)) (rng_no ha (by omega))) (dj_cons (or_no (rng_no ha (by omega)) (rng_no ha (by omega))) (dj_nil)))), (ro hS h_delay (dj_cons (or_no (rng_no ha (by omega)) (rng_no ha (by omega))) (dj_nil))), h_times⟩) (va_recv hK h_o (ci := 12) (q0 := 0) rfl rfl)) rfl rfl hl.1 rfl (lv_room (Nat.le_of_ble_eq_true rfl)) dX12_ofNet_109 ⟨Nat.le_of_ble_eq_true rfl, Nat.le_of_ble_eq_true rfl⟩) hS (fun q h => Or.inr ((rng_sub (by omega)) q h)) (fun rr u2 H locs ⟨er4, ht3⟩ hP9 hk5 hS => ?_)
          have h_times : PP G (ar1 G a 105 120 u2) H := hP9
          have h_o : PP G (modO a cy (nI 0)) H := kp hk5 h_o (dj_cons (rng_no ha (by omega)) (dj_nil))
          have h_marks : PP G (ar1 G a 106 120 m0) H := kp hk5 h_marks (dj_cons (rng_no ha (by omega)) (dj_nil))
          refine lv_as (y := nI (mxO (Ns z) (tm (Ns z) dl) (nO (Ns z)))) er4 ?_
          have e1 : cOf p9 w9 = 0 := (if_pos c5).trans (if_pos c19)
          exact en_wi (u2, m0) hx hb hr hlocks hS ⟨fun _ => by rw [ez, ew, hc]; exact congrArg nI dlN_mx.symm, trivial⟩ (by rw [e1]; exact ⟨h_o, h_times, h_marks⟩) dX12_ofNet_112
        · skip
          rw [hc]
          refine lv_tableIn (tgt := 113) hx hb dX12_ofNet_40 (by decide) (by decide) (off := 73) (by decide) (by decide) ?_
          refine lv_aload_n hx hb dX12_ofNet_113 rfl (lv_at hl 0 rfl) ?_
          refine lv_iload_n hx hb dX12_ofNet_114 rfl (lv_at hl 1 rfl) ?_
          refine wr_i (va_runV (As := [.int (nI z)]) (rest := []) FX (c_X12_load l G a ha cy (nI 0) Ns z fs sc m0 hz hN hFS) (cwV 1 hts gX12_ofNet_X12_load rfl rfl rfl (by decide +kernel) ⟨Nat.le_of_ble_eq_true rfl, Nat.le_of_ble_eq_true rfl⟩) (preV hK hNW (⟨h_o, (ro hS h_x (dj_cons (or_no (rng_no ha (by omega)) (rng_no ha (by omega))) (dj_cons (or_no (rng_no ha (by omega)) (rng_no ha (by omega))) (dj_cons (or_no (rng_no ha (by omega)) (rng_no ha (by omega))) (dj_cons (or_no (rng_no ha (by omega)) (rng_no ha (by omega))) (dj_cons (or_no (rng_no ha (by omega)) (rng_no ha (by omega))) (dj_cons (or_no (rng_no ha (by omega)) (rng_no ha (by omega))) (dj_nil)))))))), (ro hS h_y (dj_cons (or_no (rng_no ha (by omega)) (rng_no ha (by omega))) (dj_cons (or_no (rng_no ha (by omega)) (rng_no ha (by omega))) (dj_nil)))), h_marks⟩) (va_recv hK h_o (ci := 12) (q0 := 0) rfl rfl)) rfl rfl hl.1 rfl (lv_room (Nat.le_of_ble_eq_true rfl)) dX12_ofNet_115 ⟨Nat.le_of_ble_eq_true rfl, Nat.le_of_ble_eq_true rfl⟩) hS (fun q h => Or.inr ((rng_sub (by omega)) q h)) (fun rr u7 H locs er8 hP9 hk9 hS => ?_)
          have h_marks : PP G (ar1 G a 106 120 u7) H := hP9
          have h_o : PP G (modO a cy (nI 0)) H := kp hk9 h_o (dj_cons (rng_no ha (by omega)) (dj_nil))
          have h_times : PP G (ar1 G a 105 120 t0) H := kp hk9 h_times (dj_cons (rng_no ha (by omega)) (dj_nil))
          refine lv_as (y := mxA (loT (Ns z) (nO (Ns z))) (nG (Ns z))) er8 ?_
          have e1 : cOf p9 w9 = 0 := (if_pos c5).trans (if_pos c19)
          exact en_wi (t0, u7) hx hb hr hlocks hS ⟨fun _ => by rw [ez, ew, hc]; rfl, trivial⟩ (by rw [e1]; exact ⟨h_o, h_times, h_marks⟩) dX12_ofNet_118
        · skip
          refine lv_tableOut (tgt := 119) hx hb dX12_ofNet_40 (Or.inr (by rw [nI_toInt (by omega)]; omega)) (by decide) ?_
          have e6 : w = 6 := by omega
          refine lv_aload_n hx hb dX12_ofNet_119 rfl (lv_at hl 0 rfl) ?_
          refine lv_iload_n hx hb dX12_ofNet_120 rfl (lv_at hl 1 rfl) ?_
          refine wr_i (va_runV (As := [.int (nI z)]) (rest := []) FX (c_X12_idle l G a ha cy (nI 0) Ns z fs sc m0 hz hN hFS) (cwV 1 hts gX12_ofNet_X12_idle rfl rfl rfl (by decide +kernel) ⟨Nat.le_of_ble_eq_true rfl, Nat.le_of_ble_eq_true rfl⟩) (preV hK hNW (⟨h_o, (ro hS h_x (dj_cons (or_no (rng_no ha (by omega)) (rng_no ha (by omega))) (dj_cons (or_no (rng_no ha (by omega)) (rng_no ha (by omega))) (dj_cons (or_no (rng_no ha (by omega)) (rng_no ha (by omega))) (dj_cons (or_no (rng_no ha (by omega)) (rng_no ha (by omega))) (dj_cons (or_no (rng_no ha (by omega)) (rng_no ha (by omega))) (dj_cons (or_no (rng_no ha (by omega)) (rng_no ha (by omega))) (dj_nil)))))))), (ro hS h_y (dj_cons (or_no (rng_no ha (by omega)) (rng_no ha (by omega))) (dj_cons (or_no (rng_no ha (by omega)) (rng_no ha (by omega))) (dj_nil)))), h_marks⟩) (va_recv hK h_o (ci := 12) (q0 := 0) rfl rfl)) rfl rfl hl.1 rfl (lv_room (Nat.le_of_ble_eq_true rfl)) dX12_ofNet_121 ⟨Nat.le_of_ble_eq_true rfl, Nat.le_of_ble_eq_true rfl⟩) hS (fun q h => Or.inr ((rng_sub (by omega)) q h)) (fun rr u11 H locs er12 hP9 hk13 hS => ?_)
          have h_marks : PP G (ar1 G a 106 120 u11) H := hP9
          have h_o : PP G (modO a cy (nI 0)) H := kp hk13 h_o (dj_cons (rng_no ha (by omega)) (dj_nil))
          have h_times : PP G (ar1 G a 105 120 t0) H := kp hk13 h_times (dj_cons (rng_no ha (by omega)) (dj_nil))
          refine lv_as (y := nI (idT (Ns z) (mbD (Ns z) (ouT (Ns z) (nO (Ns z))) (nG (Ns z))) (nG (Ns z)))) er12 ?_
          have e1 : cOf p9 w9 = 0 := (if_pos c5).trans (if_pos c19)
          exact en_wi (t0, u11) hx hb hr hlocks hS ⟨fun _ => by rw [ez, ew, e6]; rfl, trivial⟩ (by rw [e1]; exact ⟨h_o, h_times, h_marks⟩) dX12_ofNet_124
      · exact absurd c34 (by decide)
    · skip
      have c19 := bI_0.mp c19
      refine lv_iconst (v := nI 2) hx hb dX12_ofNet_22 (by decide) ?_
      refine lv_goto (tgt := 27) hx hb dX12_ofNet_23 (by decide) ?_
      refine pp_put (ci := 12) (v := .int (nI 2)) (ty := .int) (C := RX12) (T := TX12) (N := 23) hx hb hts inX12_ofNet_12 tyX12 tyX12_ok nmX12 hown hK h_o hS (Or.inl (rng_in (by omega))) rfl 22 (by decide) (hts (.fieldLink RX12 73 "GateLedgerModel" "thrown" "I") (List.mem_of_getElem? (i := 1) (by decide +kernel))) (fun _ h9 => h9) rfl (by decide +kernel) rfl rfl (Nat.le_of_ble_eq_true rfl) dX12_ofNet_27 (fun H locs hP9 hk15 _ hS => ?_)
      have h_o : PP G (modO a cy (nI 2)) H := hP9
      have h_times : PP G (ar1 G a 105 120 t0) H := kp hk15 h_times (dj_cons (ne_a ha (by omega)) (dj_nil))
      have h_marks : PP G (ar1 G a 106 120 m0) H := kp hk15 h_marks (dj_cons (ne_a ha (by omega)) (dj_nil))
      refine lv_aload_n hx hb dX12_ofNet_30 rfl (lv_at hl 0 rfl) ?_
      refine va_get (D := G.1) (ci := 12) (v := .int (nI 2)) (C := RX12) (T := TX12) (N := 23) hx hb hts inX12_ofNet_12 hown hK h_o 0 rfl rfl 22 (by decide) (hts (.fieldLink RX12 73 "GateLedgerModel" "thrown" "I") (List.mem_of_getElem? (i := 1) (by decide +kernel))) (fun _ h9 => h9) rfl dX12_ofNet_31 ?_
      refine lv_if_le (tgt := 39) hx hb dX12_ofNet_34 (by decide) (fun c34 => ?_) (fun c34 => ?_)
      · exact absurd c34 (by decide)
      · skip
        refine lv_iconst (v := nI 0) hx hb dX12_ofNet_37 (by decide) ?_
        have e1 : cOf p9 w9 = 2 := (if_pos c5).trans (if_neg c19)
        exact en_wi (t0, m0) hx hb hr hlocks hS ⟨fun q => absurd (e1.symm.trans q) (by decide), trivial⟩ (by rw [e1]; exact ⟨h_o, h_times, h_marks⟩) dX12_ofNet_38
  · skip
    have c5 := bI_0.mp c5
    refine lv_iconst (v := nI 1) hx hb dX12_ofNet_8 (by decide) ?_
    refine lv_goto (tgt := 27) hx hb dX12_ofNet_9 (by decide) ?_
    refine pp_put (ci := 12) (v := .int (nI 1)) (ty := .int) (C := RX12) (T := TX12) (N := 23) hx hb hts inX12_ofNet_12 tyX12 tyX12_ok nmX12 hown hK h_o hS (Or.inl (rng_in (by omega))) rfl 22 (by decide) (hts (.fieldLink RX12 73 "GateLedgerModel" "thrown" "I") (List.mem_of_getElem? (i := 1) (by decide +kernel))) (fun _ h9 => h9) rfl (by decide +kernel) rfl rfl (Nat.le_of_ble_eq_true rfl) dX12_ofNet_27 (fun H locs hP9 hk16 _ hS => ?_)
    have h_o : PP G (modO a cy (nI 1)) H := hP9
    have h_times : PP G (ar1 G a 105 120 t0) H := kp hk16 h_times (dj_cons (ne_a ha (by omega)) (dj_nil))
    have h_marks : PP G (ar1 G a 106 120 m0) H := kp hk16 h_marks (dj_cons (ne_a ha (by omega)) (dj_nil))
    refine lv_aload_n hx hb dX12_ofNet_30 rfl (lv_at hl 0 rfl) ?_
    refine va_get (D := G.1) (ci := 12) (v := .int (nI 1)) (C := RX12) (T := TX12) (N := 23) hx hb hts inX12_ofNet_12 hown hK h_o 0 rfl rfl 22 (by decide) (hts (.fieldLink RX12 73 "GateLedgerModel" "thrown" "I") (List.mem_of_getElem? (i := 1) (by decide +kernel))) (fun _ h9 => h9) rfl dX12_ofNet_31 ?_
    refine lv_if_le (tgt := 39) hx hb dX12_ofNet_34 (by decide) (fun c34 => ?_) (fun c34 => ?_)
    · exact absurd c34 (by decide)
    · skip
      refine lv_iconst (v := nI 0) hx hb dX12_ofNet_37 (by decide) ?_
      have e1 : cOf p9 w9 = 1 := if_neg c5
      exact en_wi (t0, m0) hx hb hr hlocks hS ⟨fun q => absurd (e1.symm.trans q) (by decide), trivial⟩ (by rw [e1]; exact ⟨h_o, h_times, h_marks⟩) dX12_ofNet_38
