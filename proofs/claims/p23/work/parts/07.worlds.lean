/-! the parts of the class -/
abbrev timW (G : GG) (a : Nat → Nat) (i : Nat) (x : Int32) (f : Nat → Int32) : va_W := [(a i, .inr (7, [.ref (a (i + 1)), .int x]))] ++ rowW G a (i + 1) 120 f
theorem timW_in {G : GG} {a : Nat → Nat} {i : Nat} {x : Int32} {f : Nat → Int32} : inR a i 3 (timW G a i x f) := inR_app (inR_cons (k := i) (by omega) inR_nil) (inR_mono (i := i + 1) (n := 2) rowW_in (by omega))
abbrev talW (a : Nat → Nat) (i x y z : Nat) : va_W := [(a i, .inr (5, [.int (nI x), .int (nI y), .int (nI z)]))]
theorem talW_in {a : Nat → Nat} {i x y z : Nat} : inR a i 1 (talW a i x y z) := inR_cons (by omega) inR_nil
abbrev lanW (G : GG) (a : Nat → Nat) (i : Nat) (w o : Nat → Int64) : va_W := [(a i, .inr (1, [.ref (a (i + 1)), .ref (a (i + 3))]))] ++ (wrowW G a (i + 1) 120 w ++ wrowW G a (i + 3) 16 o)
theorem lanW_in {G : GG} {a : Nat → Nat} {i : Nat} {w o : Nat → Int64} : inR a i 5 (lanW G a i w o) := inR_app (inR_cons (k := i) (by omega) inR_nil) (inR_app (inR_mono (i := i + 1) (n := 2) wrowW_in (by omega)) (inR_mono (i := i + 3) (n := 2) wrowW_in (by omega)))
abbrev wirW (G : GG) (a : Nat → Nat) (i : Nat) (mk bs ld : Nat → Int32) : va_W := [(a i, .inr (10, [.ref (a (i + 1)), .ref (a (i + 3)), .ref (a (i + 5))]))] ++ (rowW G a (i + 1) 120 mk ++ (rowW G a (i + 3) 120 bs ++ rowW G a (i + 5) 120 ld))
theorem wirW_in {G : GG} {a : Nat → Nat} {i : Nat} {mk bs ld : Nat → Int32} : inR a i 7 (wirW G a i mk bs ld) := inR_app (inR_cons (k := i) (by omega) inR_nil) (inR_app (inR_mono (i := i + 1) (n := 2) rowW_in (by omega)) (inR_app (inR_mono (i := i + 3) (n := 2) rowW_in (by omega)) (inR_mono (i := i + 5) (n := 2) rowW_in (by omega))))
abbrev wavW (G : GG) (a : Nat → Nat) (i : Nat) (u : Int32) (w : Nat → Int64) : va_W := [(a i, .inr (8, [.ref (a (i + 1)), .int u]))] ++ wrowW G a (i + 1) 2040 w
theorem wavW_in {G : GG} {a : Nat → Nat} {i : Nat} {u : Int32} {w : Nat → Int64} : inR a i 3 (wavW G a i u w) := inR_app (inR_cons (k := i) (by omega) inR_nil) (inR_mono (i := i + 1) (n := 2) wrowW_in (by omega))
abbrev ticW (G : GG) (a : Nat → Nat) (i : Nat) (f : Nat → Int32) : va_W := [(a i, .inr (6, [.ref (a (i + 1))]))] ++ rowW G a (i + 1) 1920 f
theorem ticW_in {G : GG} {a : Nat → Nat} {i : Nat} {f : Nat → Int32} : inR a i 3 (ticW G a i f) := inR_app (inR_cons (k := i) (by omega) inR_nil) (inR_mono (i := i + 1) (n := 2) rowW_in (by omega))
abbrev audW (a : Nat → Nat) (i : Nat) (x y z v u : Int32) : va_W := [(a i, .inr (0, [.int x, .int y, .int z, .int v, .int u]))]
theorem audW_in {a : Nat → Nat} {i : Nat} {x y z v u : Int32} : inR a i 1 (audW a i x y z v u) := inR_cons (by omega) inR_nil
abbrev makO (a : Nat → Nat) (i : Nat) (ll su ca : Int32) : va_W := [(a i, .inr (2, [.ref (a (i + 1)), .ref (a (i + 3)), .ref (a (i + 5)), .ref (a (i + 7)), .ref (a (i + 9)), .ref (a (i + 11)), .ref (a (i + 13)), .int ll, .int su, .int ca]))]
