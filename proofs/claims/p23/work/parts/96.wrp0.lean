/-! the law's own calls: what the exceptions are not; the codes -/
def NCX (U : State) : Prop := va_Nc IAE IOB U ∧ va_Nc ISE IOB U ∧ va_Nc ISE IAE U
theorem NCX.moved {u U : State} (h : u.vm.Alike U.vm) (n : NCX u) : NCX U := ⟨va_Nc.moved h n.1, va_Nc.moved h n.2.1, va_Nc.moved h n.2.2⟩
def PcW (G : GG) (a : Nat → Nat) (t : Nat) (av : List Value) (B : Heap → Prop) : Array Value → State → Prop := fun v U => PcX G a t av B v U ∧ NCX U
theorem PcW_blind {G : GG} {a : Nat → Nat} {t : Nat} {av : List Value} {B : Heap → Prop} : FrameBlind (PcW G a t av B) := fun x U g mk h => ⟨PcX_blind x U g mk h.1, NCX.moved (u := U) (U := U.calling g mk x) (Vm.Alike.refl U.vm) h.2⟩
theorem preW {G : GG} {a : Nat → Nat} {t : Nat} {s : State} {H : Heap} {As : List Value} {B : Heap → Prop} (hK : KK G s) (hNW : NW s) (hB : B H) (hL : LOW a t s H) (hX : TX a s H) (hN : NCX s) : PreS s H (PcW G a t As B) As :=
  ⟨PcW_blind, fun U hU hW => ⟨⟨⟨⟨rfl, by rw [hU]; exact hB, va_K.moved hW.alike hK, hNW.warm hW⟩, by rw [hU]; exact hL.moved hW.alike⟩, by rw [hU]; exact hX.warm hW⟩, hN.moved hW.alike⟩⟩
theorem cw_recv {G : GG} {a : Nat → Nat} {st : ST} {s : State} {H : Heap} (hK : KK G s) (h : CW G a st H) : ∃ cell : Cell, H[a 0]? = some cell ∧ cell.vm.isStatics = false ∧ s.vm.findClass RX11 = some cell.cls := va_recv hK h.1 (ci := 11) (q0 := 0) rfl rfl
theorem cd_input {Ns : Nat → NT} {p : Int32} : cIn Ns p ≠ 2 := by unfold cIn; (repeat' split) <;> decide
theorem cd_gate {Ns : Nat → NT} {p k f s : Int32} : cGa Ns p k f s ≠ 2 := by unfold cGa; (repeat' split) <;> decide
theorem cd_out {Ns : Nat → NT} {p g : Int32} : cOu Ns p g ≠ 2 := by unfold cOu; (repeat' split) <;> decide
theorem cd_unlike {Ns : Nat → NT} {p g : Int32} : cUn Ns p g ≠ 2 := by unfold cUn; (repeat' split) <;> decide
theorem cd_clear {p : Int32} : cCl p ≠ 2 ∧ cCl p ≠ 3 := by unfold cCl; (repeat' split) <;> decide
theorem cd_cost {k d x : Int32} : cCo k d x ≠ 3 := by unfold cCo; (repeat' split) <;> decide
theorem cd_stick {Ns : Nat → NT} {p g b : Int32} : cSt Ns p g b ≠ 3 := by unfold cSt; (repeat' split) <;> decide
theorem cd_bit {Ns : Nat → NT} {p g b : Int32} : cBi Ns p g b ≠ 3 := by unfold cBi; (repeat' split) <;> decide
theorem cd_value {p x : Int32} : cVa p x ≠ 3 := by unfold cVa; (repeat' split) <;> decide
theorem cd_ofNet {p x : Int32} : cOf p x ≠ 3 := by unfold cOf; (repeat' split) <;> decide
theorem cd_time {Ns : Nat → NT} {p g : Int32} : cTi Ns p g ≠ 2 ∧ cTi Ns p g ≠ 3 := by unfold cTi; (repeat' split) <;> decide
theorem cd_path {p x : Int32} : cPa p x ≠ 2 ∧ cPa p x ≠ 3 := by unfold cPa; (repeat' split) <;> decide
theorem cd_changes {p f v w : Int32} : cCh p f v w ≠ 3 := by unfold cCh; (repeat' split) <;> decide
theorem cd_digit {x k : Int32} : cDi x k ≠ 3 := by unfold cDi; (repeat' split) <;> decide

