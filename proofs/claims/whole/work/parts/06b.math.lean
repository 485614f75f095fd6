/-! Math.max, min, abs -/
theorem w_maxS : Cond.static Lib.Math.max.name ∈ gTs := gT_in 518 (by decide +kernel) (by decide +kernel)
theorem w_maxC : Cond.code Lib.Math.max.name Lib.Math.max.code 2 (some .int) ∈ gTs := gT_in 519 (by decide +kernel) (by decide +kernel)
theorem w_minS : Cond.static Lib.Math.min.name ∈ gTs := gT_in 643 (by decide +kernel) (by decide +kernel)
theorem w_minC : Cond.code Lib.Math.min.name Lib.Math.min.code 2 (some .int) ∈ gTs := gT_in 644 (by decide +kernel) (by decide +kernel)
theorem w_absS : Cond.static Lib.Math.abs.name ∈ gTs := gT_in 736 (by decide +kernel) (by decide +kernel)
theorem w_absC : Cond.code Lib.Math.abs.name Lib.Math.abs.code 1 (some .int) ∈ gTs := gT_in 737 (by decide +kernel) (by decide +kernel)
theorem w_mI : Cond.initialized "java/lang/Math" ∈ gTs := gT_in 57 (by decide +kernel) (by decide +kernel)
theorem qX6_91 : Cond.methodLink RX6 91 Lib.Math.max.name ∈ gTs := gT_in 517 (by decide +kernel) (by decide +kernel)
theorem qX9_158 : Cond.methodLink RX9 158 Lib.Math.max.name ∈ gTs := gT_in 537 (by decide +kernel) (by decide +kernel)
theorem qX4_96 : Cond.methodLink RX4 96 Lib.Math.max.name ∈ gTs := gT_in 641 (by decide +kernel) (by decide +kernel)
theorem qX4_75 : Cond.methodLink RX4 75 Lib.Math.min.name ∈ gTs := gT_in 642 (by decide +kernel) (by decide +kernel)
theorem qX4_126 : Cond.methodLink RX4 126 Lib.Math.abs.name ∈ gTs := gT_in 735 (by decide +kernel) (by decide +kernel)
section GMath
variable {w : gW} {E : State → Prop} {al : Bool} {n : Nat} {y : gY} {mc ms : Nat} {P : gP} {cs sl : Nat} {h : gH} {pc : Nat} {L st : List Value}
theorem g_mmax {ix : Nat} {x z : Int32} (hd : decode y.2.1 pc = .ok (.invokestatic ix, 3)) (q : Nat) (hq : pc + 3 = q) (h1 : Cond.methodLink y.1.cls ix Lib.Math.max.name ∈ gTs) (hf : 1 ≤ y.2.2.2.2.1) (hl : 21 ≤ y.2.2.2.2.2) (hst : (st.map fun v => v.category).sum ≤ 8) (hcs : cs ≤ mc) (hsl : sl ≤ ms) (v : Int32) (hv : (if x < z then z else x) = v) (kk : G w E al n y mc ms P cs sl h q L (.int v :: st)) : G w E al n y mc ms P cs sl h pc L (.int z :: .int x :: st) := by
  subst hq
  subst hv
  intro p e s m args below meth c C H locs ls X1 X2 X3
  obtain ⟨C1, C2, C3, C4, C5, C6, C7, C8, C9, C10, C11⟩ := id C
  refine va_mmax C1 C2 (C3.trans X3.1.symm) C6 (C7 _ h1) (C7 _ w_maxS) (C7 _ w_mI) (C7 _ w_maxC) hf ?_ hcs hsl hd (kk p e s m args below meth c C H locs ls X1 X2 X3)
  have := gRest (w := w) hst
  show _ ≤ y.2.2.2.2.2
  omega
theorem g_mmin {ix : Nat} {x z : Int32} (hd : decode y.2.1 pc = .ok (.invokestatic ix, 3)) (q : Nat) (hq : pc + 3 = q) (h1 : Cond.methodLink y.1.cls ix Lib.Math.min.name ∈ gTs) (hf : 1 ≤ y.2.2.2.2.1) (hl : 21 ≤ y.2.2.2.2.2) (hst : (st.map fun v => v.category).sum ≤ 8) (hcs : cs ≤ mc) (hsl : sl ≤ ms) (v : Int32) (hv : (if z < x then z else x) = v) (kk : G w E al n y mc ms P cs sl h q L (.int v :: st)) : G w E al n y mc ms P cs sl h pc L (.int z :: .int x :: st) := by
  subst hq
  subst hv
  intro p e s m args below meth c C H locs ls X1 X2 X3
  obtain ⟨C1, C2, C3, C4, C5, C6, C7, C8, C9, C10, C11⟩ := id C
  refine va_mmin C1 C2 (C3.trans X3.1.symm) C6 (C7 _ h1) (C7 _ w_minS) (C7 _ w_mI) (C7 _ w_minC) hf ?_ hcs hsl hd (kk p e s m args below meth c C H locs ls X1 X2 X3)
  have := gRest (w := w) hst
  show _ ≤ y.2.2.2.2.2
  omega
theorem g_mabs {ix : Nat} {x : Int32} (hd : decode y.2.1 pc = .ok (.invokestatic ix, 3)) (q : Nat) (hq : pc + 3 = q) (h1 : Cond.methodLink y.1.cls ix Lib.Math.abs.name ∈ gTs) (hf : 1 ≤ y.2.2.2.2.1) (hl : 21 ≤ y.2.2.2.2.2) (hst : (st.map fun v => v.category).sum ≤ 8) (hcs : cs ≤ mc) (hsl : sl ≤ ms) (v : Int32) (hv : (if 0 ≤ x then x else 0 - x) = v) (kk : G w E al n y mc ms P cs sl h q L (.int v :: st)) : G w E al n y mc ms P cs sl h pc L (.int x :: st) := by
  subst hq
  subst hv
  intro p e s m args below meth c C H locs ls X1 X2 X3
  obtain ⟨C1, C2, C3, C4, C5, C6, C7, C8, C9, C10, C11⟩ := id C
  refine va_mabs C1 C2 (C3.trans X3.1.symm) C6 (C7 _ h1) (C7 _ w_absS) (C7 _ w_mI) (C7 _ w_absC) hf ?_ hcs hsl hd (kk p e s m args below meth c C H locs ls X1 X2 X3)
  have := gRest (w := w) hst
  show _ ≤ y.2.2.2.2.2
  omega
end GMath
