/-! rows of G: an instruction each; q is the next place of the code -/
section GRows
variable {w : gW} {E : State → Prop} {al : Bool} {n : Nat} {y : gY} {mc ms : Nat} {P : gP} {cs sl : Nat} {h : gH} {pc : Nat} {L st : List Value}
theorem g_iconst {i : Int} (v : Int32) (hd : decode y.2.1 pc = .ok (.iconst i, 1)) (q : Nat) (hq : pc + 1 = q) (hv : Int32.ofInt i = v) (k : G w E al n y mc ms P cs sl h q L (.int v :: st)) : G w E al n y mc ms P cs sl h pc L (st) := by
  subst hq
  intro p e s m args below meth c C H locs ls X1 X2 X3
  exact lv_iconst C.1 C.2.1 hd hv (k p e s m args below meth c C H locs ls X1 X2 X3)
theorem g_bipush {i : Int} (v : Int32) (hd : decode y.2.1 pc = .ok (.bipush i, 2)) (q : Nat) (hq : pc + 2 = q) (hv : (Int8.ofInt i).toInt32 = v) (k : G w E al n y mc ms P cs sl h q L (.int v :: st)) : G w E al n y mc ms P cs sl h pc L (st) := by
  subst hq
  intro p e s m args below meth c C H locs ls X1 X2 X3
  exact lv_bipush C.1 C.2.1 hd hv (k p e s m args below meth c C H locs ls X1 X2 X3)
theorem g_sipush {i : Int} (v : Int32) (hd : decode y.2.1 pc = .ok (.sipush i, 3)) (q : Nat) (hq : pc + 3 = q) (hv : (Int16.ofInt i).toInt32 = v) (k : G w E al n y mc ms P cs sl h q L (.int v :: st)) : G w E al n y mc ms P cs sl h pc L (st) := by
  subst hq
  intro p e s m args below meth c C H locs ls X1 X2 X3
  exact lv_sipush C.1 C.2.1 hd hv (k p e s m args below meth c C H locs ls X1 X2 X3)
theorem g_lconst {i : Fin 2} (v : Int64) (hd : decode y.2.1 pc = .ok (.lconst i, 1)) (q : Nat) (hq : pc + 1 = q) (hv : Int64.ofNat (i : Nat) = v) (k : G w E al n y mc ms P cs sl h q L (.long v :: st)) : G w E al n y mc ms P cs sl h pc L (st) := by
  subst hq
  intro p e s m args below meth c C H locs ls X1 X2 X3
  exact lv_lconst C.1 C.2.1 hd hv (k p e s m args below meth c C H locs ls X1 X2 X3)
theorem g_iadd' {x z : Int32} (hd : decode y.2.1 pc = .ok (.iadd, 1)) (q : Nat) (hq : pc + 1 = q) (v : Int32) (hv : x + z = v) (k : G w E al n y mc ms P cs sl h q L (.int v :: st)) : G w E al n y mc ms P cs sl h pc L (.int z :: .int x :: st) := by
  subst hq
  subst hv
  intro p e s m args below meth c C H locs ls X1 X2 X3
  exact lv_iadd C.1 C.2.1 hd (k p e s m args below meth c C H locs ls X1 X2 X3)
theorem g_isub' {x z : Int32} (hd : decode y.2.1 pc = .ok (.isub, 1)) (q : Nat) (hq : pc + 1 = q) (v : Int32) (hv : x - z = v) (k : G w E al n y mc ms P cs sl h q L (.int v :: st)) : G w E al n y mc ms P cs sl h pc L (.int z :: .int x :: st) := by
  subst hq
  subst hv
  intro p e s m args below meth c C H locs ls X1 X2 X3
  exact lv_isub C.1 C.2.1 hd (k p e s m args below meth c C H locs ls X1 X2 X3)
theorem g_imul' {x z : Int32} (hd : decode y.2.1 pc = .ok (.imul, 1)) (q : Nat) (hq : pc + 1 = q) (v : Int32) (hv : x * z = v) (k : G w E al n y mc ms P cs sl h q L (.int v :: st)) : G w E al n y mc ms P cs sl h pc L (.int z :: .int x :: st) := by
  subst hq
  subst hv
  intro p e s m args below meth c C H locs ls X1 X2 X3
  exact lv_imul C.1 C.2.1 hd (k p e s m args below meth c C H locs ls X1 X2 X3)
theorem g_ishl' {x z : Int32} (hd : decode y.2.1 pc = .ok (.ishl, 1)) (q : Nat) (hq : pc + 1 = q) (v : Int32) (hv : x <<< (z &&& 31) = v) (k : G w E al n y mc ms P cs sl h q L (.int v :: st)) : G w E al n y mc ms P cs sl h pc L (.int z :: .int x :: st) := by
  subst hq
  subst hv
  intro p e s m args below meth c C H locs ls X1 X2 X3
  exact lv_ishl C.1 C.2.1 hd (k p e s m args below meth c C H locs ls X1 X2 X3)
theorem g_ishr' {x z : Int32} (hd : decode y.2.1 pc = .ok (.ishr, 1)) (q : Nat) (hq : pc + 1 = q) (v : Int32) (hv : x >>> (z &&& 31) = v) (k : G w E al n y mc ms P cs sl h q L (.int v :: st)) : G w E al n y mc ms P cs sl h pc L (.int z :: .int x :: st) := by
  subst hq
  subst hv
  intro p e s m args below meth c C H locs ls X1 X2 X3
  exact lv_ishr C.1 C.2.1 hd (k p e s m args below meth c C H locs ls X1 X2 X3)
theorem g_iand' {x z : Int32} (hd : decode y.2.1 pc = .ok (.iand, 1)) (q : Nat) (hq : pc + 1 = q) (v : Int32) (hv : x &&& z = v) (k : G w E al n y mc ms P cs sl h q L (.int v :: st)) : G w E al n y mc ms P cs sl h pc L (.int z :: .int x :: st) := by
  subst hq
  subst hv
  intro p e s m args below meth c C H locs ls X1 X2 X3
  exact lv_iand C.1 C.2.1 hd (k p e s m args below meth c C H locs ls X1 X2 X3)
theorem g_ior' {x z : Int32} (hd : decode y.2.1 pc = .ok (.ior, 1)) (q : Nat) (hq : pc + 1 = q) (v : Int32) (hv : x ||| z = v) (k : G w E al n y mc ms P cs sl h q L (.int v :: st)) : G w E al n y mc ms P cs sl h pc L (.int z :: .int x :: st) := by
  subst hq
  subst hv
  intro p e s m args below meth c C H locs ls X1 X2 X3
  exact lv_ior C.1 C.2.1 hd (k p e s m args below meth c C H locs ls X1 X2 X3)
theorem g_iadd {x z : Int32} (hd : decode y.2.1 pc = .ok (.iadd, 1)) (q : Nat) (hq : pc + 1 = q) (k : G w E al n y mc ms P cs sl h q L (.int (x + z) :: st)) : G w E al n y mc ms P cs sl h pc L (.int z :: .int x :: st) := by
  subst hq
  intro p e s m args below meth c C H locs ls X1 X2 X3
  exact lv_iadd C.1 C.2.1 hd (k p e s m args below meth c C H locs ls X1 X2 X3)
theorem g_isub {x z : Int32} (hd : decode y.2.1 pc = .ok (.isub, 1)) (q : Nat) (hq : pc + 1 = q) (k : G w E al n y mc ms P cs sl h q L (.int (x - z) :: st)) : G w E al n y mc ms P cs sl h pc L (.int z :: .int x :: st) := by
  subst hq
  intro p e s m args below meth c C H locs ls X1 X2 X3
  exact lv_isub C.1 C.2.1 hd (k p e s m args below meth c C H locs ls X1 X2 X3)
theorem g_imul {x z : Int32} (hd : decode y.2.1 pc = .ok (.imul, 1)) (q : Nat) (hq : pc + 1 = q) (k : G w E al n y mc ms P cs sl h q L (.int (x * z) :: st)) : G w E al n y mc ms P cs sl h pc L (.int z :: .int x :: st) := by
  subst hq
  intro p e s m args below meth c C H locs ls X1 X2 X3
  exact lv_imul C.1 C.2.1 hd (k p e s m args below meth c C H locs ls X1 X2 X3)
theorem g_iand {x z : Int32} (hd : decode y.2.1 pc = .ok (.iand, 1)) (q : Nat) (hq : pc + 1 = q) (k : G w E al n y mc ms P cs sl h q L (.int (x &&& z) :: st)) : G w E al n y mc ms P cs sl h pc L (.int z :: .int x :: st) := by
  subst hq
  intro p e s m args below meth c C H locs ls X1 X2 X3
  exact lv_iand C.1 C.2.1 hd (k p e s m args below meth c C H locs ls X1 X2 X3)
theorem g_ior {x z : Int32} (hd : decode y.2.1 pc = .ok (.ior, 1)) (q : Nat) (hq : pc + 1 = q) (k : G w E al n y mc ms P cs sl h q L (.int (x ||| z) :: st)) : G w E al n y mc ms P cs sl h pc L (.int z :: .int x :: st) := by
  subst hq
  intro p e s m args below meth c C H locs ls X1 X2 X3
  exact lv_ior C.1 C.2.1 hd (k p e s m args below meth c C H locs ls X1 X2 X3)
theorem g_ixor {x z : Int32} (hd : decode y.2.1 pc = .ok (.ixor, 1)) (q : Nat) (hq : pc + 1 = q) (k : G w E al n y mc ms P cs sl h q L (.int (x ^^^ z) :: st)) : G w E al n y mc ms P cs sl h pc L (.int z :: .int x :: st) := by
  subst hq
  intro p e s m args below meth c C H locs ls X1 X2 X3
  exact lv_ixor C.1 C.2.1 hd (k p e s m args below meth c C H locs ls X1 X2 X3)
theorem g_ishl {x z : Int32} (hd : decode y.2.1 pc = .ok (.ishl, 1)) (q : Nat) (hq : pc + 1 = q) (k : G w E al n y mc ms P cs sl h q L (.int (x <<< (z &&& 31)) :: st)) : G w E al n y mc ms P cs sl h pc L (.int z :: .int x :: st) := by
  subst hq
  intro p e s m args below meth c C H locs ls X1 X2 X3
  exact lv_ishl C.1 C.2.1 hd (k p e s m args below meth c C H locs ls X1 X2 X3)
theorem g_ishr {x z : Int32} (hd : decode y.2.1 pc = .ok (.ishr, 1)) (q : Nat) (hq : pc + 1 = q) (k : G w E al n y mc ms P cs sl h q L (.int (x >>> (z &&& 31)) :: st)) : G w E al n y mc ms P cs sl h pc L (.int z :: .int x :: st) := by
  subst hq
  intro p e s m args below meth c C H locs ls X1 X2 X3
  exact lv_ishr C.1 C.2.1 hd (k p e s m args below meth c C H locs ls X1 X2 X3)
theorem g_iushr {x z : Int32} (hd : decode y.2.1 pc = .ok (.iushr, 1)) (q : Nat) (hq : pc + 1 = q) (k : G w E al n y mc ms P cs sl h q L (.int ((x.toUInt32 >>> (z.toUInt32 &&& Int32.toUInt32 31)).toInt32) :: st)) : G w E al n y mc ms P cs sl h pc L (.int z :: .int x :: st) := by
  subst hq
  intro p e s m args below meth c C H locs ls X1 X2 X3
  exact lv_iushr C.1 C.2.1 hd rfl (k p e s m args below meth c C H locs ls X1 X2 X3)
theorem g_idiv {x z : Int32} (hd : decode y.2.1 pc = .ok (.idiv, 1)) (q : Nat) (hq : pc + 1 = q) (hz : ¬ z = 0) (k : G w E al n y mc ms P cs sl h q L (.int (x / z) :: st)) : G w E al n y mc ms P cs sl h pc L (.int z :: .int x :: st) := by
  subst hq
  intro p e s m args below meth c C H locs ls X1 X2 X3
  exact lv_idiv C.1 C.2.1 hd hz (k p e s m args below meth c C H locs ls X1 X2 X3)
theorem g_irem {x z : Int32} (hd : decode y.2.1 pc = .ok (.irem, 1)) (q : Nat) (hq : pc + 1 = q) (hz : ¬ z = 0) (k : G w E al n y mc ms P cs sl h q L (.int (x - x / z * z) :: st)) : G w E al n y mc ms P cs sl h pc L (.int z :: .int x :: st) := by
  subst hq
  intro p e s m args below meth c C H locs ls X1 X2 X3
  exact lv_irem C.1 C.2.1 hd hz (k p e s m args below meth c C H locs ls X1 X2 X3)
theorem g_idiv' {x z : Int32} (hd : decode y.2.1 pc = .ok (.idiv, 1)) (q : Nat) (hq : pc + 1 = q) (hz : ¬ z = 0) (v : Int32) (hv : x / z = v) (k : G w E al n y mc ms P cs sl h q L (.int v :: st)) : G w E al n y mc ms P cs sl h pc L (.int z :: .int x :: st) := by
  subst hq
  subst hv
  intro p e s m args below meth c C H locs ls X1 X2 X3
  exact lv_idiv C.1 C.2.1 hd hz (k p e s m args below meth c C H locs ls X1 X2 X3)
theorem g_irem' {x z : Int32} (hd : decode y.2.1 pc = .ok (.irem, 1)) (q : Nat) (hq : pc + 1 = q) (hz : ¬ z = 0) (v : Int32) (hv : x - x / z * z = v) (k : G w E al n y mc ms P cs sl h q L (.int v :: st)) : G w E al n y mc ms P cs sl h pc L (.int z :: .int x :: st) := by
  subst hq
  subst hv
  intro p e s m args below meth c C H locs ls X1 X2 X3
  exact lv_irem C.1 C.2.1 hd hz (k p e s m args below meth c C H locs ls X1 X2 X3)
theorem g_l2i' {x : Int64} (hd : decode y.2.1 pc = .ok (.l2i, 1)) (q : Nat) (hq : pc + 1 = q) (v : Int32) (hv : x.toInt32 = v) (k : G w E al n y mc ms P cs sl h q L (.int v :: st)) : G w E al n y mc ms P cs sl h pc L (.long x :: st) := by
  subst hq
  intro p e s m args below meth c C H locs ls X1 X2 X3
  exact lv_l2i C.1 C.2.1 hd hv (k p e s m args below meth c C H locs ls X1 X2 X3)
theorem g_ineg {x : Int32} (hd : decode y.2.1 pc = .ok (.ineg, 1)) (q : Nat) (hq : pc + 1 = q) (k : G w E al n y mc ms P cs sl h q L (.int (-x) :: st)) : G w E al n y mc ms P cs sl h pc L (.int x :: st) := by
  subst hq
  intro p e s m args below meth c C H locs ls X1 X2 X3
  exact lv_ineg C.1 C.2.1 hd (k p e s m args below meth c C H locs ls X1 X2 X3)
theorem g_ladd {x z : Int64} (hd : decode y.2.1 pc = .ok (.ladd, 1)) (q : Nat) (hq : pc + 1 = q) (k : G w E al n y mc ms P cs sl h q L (.long (x + z) :: st)) : G w E al n y mc ms P cs sl h pc L (.long z :: .long x :: st) := by
  subst hq
  intro p e s m args below meth c C H locs ls X1 X2 X3
  exact lv_ladd C.1 C.2.1 hd (k p e s m args below meth c C H locs ls X1 X2 X3)
theorem g_lmul {x z : Int64} (hd : decode y.2.1 pc = .ok (.lmul, 1)) (q : Nat) (hq : pc + 1 = q) (k : G w E al n y mc ms P cs sl h q L (.long (x * z) :: st)) : G w E al n y mc ms P cs sl h pc L (.long z :: .long x :: st) := by
  subst hq
  intro p e s m args below meth c C H locs ls X1 X2 X3
  exact lv_lmul C.1 C.2.1 hd (k p e s m args below meth c C H locs ls X1 X2 X3)
theorem g_ldiv {x z : Int64} (hd : decode y.2.1 pc = .ok (.ldiv, 1)) (q : Nat) (hq : pc + 1 = q) (hz : ¬ z = 0) (k : G w E al n y mc ms P cs sl h q L (.long (x / z) :: st)) : G w E al n y mc ms P cs sl h pc L (.long z :: .long x :: st) := by
  subst hq
  intro p e s m args below meth c C H locs ls X1 X2 X3
  exact lv_ldiv C.1 C.2.1 hd hz (k p e s m args below meth c C H locs ls X1 X2 X3)
theorem g_lrem {x z : Int64} (hd : decode y.2.1 pc = .ok (.lrem, 1)) (q : Nat) (hq : pc + 1 = q) (hz : ¬ z = 0) (k : G w E al n y mc ms P cs sl h q L (.long (x - x / z * z) :: st)) : G w E al n y mc ms P cs sl h pc L (.long z :: .long x :: st) := by
  subst hq
  intro p e s m args below meth c C H locs ls X1 X2 X3
  exact lv_lrem C.1 C.2.1 hd hz (k p e s m args below meth c C H locs ls X1 X2 X3)
theorem g_lcmp {x z : Int64} (hd : decode y.2.1 pc = .ok (.lcmp, 1)) (q : Nat) (hq : pc + 1 = q) (k : G w E al n y mc ms P cs sl h q L (.int (lg_cmp x z) :: st)) : G w E al n y mc ms P cs sl h pc L (.long z :: .long x :: st) := by
  subst hq
  intro p e s m args below meth c C H locs ls X1 X2 X3
  exact W.lcmp C.1 C.2.1 hd (k p e s m args below meth c C H locs ls X1 X2 X3)
theorem g_i2l {x : Int32} (hd : decode y.2.1 pc = .ok (.i2l, 1)) (q : Nat) (hq : pc + 1 = q) (k : G w E al n y mc ms P cs sl h q L (.long x.toInt64 :: st)) : G w E al n y mc ms P cs sl h pc L (.int x :: st) := by
  subst hq
  intro p e s m args below meth c C H locs ls X1 X2 X3
  exact lv_i2l C.1 C.2.1 hd rfl (k p e s m args below meth c C H locs ls X1 X2 X3)
theorem g_l2i {x : Int64} (hd : decode y.2.1 pc = .ok (.l2i, 1)) (q : Nat) (hq : pc + 1 = q) (k : G w E al n y mc ms P cs sl h q L (.int x.toInt32 :: st)) : G w E al n y mc ms P cs sl h pc L (.long x :: st) := by
  subst hq
  intro p e s m args below meth c C H locs ls X1 X2 X3
  exact lv_l2i C.1 C.2.1 hd rfl (k p e s m args below meth c C H locs ls X1 X2 X3)
theorem g_null (hd : decode y.2.1 pc = .ok (.aconst_null, 1)) (q : Nat) (hq : pc + 1 = q) (k : G w E al n y mc ms P cs sl h q L (.null :: st)) : G w E al n y mc ms P cs sl h pc L (st) := by
  subst hq
  intro p e s m args below meth c C H locs ls X1 X2 X3
  exact lv_null C.1 C.2.1 hd (k p e s m args below meth c C H locs ls X1 X2 X3)
theorem gv_cat (w : gW) (v : Value) : (gv w v).category = v.category := by cases v <;> rfl
theorem g_dup {v : Value} (hd : decode y.2.1 pc = .ok (.dup, 1)) (q : Nat) (hq : pc + 1 = q) (hv : v.category = 1) (k : G w E al n y mc ms P cs sl h q L (v :: v :: st)) : G w E al n y mc ms P cs sl h pc L (v :: st) := by
  subst hq
  intro p e s m args below meth c C H locs ls X1 X2 X3
  exact lv_dup C.1 C.2.1 hd ((gv_cat w v).trans hv) (k p e s m args below meth c C H locs ls X1 X2 X3)
theorem g_pop {v : Value} (hd : decode y.2.1 pc = .ok (.pop, 1)) (q : Nat) (hq : pc + 1 = q) (hv : v.category = 1) (k : G w E al n y mc ms P cs sl h q L (st)) : G w E al n y mc ms P cs sl h pc L (v :: st) := by
  subst hq
  intro p e s m args below meth c C H locs ls X1 X2 X3
  exact lv_pop C.1 C.2.1 hd ((gv_cat w v).trans hv) (k p e s m args below meth c C H locs ls X1 X2 X3)
theorem g_dup2 {v u : Value} (hd : decode y.2.1 pc = .ok (.dup2, 1)) (q : Nat) (hq : pc + 1 = q) (hv : v.category = 1) (hu : u.category = 1) (k : G w E al n y mc ms P cs sl h q L (v :: u :: v :: u :: st)) : G w E al n y mc ms P cs sl h pc L (v :: u :: st) := by
  subst hq
  intro p e s m args below meth c C H locs ls X1 X2 X3
  exact lv_dup2_11 C.1 C.2.1 hd ((gv_cat w v).trans hv) ((gv_cat w u).trans hu) (k p e s m args below meth c C H locs ls X1 X2 X3)
theorem g_iload {i : Nat} {x : Int32} (hd : decode y.2.1 pc = .ok (.iload i, 2)) (q : Nat) (hq : pc + 2 = q) (hl : L[i]? = some (.int x)) (k : G w E al n y mc ms P cs sl h q L (.int x :: st)) : G w E al n y mc ms P cs sl h pc L st := by
  subst hq
  intro p e s m args below meth c C H locs ls X1 X2 X3
  exact lv_iload C.1 C.2.1 hd (X3.2.2.2 i _ hl (by simp [gF])) (k p e s m args below meth c C H locs ls X1 X2 X3)
theorem g_iload_n {j : Fin 4} {i : Nat} {x : Int32} (hd : decode y.2.1 pc = .ok (.iload_n j, 1)) (hi : (j : Nat) = i) (q : Nat) (hq : pc + 1 = q) (hl : L[i]? = some (.int x)) (k : G w E al n y mc ms P cs sl h q L (.int x :: st)) : G w E al n y mc ms P cs sl h pc L st := by
  subst hq
  intro p e s m args below meth c C H locs ls X1 X2 X3
  exact lv_iload_n C.1 C.2.1 hd hi (X3.2.2.2 i _ hl (by simp [gF])) (k p e s m args below meth c C H locs ls X1 X2 X3)
theorem g_lload {i : Nat} {x : Int64} (hd : decode y.2.1 pc = .ok (.lload i, 2)) (q : Nat) (hq : pc + 2 = q) (hl : L[i]? = some (.long x)) (k : G w E al n y mc ms P cs sl h q L (.long x :: st)) : G w E al n y mc ms P cs sl h pc L st := by
  subst hq
  intro p e s m args below meth c C H locs ls X1 X2 X3
  exact lv_lload C.1 C.2.1 hd (X3.2.2.2 i _ hl (by simp [gF])) (k p e s m args below meth c C H locs ls X1 X2 X3)
theorem g_lload_n {j : Fin 4} {i : Nat} {x : Int64} (hd : decode y.2.1 pc = .ok (.lload_n j, 1)) (hi : (j : Nat) = i) (q : Nat) (hq : pc + 1 = q) (hl : L[i]? = some (.long x)) (k : G w E al n y mc ms P cs sl h q L (.long x :: st)) : G w E al n y mc ms P cs sl h pc L st := by
  subst hq
  intro p e s m args below meth c C H locs ls X1 X2 X3
  exact lv_lload_n C.1 C.2.1 hd hi (X3.2.2.2 i _ hl (by simp [gF])) (k p e s m args below meth c C H locs ls X1 X2 X3)
theorem g_aload {i : Nat} {x : Nat} (hd : decode y.2.1 pc = .ok (.aload i, 2)) (q : Nat) (hq : pc + 2 = q) (hl : L[i]? = some (.ref x)) (k : G w E al n y mc ms P cs sl h q L (.ref x :: st)) : G w E al n y mc ms P cs sl h pc L st := by
  subst hq
  intro p e s m args below meth c C H locs ls X1 X2 X3
  exact lv_aload C.1 C.2.1 hd (X3.2.2.2 i _ hl (by simp [gF])) (k p e s m args below meth c C H locs ls X1 X2 X3)
theorem g_aload_n {j : Fin 4} {i : Nat} {x : Nat} (hd : decode y.2.1 pc = .ok (.aload_n j, 1)) (hi : (j : Nat) = i) (q : Nat) (hq : pc + 1 = q) (hl : L[i]? = some (.ref x)) (k : G w E al n y mc ms P cs sl h q L (.ref x :: st)) : G w E al n y mc ms P cs sl h pc L st := by
  subst hq
  intro p e s m args below meth c C H locs ls X1 X2 X3
  exact lv_aload_n C.1 C.2.1 hd hi (X3.2.2.2 i _ hl (by simp [gF])) (k p e s m args below meth c C H locs ls X1 X2 X3)
end GRows
/-- the locals that hold something, by their places -/
def gLs (w : gW) (L : List Value) : List (Nat × Value) := (List.range L.length).filterMap (fun i => (L[i]?).bind (fun v => if v = gF then none else some (i, gv w v)))
theorem gLs_mem {w : gW} {L : List Value} {j : Nat} {u : Value} : (j, u) ∈ gLs w L ↔ ∃ v, L[j]? = some v ∧ v ≠ gF ∧ u = gv w v := by
  unfold gLs
  rw [List.mem_filterMap]
  constructor
  · rintro ⟨i, hi, h⟩
    rw [Option.bind_eq_some_iff] at h
    obtain ⟨v, h1, h2⟩ := h
    by_cases hv : v = gF
    · rw [if_pos hv] at h2; cases h2
    · rw [if_neg hv] at h2
      cases h2
      exact ⟨v, h1, hv, rfl⟩
  · rintro ⟨v, h1, h2, rfl⟩
    refine ⟨j, List.mem_range.mpr (List.getElem?_eq_some_iff.mp h1).1, ?_⟩
    rw [h1, Option.bind_some, if_neg h2]
theorem gL.has {w : gW} {nL : Nat} {ls : Array Slot} {L : List Value} (h : gL w nL ls L) : lv_has ls nL (gLs w L) := by
  refine ⟨h.1, h.2.1, fun q hq => ?_⟩
  obtain ⟨j, u⟩ := q
  obtain ⟨v, h1, h2, rfl⟩ := gLs_mem.mp hq
  exact h.2.2.2 j v h1 h2
theorem gL.st1 {w : gW} {nL i : Nat} {L : List Value} {v : Value} (hi : i < nL) (hn : L.length = nL) (hc : ∀ (j : Nat) (u : Value), j + 1 = i → L[j]? = some u → u.category = 1) {ls' : Array Slot}
    (h : lv_has ls' nL ((i, gv w v) :: (gLs w L).filter (fun q => !(q.1 == i) && !(q.1 + 1 == i && q.2.category == 2)))) : gL w nL ls' (L.set i v) := by
  refine ⟨h.1, h.2.1, by rw [List.length_set]; exact hn, fun j u hj hu => ?_⟩
  by_cases hji : i = j
  · subst hji
    rw [List.getElem?_set_self (by omega)] at hj
    cases hj
    exact h.2.2 _ List.mem_cons_self
  · rw [List.getElem?_set_ne hji] at hj
    refine h.2.2 (j, gv w u) (List.mem_cons_of_mem _ (List.mem_filter.mpr ⟨gLs_mem.mpr ⟨u, hj, hu, rfl⟩, ?_⟩))
    simp only [Bool.and_eq_true, Bool.not_eq_true', beq_eq_false_iff_ne, ne_eq, Bool.and_eq_false_iff]
    refine ⟨fun z => hji z.symm, ?_⟩
    by_cases hj1 : j + 1 = i
    · refine Or.inr (fun z => ?_)
      rw [gv_cat, hc j u hj1 hj] at z
      cases z
    · exact Or.inl hj1
theorem gL.st2 {w : gW} {nL i : Nat} {L : List Value} {v : Value} (hi : i + 1 < nL) (hn : L.length = nL) (hc : ∀ (j : Nat) (u : Value), j + 1 = i → L[j]? = some u → u.category = 1) {ls' : Array Slot}
    (h : lv_has ls' nL ((i, gv w v) :: (gLs w L).filter (fun q => !(q.1 == i) && (!(q.1 == i + 1) && !(q.1 + 1 == i && q.2.category == 2))))) : gL w nL ls' ((L.set i v).set (i + 1) gF) := by
  refine ⟨h.1, h.2.1, by rw [List.length_set, List.length_set]; exact hn, fun j u hj hu => ?_⟩
  by_cases hj1 : i + 1 = j
  · subst hj1
    rw [List.getElem?_set_self (by rw [List.length_set]; omega)] at hj
    cases hj
    exact absurd rfl hu
  rw [List.getElem?_set_ne hj1] at hj
  by_cases hji : i = j
  · subst hji
    rw [List.getElem?_set_self (by omega)] at hj
    cases hj
    exact h.2.2 _ List.mem_cons_self
  · rw [List.getElem?_set_ne hji] at hj
    refine h.2.2 (j, gv w u) (List.mem_cons_of_mem _ (List.mem_filter.mpr ⟨gLs_mem.mpr ⟨u, hj, hu, rfl⟩, ?_⟩))
    simp only [Bool.and_eq_true, Bool.not_eq_true', beq_eq_false_iff_ne, ne_eq, Bool.and_eq_false_iff]
    refine ⟨fun z => hji z.symm, fun z => hj1 z.symm, ?_⟩
    by_cases hjj : j + 1 = i
    · refine Or.inr (fun z => ?_)
      rw [gv_cat, hc j u hjj hj] at z
      cases z
    · exact Or.inl hjj
section GStores
variable {w : gW} {E : State → Prop} {al : Bool} {n : Nat} {y : gY} {mc ms : Nat} {P : gP} {cs sl : Nat} {h : gH} {pc : Nat} {L st : List Value}
theorem g_istore {i : Nat} {x : Int32} (hd : decode y.2.1 pc = .ok (.istore i, 2)) (q : Nat) (hq : pc + 2 = q) (hb : i < y.2.2.1) (hc : ∀ (j : Nat) (u : Value), j + 1 = i → L[j]? = some u → u.category = 1) {L' : List Value} (hL : L.set i (.int x) = L') (k : G w E al n y mc ms P cs sl h q L' st) : G w E al n y mc ms P cs sl h pc L (.int x :: st) := by
  subst hq
  subst hL
  intro p e s m args below meth c C H locs ls X1 X2 X3
  exact lv_istore C.1 C.2.1 hd X3.has hb rfl (fun ls' h' => k p e s m args below meth c C H locs ls' X1 X2 (gL.st1 (v := .int x) hb X3.2.2.1 hc h'))
theorem g_istore_n {j : Fin 4} {i : Nat} {x : Int32} (hd : decode y.2.1 pc = .ok (.istore_n j, 1)) (hi : (j : Nat) = i) (q : Nat) (hq : pc + 1 = q) (hb : i < y.2.2.1) (hc : ∀ (j : Nat) (u : Value), j + 1 = i → L[j]? = some u → u.category = 1) {L' : List Value} (hL : L.set i (.int x) = L') (k : G w E al n y mc ms P cs sl h q L' st) : G w E al n y mc ms P cs sl h pc L (.int x :: st) := by
  subst hq
  subst hL
  intro p e s m args below meth c C H locs ls X1 X2 X3
  exact lv_istore_n C.1 C.2.1 hd hi X3.has hb rfl (fun ls' h' => k p e s m args below meth c C H locs ls' X1 X2 (gL.st1 (v := .int x) hb X3.2.2.1 hc h'))
theorem g_lstore {i : Nat} {x : Int64} (hd : decode y.2.1 pc = .ok (.lstore i, 2)) (q : Nat) (hq : pc + 2 = q) (hb : i + 1 < y.2.2.1) (hc : ∀ (j : Nat) (u : Value), j + 1 = i → L[j]? = some u → u.category = 1) {L' : List Value} (hL : (L.set i (.long x)).set (i + 1) gF = L') (k : G w E al n y mc ms P cs sl h q L' st) : G w E al n y mc ms P cs sl h pc L (.long x :: st) := by
  subst hq
  subst hL
  intro p e s m args below meth c C H locs ls X1 X2 X3
  exact lv_lstore C.1 C.2.1 hd X3.has hb rfl (fun ls' h' => k p e s m args below meth c C H locs ls' X1 X2 (gL.st2 (v := .long x) hb X3.2.2.1 hc h'))
theorem g_lstore_n {j : Fin 4} {i : Nat} {x : Int64} (hd : decode y.2.1 pc = .ok (.lstore_n j, 1)) (hi : (j : Nat) = i) (q : Nat) (hq : pc + 1 = q) (hb : i + 1 < y.2.2.1) (hc : ∀ (j : Nat) (u : Value), j + 1 = i → L[j]? = some u → u.category = 1) {L' : List Value} (hL : (L.set i (.long x)).set (i + 1) gF = L') (k : G w E al n y mc ms P cs sl h q L' st) : G w E al n y mc ms P cs sl h pc L (.long x :: st) := by
  subst hq
  subst hL
  intro p e s m args below meth c C H locs ls X1 X2 X3
  exact lv_lstore_n C.1 C.2.1 hd hi X3.has hb rfl (fun ls' h' => k p e s m args below meth c C H locs ls' X1 X2 (gL.st2 (v := .long x) hb X3.2.2.1 hc h'))
theorem g_astore {i : Nat} {x : Nat} (hd : decode y.2.1 pc = .ok (.astore i, 2)) (q : Nat) (hq : pc + 2 = q) (hb : i < y.2.2.1) (hc : ∀ (j : Nat) (u : Value), j + 1 = i → L[j]? = some u → u.category = 1) {L' : List Value} (hL : L.set i (.ref x) = L') (k : G w E al n y mc ms P cs sl h q L' st) : G w E al n y mc ms P cs sl h pc L (.ref x :: st) := by
  subst hq
  subst hL
  intro p e s m args below meth c C H locs ls X1 X2 X3
  exact lv_astore C.1 C.2.1 hd X3.has hb rfl (fun ls' h' => k p e s m args below meth c C H locs ls' X1 X2 (gL.st1 (v := .ref x) hb X3.2.2.1 hc h'))
theorem g_astore_n {j : Fin 4} {i : Nat} {x : Nat} (hd : decode y.2.1 pc = .ok (.astore_n j, 1)) (hi : (j : Nat) = i) (q : Nat) (hq : pc + 1 = q) (hb : i < y.2.2.1) (hc : ∀ (j : Nat) (u : Value), j + 1 = i → L[j]? = some u → u.category = 1) {L' : List Value} (hL : L.set i (.ref x) = L') (k : G w E al n y mc ms P cs sl h q L' st) : G w E al n y mc ms P cs sl h pc L (.ref x :: st) := by
  subst hq
  subst hL
  intro p e s m args below meth c C H locs ls X1 X2 X3
  exact lv_astore_n C.1 C.2.1 hd hi X3.has hb rfl (fun ls' h' => k p e s m args below meth c C H locs ls' X1 X2 (gL.st1 (v := .ref x) hb X3.2.2.1 hc h'))
theorem g_iinc {i : Nat} {d : Int} {x : Int32} (hd : decode y.2.1 pc = .ok (.iinc i d, 3)) (q : Nat) (hq : pc + 3 = q) (hl : L[i]? = some (.int x)) (dv : Int32) (hv : Int32.ofInt d = dv) (hb : i < y.2.2.1) (hc : ∀ (j : Nat) (u : Value), j + 1 = i → L[j]? = some u → u.category = 1) {L' : List Value} (hL : L.set i (.int (x + dv)) = L') (k : G w E al n y mc ms P cs sl h q L' st) : G w E al n y mc ms P cs sl h pc L st := by
  subst hq
  subst hL
  subst hv
  intro p e s m args below meth c C H locs ls X1 X2 X3
  obtain ⟨kk, hkk⟩ := List.getElem?_of_mem (gLs_mem.mpr ⟨_, hl, by simp [gF], rfl⟩ : (i, gv w (.int x)) ∈ gLs w L)
  exact lv_iinc C.1 C.2.1 hd X3.has hkk rfl hb rfl (fun ls' h' => k p e s m args below meth c C H locs ls' X1 X2 (gL.st1 (v := .int (x + Int32.ofInt d)) hb X3.2.2.1 hc h'))
theorem g_istore0 {b0 : Value} {r : List Value} {x : Int32} (hd : decode y.2.1 pc = .ok (.istore_n 0, 1)) (q : Nat) (hq : pc + 1 = q) (hb : 0 < y.2.2.1) (k : G w E al n y mc ms P cs sl h q (.int x :: r) st) : G w E al n y mc ms P cs sl h pc (b0 :: r) (.int x :: st) :=
  g_istore_n hd rfl q hq hb (fun j u hj _ => absurd hj (by omega)) rfl k
theorem g_astore0 {b0 : Value} {r : List Value} {x : Nat} (hd : decode y.2.1 pc = .ok (.astore_n 0, 1)) (q : Nat) (hq : pc + 1 = q) (hb : 0 < y.2.2.1) (k : G w E al n y mc ms P cs sl h q (.ref x :: r) st) : G w E al n y mc ms P cs sl h pc (b0 :: r) (.ref x :: st) :=
  g_astore_n hd rfl q hq hb (fun j u hj _ => absurd hj (by omega)) rfl k
theorem g_iinc0 {r : List Value} {x : Int32} {d : Int} (hd : decode y.2.1 pc = .ok (.iinc 0 d, 3)) (q : Nat) (hq : pc + 3 = q) (dv : Int32) (hv : Int32.ofInt d = dv) (v : Int32) (hx : x + dv = v) (hb : 0 < y.2.2.1) (k : G w E al n y mc ms P cs sl h q (.int v :: r) st) : G w E al n y mc ms P cs sl h pc (.int x :: r) st :=
  g_iinc hd q hq rfl dv hv hb (fun j u hj _ => absurd hj (by omega)) (by subst hx; rfl) k
theorem g_lstore0 {b0 b1 : Value} {r : List Value} {x : Int64} (hd : decode y.2.1 pc = .ok (.lstore_n 0, 1)) (q : Nat) (hq : pc + 1 = q) (hb : 0 + 1 < y.2.2.1) (k : G w E al n y mc ms P cs sl h q (.long x :: gF :: r) st) : G w E al n y mc ms P cs sl h pc (b0 :: b1 :: r) (.long x :: st) :=
  g_lstore_n hd rfl q hq hb (fun j u hj _ => absurd hj (by omega)) rfl k
theorem g_istore1 {a0 b0 : Value} {r : List Value} {x : Int32} (hd : decode y.2.1 pc = .ok (.istore_n 1, 1)) (q : Nat) (hq : pc + 1 = q) (hb : 1 < y.2.2.1) (hc : a0.category = 1) (k : G w E al n y mc ms P cs sl h q (a0 :: .int x :: r) st) : G w E al n y mc ms P cs sl h pc (a0 :: b0 :: r) (.int x :: st) :=
  g_istore_n hd rfl q hq hb (by
    intro j u hj hu
    have hj' : j = 0 := by omega
    subst hj'
    simp only [List.getElem?_cons_succ, List.getElem?_cons_zero, Option.some.injEq] at hu
    subst hu
    exact hc) rfl k
theorem g_astore1 {a0 b0 : Value} {r : List Value} {x : Nat} (hd : decode y.2.1 pc = .ok (.astore_n 1, 1)) (q : Nat) (hq : pc + 1 = q) (hb : 1 < y.2.2.1) (hc : a0.category = 1) (k : G w E al n y mc ms P cs sl h q (a0 :: .ref x :: r) st) : G w E al n y mc ms P cs sl h pc (a0 :: b0 :: r) (.ref x :: st) :=
  g_astore_n hd rfl q hq hb (by
    intro j u hj hu
    have hj' : j = 0 := by omega
    subst hj'
    simp only [List.getElem?_cons_succ, List.getElem?_cons_zero, Option.some.injEq] at hu
    subst hu
    exact hc) rfl k
theorem g_iinc1 {a0 : Value} {r : List Value} {x : Int32} {d : Int} (hd : decode y.2.1 pc = .ok (.iinc 1 d, 3)) (q : Nat) (hq : pc + 3 = q) (dv : Int32) (hv : Int32.ofInt d = dv) (v : Int32) (hx : x + dv = v) (hb : 1 < y.2.2.1) (hc : a0.category = 1) (k : G w E al n y mc ms P cs sl h q (a0 :: .int v :: r) st) : G w E al n y mc ms P cs sl h pc (a0 :: .int x :: r) st :=
  g_iinc hd q hq rfl dv hv hb (by
    intro j u hj hu
    have hj' : j = 0 := by omega
    subst hj'
    simp only [List.getElem?_cons_succ, List.getElem?_cons_zero, Option.some.injEq] at hu
    subst hu
    exact hc) (by subst hx; rfl) k
theorem g_lstore1 {a0 b0 b1 : Value} {r : List Value} {x : Int64} (hd : decode y.2.1 pc = .ok (.lstore_n 1, 1)) (q : Nat) (hq : pc + 1 = q) (hb : 1 + 1 < y.2.2.1) (hc : a0.category = 1) (k : G w E al n y mc ms P cs sl h q (a0 :: .long x :: gF :: r) st) : G w E al n y mc ms P cs sl h pc (a0 :: b0 :: b1 :: r) (.long x :: st) :=
  g_lstore_n hd rfl q hq hb (by
    intro j u hj hu
    have hj' : j = 0 := by omega
    subst hj'
    simp only [List.getElem?_cons_succ, List.getElem?_cons_zero, Option.some.injEq] at hu
    subst hu
    exact hc) rfl k
theorem g_istore2 {a0 a1 b0 : Value} {r : List Value} {x : Int32} (hd : decode y.2.1 pc = .ok (.istore_n 2, 1)) (q : Nat) (hq : pc + 1 = q) (hb : 2 < y.2.2.1) (hc : a1.category = 1) (k : G w E al n y mc ms P cs sl h q (a0 :: a1 :: .int x :: r) st) : G w E al n y mc ms P cs sl h pc (a0 :: a1 :: b0 :: r) (.int x :: st) :=
  g_istore_n hd rfl q hq hb (by
    intro j u hj hu
    have hj' : j = 1 := by omega
    subst hj'
    simp only [List.getElem?_cons_succ, List.getElem?_cons_zero, Option.some.injEq] at hu
    subst hu
    exact hc) rfl k
theorem g_astore2 {a0 a1 b0 : Value} {r : List Value} {x : Nat} (hd : decode y.2.1 pc = .ok (.astore_n 2, 1)) (q : Nat) (hq : pc + 1 = q) (hb : 2 < y.2.2.1) (hc : a1.category = 1) (k : G w E al n y mc ms P cs sl h q (a0 :: a1 :: .ref x :: r) st) : G w E al n y mc ms P cs sl h pc (a0 :: a1 :: b0 :: r) (.ref x :: st) :=
  g_astore_n hd rfl q hq hb (by
    intro j u hj hu
    have hj' : j = 1 := by omega
    subst hj'
    simp only [List.getElem?_cons_succ, List.getElem?_cons_zero, Option.some.injEq] at hu
    subst hu
    exact hc) rfl k
theorem g_iinc2 {a0 a1 : Value} {r : List Value} {x : Int32} {d : Int} (hd : decode y.2.1 pc = .ok (.iinc 2 d, 3)) (q : Nat) (hq : pc + 3 = q) (dv : Int32) (hv : Int32.ofInt d = dv) (v : Int32) (hx : x + dv = v) (hb : 2 < y.2.2.1) (hc : a1.category = 1) (k : G w E al n y mc ms P cs sl h q (a0 :: a1 :: .int v :: r) st) : G w E al n y mc ms P cs sl h pc (a0 :: a1 :: .int x :: r) st :=
  g_iinc hd q hq rfl dv hv hb (by
    intro j u hj hu
    have hj' : j = 1 := by omega
    subst hj'
    simp only [List.getElem?_cons_succ, List.getElem?_cons_zero, Option.some.injEq] at hu
    subst hu
    exact hc) (by subst hx; rfl) k
theorem g_lstore2 {a0 a1 b0 b1 : Value} {r : List Value} {x : Int64} (hd : decode y.2.1 pc = .ok (.lstore_n 2, 1)) (q : Nat) (hq : pc + 1 = q) (hb : 2 + 1 < y.2.2.1) (hc : a1.category = 1) (k : G w E al n y mc ms P cs sl h q (a0 :: a1 :: .long x :: gF :: r) st) : G w E al n y mc ms P cs sl h pc (a0 :: a1 :: b0 :: b1 :: r) (.long x :: st) :=
  g_lstore_n hd rfl q hq hb (by
    intro j u hj hu
    have hj' : j = 1 := by omega
    subst hj'
    simp only [List.getElem?_cons_succ, List.getElem?_cons_zero, Option.some.injEq] at hu
    subst hu
    exact hc) rfl k
theorem g_istore3 {a0 a1 a2 b0 : Value} {r : List Value} {x : Int32} (hd : decode y.2.1 pc = .ok (.istore_n 3, 1)) (q : Nat) (hq : pc + 1 = q) (hb : 3 < y.2.2.1) (hc : a2.category = 1) (k : G w E al n y mc ms P cs sl h q (a0 :: a1 :: a2 :: .int x :: r) st) : G w E al n y mc ms P cs sl h pc (a0 :: a1 :: a2 :: b0 :: r) (.int x :: st) :=
  g_istore_n hd rfl q hq hb (by
    intro j u hj hu
    have hj' : j = 2 := by omega
    subst hj'
    simp only [List.getElem?_cons_succ, List.getElem?_cons_zero, Option.some.injEq] at hu
    subst hu
    exact hc) rfl k
theorem g_astore3 {a0 a1 a2 b0 : Value} {r : List Value} {x : Nat} (hd : decode y.2.1 pc = .ok (.astore_n 3, 1)) (q : Nat) (hq : pc + 1 = q) (hb : 3 < y.2.2.1) (hc : a2.category = 1) (k : G w E al n y mc ms P cs sl h q (a0 :: a1 :: a2 :: .ref x :: r) st) : G w E al n y mc ms P cs sl h pc (a0 :: a1 :: a2 :: b0 :: r) (.ref x :: st) :=
  g_astore_n hd rfl q hq hb (by
    intro j u hj hu
    have hj' : j = 2 := by omega
    subst hj'
    simp only [List.getElem?_cons_succ, List.getElem?_cons_zero, Option.some.injEq] at hu
    subst hu
    exact hc) rfl k
theorem g_iinc3 {a0 a1 a2 : Value} {r : List Value} {x : Int32} {d : Int} (hd : decode y.2.1 pc = .ok (.iinc 3 d, 3)) (q : Nat) (hq : pc + 3 = q) (dv : Int32) (hv : Int32.ofInt d = dv) (v : Int32) (hx : x + dv = v) (hb : 3 < y.2.2.1) (hc : a2.category = 1) (k : G w E al n y mc ms P cs sl h q (a0 :: a1 :: a2 :: .int v :: r) st) : G w E al n y mc ms P cs sl h pc (a0 :: a1 :: a2 :: .int x :: r) st :=
  g_iinc hd q hq rfl dv hv hb (by
    intro j u hj hu
    have hj' : j = 2 := by omega
    subst hj'
    simp only [List.getElem?_cons_succ, List.getElem?_cons_zero, Option.some.injEq] at hu
    subst hu
    exact hc) (by subst hx; rfl) k
theorem g_lstore3 {a0 a1 a2 b0 b1 : Value} {r : List Value} {x : Int64} (hd : decode y.2.1 pc = .ok (.lstore_n 3, 1)) (q : Nat) (hq : pc + 1 = q) (hb : 3 + 1 < y.2.2.1) (hc : a2.category = 1) (k : G w E al n y mc ms P cs sl h q (a0 :: a1 :: a2 :: .long x :: gF :: r) st) : G w E al n y mc ms P cs sl h pc (a0 :: a1 :: a2 :: b0 :: b1 :: r) (.long x :: st) :=
  g_lstore_n hd rfl q hq hb (by
    intro j u hj hu
    have hj' : j = 2 := by omega
    subst hj'
    simp only [List.getElem?_cons_succ, List.getElem?_cons_zero, Option.some.injEq] at hu
    subst hu
    exact hc) rfl k
theorem g_istore4 {a0 a1 a2 a3 b0 : Value} {r : List Value} {x : Int32} (hd : decode y.2.1 pc = .ok (.istore 4, 2)) (q : Nat) (hq : pc + 2 = q) (hb : 4 < y.2.2.1) (hc : a3.category = 1) (k : G w E al n y mc ms P cs sl h q (a0 :: a1 :: a2 :: a3 :: .int x :: r) st) : G w E al n y mc ms P cs sl h pc (a0 :: a1 :: a2 :: a3 :: b0 :: r) (.int x :: st) :=
  g_istore hd q hq hb (by
    intro j u hj hu
    have hj' : j = 3 := by omega
    subst hj'
    simp only [List.getElem?_cons_succ, List.getElem?_cons_zero, Option.some.injEq] at hu
    subst hu
    exact hc) rfl k
theorem g_astore4 {a0 a1 a2 a3 b0 : Value} {r : List Value} {x : Nat} (hd : decode y.2.1 pc = .ok (.astore 4, 2)) (q : Nat) (hq : pc + 2 = q) (hb : 4 < y.2.2.1) (hc : a3.category = 1) (k : G w E al n y mc ms P cs sl h q (a0 :: a1 :: a2 :: a3 :: .ref x :: r) st) : G w E al n y mc ms P cs sl h pc (a0 :: a1 :: a2 :: a3 :: b0 :: r) (.ref x :: st) :=
  g_astore hd q hq hb (by
    intro j u hj hu
    have hj' : j = 3 := by omega
    subst hj'
    simp only [List.getElem?_cons_succ, List.getElem?_cons_zero, Option.some.injEq] at hu
    subst hu
    exact hc) rfl k
theorem g_iinc4 {a0 a1 a2 a3 : Value} {r : List Value} {x : Int32} {d : Int} (hd : decode y.2.1 pc = .ok (.iinc 4 d, 3)) (q : Nat) (hq : pc + 3 = q) (dv : Int32) (hv : Int32.ofInt d = dv) (v : Int32) (hx : x + dv = v) (hb : 4 < y.2.2.1) (hc : a3.category = 1) (k : G w E al n y mc ms P cs sl h q (a0 :: a1 :: a2 :: a3 :: .int v :: r) st) : G w E al n y mc ms P cs sl h pc (a0 :: a1 :: a2 :: a3 :: .int x :: r) st :=
  g_iinc hd q hq rfl dv hv hb (by
    intro j u hj hu
    have hj' : j = 3 := by omega
    subst hj'
    simp only [List.getElem?_cons_succ, List.getElem?_cons_zero, Option.some.injEq] at hu
    subst hu
    exact hc) (by subst hx; rfl) k
theorem g_lstore4 {a0 a1 a2 a3 b0 b1 : Value} {r : List Value} {x : Int64} (hd : decode y.2.1 pc = .ok (.lstore 4, 2)) (q : Nat) (hq : pc + 2 = q) (hb : 4 + 1 < y.2.2.1) (hc : a3.category = 1) (k : G w E al n y mc ms P cs sl h q (a0 :: a1 :: a2 :: a3 :: .long x :: gF :: r) st) : G w E al n y mc ms P cs sl h pc (a0 :: a1 :: a2 :: a3 :: b0 :: b1 :: r) (.long x :: st) :=
  g_lstore hd q hq hb (by
    intro j u hj hu
    have hj' : j = 3 := by omega
    subst hj'
    simp only [List.getElem?_cons_succ, List.getElem?_cons_zero, Option.some.injEq] at hu
    subst hu
    exact hc) rfl k
theorem g_istore5 {a0 a1 a2 a3 a4 b0 : Value} {r : List Value} {x : Int32} (hd : decode y.2.1 pc = .ok (.istore 5, 2)) (q : Nat) (hq : pc + 2 = q) (hb : 5 < y.2.2.1) (hc : a4.category = 1) (k : G w E al n y mc ms P cs sl h q (a0 :: a1 :: a2 :: a3 :: a4 :: .int x :: r) st) : G w E al n y mc ms P cs sl h pc (a0 :: a1 :: a2 :: a3 :: a4 :: b0 :: r) (.int x :: st) :=
  g_istore hd q hq hb (by
    intro j u hj hu
    have hj' : j = 4 := by omega
    subst hj'
    simp only [List.getElem?_cons_succ, List.getElem?_cons_zero, Option.some.injEq] at hu
    subst hu
    exact hc) rfl k
theorem g_astore5 {a0 a1 a2 a3 a4 b0 : Value} {r : List Value} {x : Nat} (hd : decode y.2.1 pc = .ok (.astore 5, 2)) (q : Nat) (hq : pc + 2 = q) (hb : 5 < y.2.2.1) (hc : a4.category = 1) (k : G w E al n y mc ms P cs sl h q (a0 :: a1 :: a2 :: a3 :: a4 :: .ref x :: r) st) : G w E al n y mc ms P cs sl h pc (a0 :: a1 :: a2 :: a3 :: a4 :: b0 :: r) (.ref x :: st) :=
  g_astore hd q hq hb (by
    intro j u hj hu
    have hj' : j = 4 := by omega
    subst hj'
    simp only [List.getElem?_cons_succ, List.getElem?_cons_zero, Option.some.injEq] at hu
    subst hu
    exact hc) rfl k
theorem g_iinc5 {a0 a1 a2 a3 a4 : Value} {r : List Value} {x : Int32} {d : Int} (hd : decode y.2.1 pc = .ok (.iinc 5 d, 3)) (q : Nat) (hq : pc + 3 = q) (dv : Int32) (hv : Int32.ofInt d = dv) (v : Int32) (hx : x + dv = v) (hb : 5 < y.2.2.1) (hc : a4.category = 1) (k : G w E al n y mc ms P cs sl h q (a0 :: a1 :: a2 :: a3 :: a4 :: .int v :: r) st) : G w E al n y mc ms P cs sl h pc (a0 :: a1 :: a2 :: a3 :: a4 :: .int x :: r) st :=
  g_iinc hd q hq rfl dv hv hb (by
    intro j u hj hu
    have hj' : j = 4 := by omega
    subst hj'
    simp only [List.getElem?_cons_succ, List.getElem?_cons_zero, Option.some.injEq] at hu
    subst hu
    exact hc) (by subst hx; rfl) k
theorem g_lstore5 {a0 a1 a2 a3 a4 b0 b1 : Value} {r : List Value} {x : Int64} (hd : decode y.2.1 pc = .ok (.lstore 5, 2)) (q : Nat) (hq : pc + 2 = q) (hb : 5 + 1 < y.2.2.1) (hc : a4.category = 1) (k : G w E al n y mc ms P cs sl h q (a0 :: a1 :: a2 :: a3 :: a4 :: .long x :: gF :: r) st) : G w E al n y mc ms P cs sl h pc (a0 :: a1 :: a2 :: a3 :: a4 :: b0 :: b1 :: r) (.long x :: st) :=
  g_lstore hd q hq hb (by
    intro j u hj hu
    have hj' : j = 4 := by omega
    subst hj'
    simp only [List.getElem?_cons_succ, List.getElem?_cons_zero, Option.some.injEq] at hu
    subst hu
    exact hc) rfl k
theorem g_istore6 {a0 a1 a2 a3 a4 a5 b0 : Value} {r : List Value} {x : Int32} (hd : decode y.2.1 pc = .ok (.istore 6, 2)) (q : Nat) (hq : pc + 2 = q) (hb : 6 < y.2.2.1) (hc : a5.category = 1) (k : G w E al n y mc ms P cs sl h q (a0 :: a1 :: a2 :: a3 :: a4 :: a5 :: .int x :: r) st) : G w E al n y mc ms P cs sl h pc (a0 :: a1 :: a2 :: a3 :: a4 :: a5 :: b0 :: r) (.int x :: st) :=
  g_istore hd q hq hb (by
    intro j u hj hu
    have hj' : j = 5 := by omega
    subst hj'
    simp only [List.getElem?_cons_succ, List.getElem?_cons_zero, Option.some.injEq] at hu
    subst hu
    exact hc) rfl k
theorem g_astore6 {a0 a1 a2 a3 a4 a5 b0 : Value} {r : List Value} {x : Nat} (hd : decode y.2.1 pc = .ok (.astore 6, 2)) (q : Nat) (hq : pc + 2 = q) (hb : 6 < y.2.2.1) (hc : a5.category = 1) (k : G w E al n y mc ms P cs sl h q (a0 :: a1 :: a2 :: a3 :: a4 :: a5 :: .ref x :: r) st) : G w E al n y mc ms P cs sl h pc (a0 :: a1 :: a2 :: a3 :: a4 :: a5 :: b0 :: r) (.ref x :: st) :=
  g_astore hd q hq hb (by
    intro j u hj hu
    have hj' : j = 5 := by omega
    subst hj'
    simp only [List.getElem?_cons_succ, List.getElem?_cons_zero, Option.some.injEq] at hu
    subst hu
    exact hc) rfl k
theorem g_iinc6 {a0 a1 a2 a3 a4 a5 : Value} {r : List Value} {x : Int32} {d : Int} (hd : decode y.2.1 pc = .ok (.iinc 6 d, 3)) (q : Nat) (hq : pc + 3 = q) (dv : Int32) (hv : Int32.ofInt d = dv) (v : Int32) (hx : x + dv = v) (hb : 6 < y.2.2.1) (hc : a5.category = 1) (k : G w E al n y mc ms P cs sl h q (a0 :: a1 :: a2 :: a3 :: a4 :: a5 :: .int v :: r) st) : G w E al n y mc ms P cs sl h pc (a0 :: a1 :: a2 :: a3 :: a4 :: a5 :: .int x :: r) st :=
  g_iinc hd q hq rfl dv hv hb (by
    intro j u hj hu
    have hj' : j = 5 := by omega
    subst hj'
    simp only [List.getElem?_cons_succ, List.getElem?_cons_zero, Option.some.injEq] at hu
    subst hu
    exact hc) (by subst hx; rfl) k
theorem g_lstore6 {a0 a1 a2 a3 a4 a5 b0 b1 : Value} {r : List Value} {x : Int64} (hd : decode y.2.1 pc = .ok (.lstore 6, 2)) (q : Nat) (hq : pc + 2 = q) (hb : 6 + 1 < y.2.2.1) (hc : a5.category = 1) (k : G w E al n y mc ms P cs sl h q (a0 :: a1 :: a2 :: a3 :: a4 :: a5 :: .long x :: gF :: r) st) : G w E al n y mc ms P cs sl h pc (a0 :: a1 :: a2 :: a3 :: a4 :: a5 :: b0 :: b1 :: r) (.long x :: st) :=
  g_lstore hd q hq hb (by
    intro j u hj hu
    have hj' : j = 5 := by omega
    subst hj'
    simp only [List.getElem?_cons_succ, List.getElem?_cons_zero, Option.some.injEq] at hu
    subst hu
    exact hc) rfl k
theorem g_istore7 {a0 a1 a2 a3 a4 a5 a6 b0 : Value} {r : List Value} {x : Int32} (hd : decode y.2.1 pc = .ok (.istore 7, 2)) (q : Nat) (hq : pc + 2 = q) (hb : 7 < y.2.2.1) (hc : a6.category = 1) (k : G w E al n y mc ms P cs sl h q (a0 :: a1 :: a2 :: a3 :: a4 :: a5 :: a6 :: .int x :: r) st) : G w E al n y mc ms P cs sl h pc (a0 :: a1 :: a2 :: a3 :: a4 :: a5 :: a6 :: b0 :: r) (.int x :: st) :=
  g_istore hd q hq hb (by
    intro j u hj hu
    have hj' : j = 6 := by omega
    subst hj'
    simp only [List.getElem?_cons_succ, List.getElem?_cons_zero, Option.some.injEq] at hu
    subst hu
    exact hc) rfl k
theorem g_astore7 {a0 a1 a2 a3 a4 a5 a6 b0 : Value} {r : List Value} {x : Nat} (hd : decode y.2.1 pc = .ok (.astore 7, 2)) (q : Nat) (hq : pc + 2 = q) (hb : 7 < y.2.2.1) (hc : a6.category = 1) (k : G w E al n y mc ms P cs sl h q (a0 :: a1 :: a2 :: a3 :: a4 :: a5 :: a6 :: .ref x :: r) st) : G w E al n y mc ms P cs sl h pc (a0 :: a1 :: a2 :: a3 :: a4 :: a5 :: a6 :: b0 :: r) (.ref x :: st) :=
  g_astore hd q hq hb (by
    intro j u hj hu
    have hj' : j = 6 := by omega
    subst hj'
    simp only [List.getElem?_cons_succ, List.getElem?_cons_zero, Option.some.injEq] at hu
    subst hu
    exact hc) rfl k
theorem g_iinc7 {a0 a1 a2 a3 a4 a5 a6 : Value} {r : List Value} {x : Int32} {d : Int} (hd : decode y.2.1 pc = .ok (.iinc 7 d, 3)) (q : Nat) (hq : pc + 3 = q) (dv : Int32) (hv : Int32.ofInt d = dv) (v : Int32) (hx : x + dv = v) (hb : 7 < y.2.2.1) (hc : a6.category = 1) (k : G w E al n y mc ms P cs sl h q (a0 :: a1 :: a2 :: a3 :: a4 :: a5 :: a6 :: .int v :: r) st) : G w E al n y mc ms P cs sl h pc (a0 :: a1 :: a2 :: a3 :: a4 :: a5 :: a6 :: .int x :: r) st :=
  g_iinc hd q hq rfl dv hv hb (by
    intro j u hj hu
    have hj' : j = 6 := by omega
    subst hj'
    simp only [List.getElem?_cons_succ, List.getElem?_cons_zero, Option.some.injEq] at hu
    subst hu
    exact hc) (by subst hx; rfl) k
theorem g_lstore7 {a0 a1 a2 a3 a4 a5 a6 b0 b1 : Value} {r : List Value} {x : Int64} (hd : decode y.2.1 pc = .ok (.lstore 7, 2)) (q : Nat) (hq : pc + 2 = q) (hb : 7 + 1 < y.2.2.1) (hc : a6.category = 1) (k : G w E al n y mc ms P cs sl h q (a0 :: a1 :: a2 :: a3 :: a4 :: a5 :: a6 :: .long x :: gF :: r) st) : G w E al n y mc ms P cs sl h pc (a0 :: a1 :: a2 :: a3 :: a4 :: a5 :: a6 :: b0 :: b1 :: r) (.long x :: st) :=
  g_lstore hd q hq hb (by
    intro j u hj hu
    have hj' : j = 6 := by omega
    subst hj'
    simp only [List.getElem?_cons_succ, List.getElem?_cons_zero, Option.some.injEq] at hu
    subst hu
    exact hc) rfl k
theorem g_istore8 {a0 a1 a2 a3 a4 a5 a6 a7 b0 : Value} {r : List Value} {x : Int32} (hd : decode y.2.1 pc = .ok (.istore 8, 2)) (q : Nat) (hq : pc + 2 = q) (hb : 8 < y.2.2.1) (hc : a7.category = 1) (k : G w E al n y mc ms P cs sl h q (a0 :: a1 :: a2 :: a3 :: a4 :: a5 :: a6 :: a7 :: .int x :: r) st) : G w E al n y mc ms P cs sl h pc (a0 :: a1 :: a2 :: a3 :: a4 :: a5 :: a6 :: a7 :: b0 :: r) (.int x :: st) :=
  g_istore hd q hq hb (by
    intro j u hj hu
    have hj' : j = 7 := by omega
    subst hj'
    simp only [List.getElem?_cons_succ, List.getElem?_cons_zero, Option.some.injEq] at hu
    subst hu
    exact hc) rfl k
theorem g_astore8 {a0 a1 a2 a3 a4 a5 a6 a7 b0 : Value} {r : List Value} {x : Nat} (hd : decode y.2.1 pc = .ok (.astore 8, 2)) (q : Nat) (hq : pc + 2 = q) (hb : 8 < y.2.2.1) (hc : a7.category = 1) (k : G w E al n y mc ms P cs sl h q (a0 :: a1 :: a2 :: a3 :: a4 :: a5 :: a6 :: a7 :: .ref x :: r) st) : G w E al n y mc ms P cs sl h pc (a0 :: a1 :: a2 :: a3 :: a4 :: a5 :: a6 :: a7 :: b0 :: r) (.ref x :: st) :=
  g_astore hd q hq hb (by
    intro j u hj hu
    have hj' : j = 7 := by omega
    subst hj'
    simp only [List.getElem?_cons_succ, List.getElem?_cons_zero, Option.some.injEq] at hu
    subst hu
    exact hc) rfl k
theorem g_iinc8 {a0 a1 a2 a3 a4 a5 a6 a7 : Value} {r : List Value} {x : Int32} {d : Int} (hd : decode y.2.1 pc = .ok (.iinc 8 d, 3)) (q : Nat) (hq : pc + 3 = q) (dv : Int32) (hv : Int32.ofInt d = dv) (v : Int32) (hx : x + dv = v) (hb : 8 < y.2.2.1) (hc : a7.category = 1) (k : G w E al n y mc ms P cs sl h q (a0 :: a1 :: a2 :: a3 :: a4 :: a5 :: a6 :: a7 :: .int v :: r) st) : G w E al n y mc ms P cs sl h pc (a0 :: a1 :: a2 :: a3 :: a4 :: a5 :: a6 :: a7 :: .int x :: r) st :=
  g_iinc hd q hq rfl dv hv hb (by
    intro j u hj hu
    have hj' : j = 7 := by omega
    subst hj'
    simp only [List.getElem?_cons_succ, List.getElem?_cons_zero, Option.some.injEq] at hu
    subst hu
    exact hc) (by subst hx; rfl) k
theorem g_lstore8 {a0 a1 a2 a3 a4 a5 a6 a7 b0 b1 : Value} {r : List Value} {x : Int64} (hd : decode y.2.1 pc = .ok (.lstore 8, 2)) (q : Nat) (hq : pc + 2 = q) (hb : 8 + 1 < y.2.2.1) (hc : a7.category = 1) (k : G w E al n y mc ms P cs sl h q (a0 :: a1 :: a2 :: a3 :: a4 :: a5 :: a6 :: a7 :: .long x :: gF :: r) st) : G w E al n y mc ms P cs sl h pc (a0 :: a1 :: a2 :: a3 :: a4 :: a5 :: a6 :: a7 :: b0 :: b1 :: r) (.long x :: st) :=
  g_lstore hd q hq hb (by
    intro j u hj hu
    have hj' : j = 7 := by omega
    subst hj'
    simp only [List.getElem?_cons_succ, List.getElem?_cons_zero, Option.some.injEq] at hu
    subst hu
    exact hc) rfl k
theorem g_istore9 {a0 a1 a2 a3 a4 a5 a6 a7 a8 b0 : Value} {r : List Value} {x : Int32} (hd : decode y.2.1 pc = .ok (.istore 9, 2)) (q : Nat) (hq : pc + 2 = q) (hb : 9 < y.2.2.1) (hc : a8.category = 1) (k : G w E al n y mc ms P cs sl h q (a0 :: a1 :: a2 :: a3 :: a4 :: a5 :: a6 :: a7 :: a8 :: .int x :: r) st) : G w E al n y mc ms P cs sl h pc (a0 :: a1 :: a2 :: a3 :: a4 :: a5 :: a6 :: a7 :: a8 :: b0 :: r) (.int x :: st) :=
  g_istore hd q hq hb (by
    intro j u hj hu
    have hj' : j = 8 := by omega
    subst hj'
    simp only [List.getElem?_cons_succ, List.getElem?_cons_zero, Option.some.injEq] at hu
    subst hu
    exact hc) rfl k
theorem g_astore9 {a0 a1 a2 a3 a4 a5 a6 a7 a8 b0 : Value} {r : List Value} {x : Nat} (hd : decode y.2.1 pc = .ok (.astore 9, 2)) (q : Nat) (hq : pc + 2 = q) (hb : 9 < y.2.2.1) (hc : a8.category = 1) (k : G w E al n y mc ms P cs sl h q (a0 :: a1 :: a2 :: a3 :: a4 :: a5 :: a6 :: a7 :: a8 :: .ref x :: r) st) : G w E al n y mc ms P cs sl h pc (a0 :: a1 :: a2 :: a3 :: a4 :: a5 :: a6 :: a7 :: a8 :: b0 :: r) (.ref x :: st) :=
  g_astore hd q hq hb (by
    intro j u hj hu
    have hj' : j = 8 := by omega
    subst hj'
    simp only [List.getElem?_cons_succ, List.getElem?_cons_zero, Option.some.injEq] at hu
    subst hu
    exact hc) rfl k
theorem g_iinc9 {a0 a1 a2 a3 a4 a5 a6 a7 a8 : Value} {r : List Value} {x : Int32} {d : Int} (hd : decode y.2.1 pc = .ok (.iinc 9 d, 3)) (q : Nat) (hq : pc + 3 = q) (dv : Int32) (hv : Int32.ofInt d = dv) (v : Int32) (hx : x + dv = v) (hb : 9 < y.2.2.1) (hc : a8.category = 1) (k : G w E al n y mc ms P cs sl h q (a0 :: a1 :: a2 :: a3 :: a4 :: a5 :: a6 :: a7 :: a8 :: .int v :: r) st) : G w E al n y mc ms P cs sl h pc (a0 :: a1 :: a2 :: a3 :: a4 :: a5 :: a6 :: a7 :: a8 :: .int x :: r) st :=
  g_iinc hd q hq rfl dv hv hb (by
    intro j u hj hu
    have hj' : j = 8 := by omega
    subst hj'
    simp only [List.getElem?_cons_succ, List.getElem?_cons_zero, Option.some.injEq] at hu
    subst hu
    exact hc) (by subst hx; rfl) k
theorem g_lstore9 {a0 a1 a2 a3 a4 a5 a6 a7 a8 b0 b1 : Value} {r : List Value} {x : Int64} (hd : decode y.2.1 pc = .ok (.lstore 9, 2)) (q : Nat) (hq : pc + 2 = q) (hb : 9 + 1 < y.2.2.1) (hc : a8.category = 1) (k : G w E al n y mc ms P cs sl h q (a0 :: a1 :: a2 :: a3 :: a4 :: a5 :: a6 :: a7 :: a8 :: .long x :: gF :: r) st) : G w E al n y mc ms P cs sl h pc (a0 :: a1 :: a2 :: a3 :: a4 :: a5 :: a6 :: a7 :: a8 :: b0 :: b1 :: r) (.long x :: st) :=
  g_lstore hd q hq hb (by
    intro j u hj hu
    have hj' : j = 8 := by omega
    subst hj'
    simp only [List.getElem?_cons_succ, List.getElem?_cons_zero, Option.some.injEq] at hu
    subst hu
    exact hc) rfl k
theorem g_istore10 {a0 a1 a2 a3 a4 a5 a6 a7 a8 a9 b0 : Value} {r : List Value} {x : Int32} (hd : decode y.2.1 pc = .ok (.istore 10, 2)) (q : Nat) (hq : pc + 2 = q) (hb : 10 < y.2.2.1) (hc : a9.category = 1) (k : G w E al n y mc ms P cs sl h q (a0 :: a1 :: a2 :: a3 :: a4 :: a5 :: a6 :: a7 :: a8 :: a9 :: .int x :: r) st) : G w E al n y mc ms P cs sl h pc (a0 :: a1 :: a2 :: a3 :: a4 :: a5 :: a6 :: a7 :: a8 :: a9 :: b0 :: r) (.int x :: st) :=
  g_istore hd q hq hb (by
    intro j u hj hu
    have hj' : j = 9 := by omega
    subst hj'
    simp only [List.getElem?_cons_succ, List.getElem?_cons_zero, Option.some.injEq] at hu
    subst hu
    exact hc) rfl k
theorem g_astore10 {a0 a1 a2 a3 a4 a5 a6 a7 a8 a9 b0 : Value} {r : List Value} {x : Nat} (hd : decode y.2.1 pc = .ok (.astore 10, 2)) (q : Nat) (hq : pc + 2 = q) (hb : 10 < y.2.2.1) (hc : a9.category = 1) (k : G w E al n y mc ms P cs sl h q (a0 :: a1 :: a2 :: a3 :: a4 :: a5 :: a6 :: a7 :: a8 :: a9 :: .ref x :: r) st) : G w E al n y mc ms P cs sl h pc (a0 :: a1 :: a2 :: a3 :: a4 :: a5 :: a6 :: a7 :: a8 :: a9 :: b0 :: r) (.ref x :: st) :=
  g_astore hd q hq hb (by
    intro j u hj hu
    have hj' : j = 9 := by omega
    subst hj'
    simp only [List.getElem?_cons_succ, List.getElem?_cons_zero, Option.some.injEq] at hu
    subst hu
    exact hc) rfl k
theorem g_iinc10 {a0 a1 a2 a3 a4 a5 a6 a7 a8 a9 : Value} {r : List Value} {x : Int32} {d : Int} (hd : decode y.2.1 pc = .ok (.iinc 10 d, 3)) (q : Nat) (hq : pc + 3 = q) (dv : Int32) (hv : Int32.ofInt d = dv) (v : Int32) (hx : x + dv = v) (hb : 10 < y.2.2.1) (hc : a9.category = 1) (k : G w E al n y mc ms P cs sl h q (a0 :: a1 :: a2 :: a3 :: a4 :: a5 :: a6 :: a7 :: a8 :: a9 :: .int v :: r) st) : G w E al n y mc ms P cs sl h pc (a0 :: a1 :: a2 :: a3 :: a4 :: a5 :: a6 :: a7 :: a8 :: a9 :: .int x :: r) st :=
  g_iinc hd q hq rfl dv hv hb (by
    intro j u hj hu
    have hj' : j = 9 := by omega
    subst hj'
    simp only [List.getElem?_cons_succ, List.getElem?_cons_zero, Option.some.injEq] at hu
    subst hu
    exact hc) (by subst hx; rfl) k
theorem g_lstore10 {a0 a1 a2 a3 a4 a5 a6 a7 a8 a9 b0 b1 : Value} {r : List Value} {x : Int64} (hd : decode y.2.1 pc = .ok (.lstore 10, 2)) (q : Nat) (hq : pc + 2 = q) (hb : 10 + 1 < y.2.2.1) (hc : a9.category = 1) (k : G w E al n y mc ms P cs sl h q (a0 :: a1 :: a2 :: a3 :: a4 :: a5 :: a6 :: a7 :: a8 :: a9 :: .long x :: gF :: r) st) : G w E al n y mc ms P cs sl h pc (a0 :: a1 :: a2 :: a3 :: a4 :: a5 :: a6 :: a7 :: a8 :: a9 :: b0 :: b1 :: r) (.long x :: st) :=
  g_lstore hd q hq hb (by
    intro j u hj hu
    have hj' : j = 9 := by omega
    subst hj'
    simp only [List.getElem?_cons_succ, List.getElem?_cons_zero, Option.some.injEq] at hu
    subst hu
    exact hc) rfl k
theorem g_istore11 {a0 a1 a2 a3 a4 a5 a6 a7 a8 a9 a10 b0 : Value} {r : List Value} {x : Int32} (hd : decode y.2.1 pc = .ok (.istore 11, 2)) (q : Nat) (hq : pc + 2 = q) (hb : 11 < y.2.2.1) (hc : a10.category = 1) (k : G w E al n y mc ms P cs sl h q (a0 :: a1 :: a2 :: a3 :: a4 :: a5 :: a6 :: a7 :: a8 :: a9 :: a10 :: .int x :: r) st) : G w E al n y mc ms P cs sl h pc (a0 :: a1 :: a2 :: a3 :: a4 :: a5 :: a6 :: a7 :: a8 :: a9 :: a10 :: b0 :: r) (.int x :: st) :=
  g_istore hd q hq hb (by
    intro j u hj hu
    have hj' : j = 10 := by omega
    subst hj'
    simp only [List.getElem?_cons_succ, List.getElem?_cons_zero, Option.some.injEq] at hu
    subst hu
    exact hc) rfl k
theorem g_astore11 {a0 a1 a2 a3 a4 a5 a6 a7 a8 a9 a10 b0 : Value} {r : List Value} {x : Nat} (hd : decode y.2.1 pc = .ok (.astore 11, 2)) (q : Nat) (hq : pc + 2 = q) (hb : 11 < y.2.2.1) (hc : a10.category = 1) (k : G w E al n y mc ms P cs sl h q (a0 :: a1 :: a2 :: a3 :: a4 :: a5 :: a6 :: a7 :: a8 :: a9 :: a10 :: .ref x :: r) st) : G w E al n y mc ms P cs sl h pc (a0 :: a1 :: a2 :: a3 :: a4 :: a5 :: a6 :: a7 :: a8 :: a9 :: a10 :: b0 :: r) (.ref x :: st) :=
  g_astore hd q hq hb (by
    intro j u hj hu
    have hj' : j = 10 := by omega
    subst hj'
    simp only [List.getElem?_cons_succ, List.getElem?_cons_zero, Option.some.injEq] at hu
    subst hu
    exact hc) rfl k
theorem g_iinc11 {a0 a1 a2 a3 a4 a5 a6 a7 a8 a9 a10 : Value} {r : List Value} {x : Int32} {d : Int} (hd : decode y.2.1 pc = .ok (.iinc 11 d, 3)) (q : Nat) (hq : pc + 3 = q) (dv : Int32) (hv : Int32.ofInt d = dv) (v : Int32) (hx : x + dv = v) (hb : 11 < y.2.2.1) (hc : a10.category = 1) (k : G w E al n y mc ms P cs sl h q (a0 :: a1 :: a2 :: a3 :: a4 :: a5 :: a6 :: a7 :: a8 :: a9 :: a10 :: .int v :: r) st) : G w E al n y mc ms P cs sl h pc (a0 :: a1 :: a2 :: a3 :: a4 :: a5 :: a6 :: a7 :: a8 :: a9 :: a10 :: .int x :: r) st :=
  g_iinc hd q hq rfl dv hv hb (by
    intro j u hj hu
    have hj' : j = 10 := by omega
    subst hj'
    simp only [List.getElem?_cons_succ, List.getElem?_cons_zero, Option.some.injEq] at hu
    subst hu
    exact hc) (by subst hx; rfl) k
theorem g_lstore11 {a0 a1 a2 a3 a4 a5 a6 a7 a8 a9 a10 b0 b1 : Value} {r : List Value} {x : Int64} (hd : decode y.2.1 pc = .ok (.lstore 11, 2)) (q : Nat) (hq : pc + 2 = q) (hb : 11 + 1 < y.2.2.1) (hc : a10.category = 1) (k : G w E al n y mc ms P cs sl h q (a0 :: a1 :: a2 :: a3 :: a4 :: a5 :: a6 :: a7 :: a8 :: a9 :: a10 :: .long x :: gF :: r) st) : G w E al n y mc ms P cs sl h pc (a0 :: a1 :: a2 :: a3 :: a4 :: a5 :: a6 :: a7 :: a8 :: a9 :: a10 :: b0 :: b1 :: r) (.long x :: st) :=
  g_lstore hd q hq hb (by
    intro j u hj hu
    have hj' : j = 10 := by omega
    subst hj'
    simp only [List.getElem?_cons_succ, List.getElem?_cons_zero, Option.some.injEq] at hu
    subst hu
    exact hc) rfl k
theorem g_istore12 {a0 a1 a2 a3 a4 a5 a6 a7 a8 a9 a10 a11 b0 : Value} {r : List Value} {x : Int32} (hd : decode y.2.1 pc = .ok (.istore 12, 2)) (q : Nat) (hq : pc + 2 = q) (hb : 12 < y.2.2.1) (hc : a11.category = 1) (k : G w E al n y mc ms P cs sl h q (a0 :: a1 :: a2 :: a3 :: a4 :: a5 :: a6 :: a7 :: a8 :: a9 :: a10 :: a11 :: .int x :: r) st) : G w E al n y mc ms P cs sl h pc (a0 :: a1 :: a2 :: a3 :: a4 :: a5 :: a6 :: a7 :: a8 :: a9 :: a10 :: a11 :: b0 :: r) (.int x :: st) :=
  g_istore hd q hq hb (by
    intro j u hj hu
    have hj' : j = 11 := by omega
    subst hj'
    simp only [List.getElem?_cons_succ, List.getElem?_cons_zero, Option.some.injEq] at hu
    subst hu
    exact hc) rfl k
theorem g_astore12 {a0 a1 a2 a3 a4 a5 a6 a7 a8 a9 a10 a11 b0 : Value} {r : List Value} {x : Nat} (hd : decode y.2.1 pc = .ok (.astore 12, 2)) (q : Nat) (hq : pc + 2 = q) (hb : 12 < y.2.2.1) (hc : a11.category = 1) (k : G w E al n y mc ms P cs sl h q (a0 :: a1 :: a2 :: a3 :: a4 :: a5 :: a6 :: a7 :: a8 :: a9 :: a10 :: a11 :: .ref x :: r) st) : G w E al n y mc ms P cs sl h pc (a0 :: a1 :: a2 :: a3 :: a4 :: a5 :: a6 :: a7 :: a8 :: a9 :: a10 :: a11 :: b0 :: r) (.ref x :: st) :=
  g_astore hd q hq hb (by
    intro j u hj hu
    have hj' : j = 11 := by omega
    subst hj'
    simp only [List.getElem?_cons_succ, List.getElem?_cons_zero, Option.some.injEq] at hu
    subst hu
    exact hc) rfl k
theorem g_iinc12 {a0 a1 a2 a3 a4 a5 a6 a7 a8 a9 a10 a11 : Value} {r : List Value} {x : Int32} {d : Int} (hd : decode y.2.1 pc = .ok (.iinc 12 d, 3)) (q : Nat) (hq : pc + 3 = q) (dv : Int32) (hv : Int32.ofInt d = dv) (v : Int32) (hx : x + dv = v) (hb : 12 < y.2.2.1) (hc : a11.category = 1) (k : G w E al n y mc ms P cs sl h q (a0 :: a1 :: a2 :: a3 :: a4 :: a5 :: a6 :: a7 :: a8 :: a9 :: a10 :: a11 :: .int v :: r) st) : G w E al n y mc ms P cs sl h pc (a0 :: a1 :: a2 :: a3 :: a4 :: a5 :: a6 :: a7 :: a8 :: a9 :: a10 :: a11 :: .int x :: r) st :=
  g_iinc hd q hq rfl dv hv hb (by
    intro j u hj hu
    have hj' : j = 11 := by omega
    subst hj'
    simp only [List.getElem?_cons_succ, List.getElem?_cons_zero, Option.some.injEq] at hu
    subst hu
    exact hc) (by subst hx; rfl) k
theorem g_lstore12 {a0 a1 a2 a3 a4 a5 a6 a7 a8 a9 a10 a11 b0 b1 : Value} {r : List Value} {x : Int64} (hd : decode y.2.1 pc = .ok (.lstore 12, 2)) (q : Nat) (hq : pc + 2 = q) (hb : 12 + 1 < y.2.2.1) (hc : a11.category = 1) (k : G w E al n y mc ms P cs sl h q (a0 :: a1 :: a2 :: a3 :: a4 :: a5 :: a6 :: a7 :: a8 :: a9 :: a10 :: a11 :: .long x :: gF :: r) st) : G w E al n y mc ms P cs sl h pc (a0 :: a1 :: a2 :: a3 :: a4 :: a5 :: a6 :: a7 :: a8 :: a9 :: a10 :: a11 :: b0 :: b1 :: r) (.long x :: st) :=
  g_lstore hd q hq hb (by
    intro j u hj hu
    have hj' : j = 11 := by omega
    subst hj'
    simp only [List.getElem?_cons_succ, List.getElem?_cons_zero, Option.some.injEq] at hu
    subst hu
    exact hc) rfl k
theorem g_istore13 {a0 a1 a2 a3 a4 a5 a6 a7 a8 a9 a10 a11 a12 b0 : Value} {r : List Value} {x : Int32} (hd : decode y.2.1 pc = .ok (.istore 13, 2)) (q : Nat) (hq : pc + 2 = q) (hb : 13 < y.2.2.1) (hc : a12.category = 1) (k : G w E al n y mc ms P cs sl h q (a0 :: a1 :: a2 :: a3 :: a4 :: a5 :: a6 :: a7 :: a8 :: a9 :: a10 :: a11 :: a12 :: .int x :: r) st) : G w E al n y mc ms P cs sl h pc (a0 :: a1 :: a2 :: a3 :: a4 :: a5 :: a6 :: a7 :: a8 :: a9 :: a10 :: a11 :: a12 :: b0 :: r) (.int x :: st) :=
  g_istore hd q hq hb (by
    intro j u hj hu
    have hj' : j = 12 := by omega
    subst hj'
    simp only [List.getElem?_cons_succ, List.getElem?_cons_zero, Option.some.injEq] at hu
    subst hu
    exact hc) rfl k
theorem g_astore13 {a0 a1 a2 a3 a4 a5 a6 a7 a8 a9 a10 a11 a12 b0 : Value} {r : List Value} {x : Nat} (hd : decode y.2.1 pc = .ok (.astore 13, 2)) (q : Nat) (hq : pc + 2 = q) (hb : 13 < y.2.2.1) (hc : a12.category = 1) (k : G w E al n y mc ms P cs sl h q (a0 :: a1 :: a2 :: a3 :: a4 :: a5 :: a6 :: a7 :: a8 :: a9 :: a10 :: a11 :: a12 :: .ref x :: r) st) : G w E al n y mc ms P cs sl h pc (a0 :: a1 :: a2 :: a3 :: a4 :: a5 :: a6 :: a7 :: a8 :: a9 :: a10 :: a11 :: a12 :: b0 :: r) (.ref x :: st) :=
  g_astore hd q hq hb (by
    intro j u hj hu
    have hj' : j = 12 := by omega
    subst hj'
    simp only [List.getElem?_cons_succ, List.getElem?_cons_zero, Option.some.injEq] at hu
    subst hu
    exact hc) rfl k
theorem g_iinc13 {a0 a1 a2 a3 a4 a5 a6 a7 a8 a9 a10 a11 a12 : Value} {r : List Value} {x : Int32} {d : Int} (hd : decode y.2.1 pc = .ok (.iinc 13 d, 3)) (q : Nat) (hq : pc + 3 = q) (dv : Int32) (hv : Int32.ofInt d = dv) (v : Int32) (hx : x + dv = v) (hb : 13 < y.2.2.1) (hc : a12.category = 1) (k : G w E al n y mc ms P cs sl h q (a0 :: a1 :: a2 :: a3 :: a4 :: a5 :: a6 :: a7 :: a8 :: a9 :: a10 :: a11 :: a12 :: .int v :: r) st) : G w E al n y mc ms P cs sl h pc (a0 :: a1 :: a2 :: a3 :: a4 :: a5 :: a6 :: a7 :: a8 :: a9 :: a10 :: a11 :: a12 :: .int x :: r) st :=
  g_iinc hd q hq rfl dv hv hb (by
    intro j u hj hu
    have hj' : j = 12 := by omega
    subst hj'
    simp only [List.getElem?_cons_succ, List.getElem?_cons_zero, Option.some.injEq] at hu
    subst hu
    exact hc) (by subst hx; rfl) k
theorem g_lstore13 {a0 a1 a2 a3 a4 a5 a6 a7 a8 a9 a10 a11 a12 b0 b1 : Value} {r : List Value} {x : Int64} (hd : decode y.2.1 pc = .ok (.lstore 13, 2)) (q : Nat) (hq : pc + 2 = q) (hb : 13 + 1 < y.2.2.1) (hc : a12.category = 1) (k : G w E al n y mc ms P cs sl h q (a0 :: a1 :: a2 :: a3 :: a4 :: a5 :: a6 :: a7 :: a8 :: a9 :: a10 :: a11 :: a12 :: .long x :: gF :: r) st) : G w E al n y mc ms P cs sl h pc (a0 :: a1 :: a2 :: a3 :: a4 :: a5 :: a6 :: a7 :: a8 :: a9 :: a10 :: a11 :: a12 :: b0 :: b1 :: r) (.long x :: st) :=
  g_lstore hd q hq hb (by
    intro j u hj hu
    have hj' : j = 12 := by omega
    subst hj'
    simp only [List.getElem?_cons_succ, List.getElem?_cons_zero, Option.some.injEq] at hu
    subst hu
    exact hc) rfl k
theorem g_if_eq {x : Int32} {off : Int} (hd : decode y.2.1 pc = .ok (.ifCond .eq off, 3)) (tgt : Nat) (ht : (pc : Int) + off = (tgt : Int)) (q : Nat) (hq : pc + 3 = q) (kt : (x = 0) → G w E al n y mc ms P cs sl h tgt L st) (kf : ¬ (x = 0) → G w E al n y mc ms P cs sl h q L st) : G w E al n y mc ms P cs sl h pc L (.int x :: st) := by
  subst hq
  intro p e s m args below meth c C H locs ls X1 X2 X3
  exact lv_if_eq C.1 C.2.1 hd ht (fun z => kt z p e s m args below meth c C H locs ls X1 X2 X3) (fun z => kf z p e s m args below meth c C H locs ls X1 X2 X3)
theorem g_icmp_eq {x z : Int32} {off : Int} (hd : decode y.2.1 pc = .ok (.if_icmp .eq off, 3)) (tgt : Nat) (ht : (pc : Int) + off = (tgt : Int)) (q : Nat) (hq : pc + 3 = q) (kt : (x = z) → G w E al n y mc ms P cs sl h tgt L st) (kf : ¬ (x = z) → G w E al n y mc ms P cs sl h q L st) : G w E al n y mc ms P cs sl h pc L (.int z :: .int x :: st) := by
  subst hq
  intro p e s m args below meth c C H locs ls X1 X2 X3
  exact lv_icmp_eq C.1 C.2.1 hd ht (fun z => kt z p e s m args below meth c C H locs ls X1 X2 X3) (fun z => kf z p e s m args below meth c C H locs ls X1 X2 X3)
theorem g_if_ne {x : Int32} {off : Int} (hd : decode y.2.1 pc = .ok (.ifCond .ne off, 3)) (tgt : Nat) (ht : (pc : Int) + off = (tgt : Int)) (q : Nat) (hq : pc + 3 = q) (kt : (¬ x = 0) → G w E al n y mc ms P cs sl h tgt L st) (kf : x = 0 → G w E al n y mc ms P cs sl h q L st) : G w E al n y mc ms P cs sl h pc L (.int x :: st) := by
  subst hq
  intro p e s m args below meth c C H locs ls X1 X2 X3
  exact lv_if_ne C.1 C.2.1 hd ht (fun z => kt z p e s m args below meth c C H locs ls X1 X2 X3) (fun z => kf z p e s m args below meth c C H locs ls X1 X2 X3)
theorem g_icmp_ne {x z : Int32} {off : Int} (hd : decode y.2.1 pc = .ok (.if_icmp .ne off, 3)) (tgt : Nat) (ht : (pc : Int) + off = (tgt : Int)) (q : Nat) (hq : pc + 3 = q) (kt : (¬ x = z) → G w E al n y mc ms P cs sl h tgt L st) (kf : x = z → G w E al n y mc ms P cs sl h q L st) : G w E al n y mc ms P cs sl h pc L (.int z :: .int x :: st) := by
  subst hq
  intro p e s m args below meth c C H locs ls X1 X2 X3
  exact lv_icmp_ne C.1 C.2.1 hd ht (fun z => kt z p e s m args below meth c C H locs ls X1 X2 X3) (fun z => kf z p e s m args below meth c C H locs ls X1 X2 X3)
theorem g_if_lt {x : Int32} {off : Int} (hd : decode y.2.1 pc = .ok (.ifCond .lt off, 3)) (tgt : Nat) (ht : (pc : Int) + off = (tgt : Int)) (q : Nat) (hq : pc + 3 = q) (kt : (x < 0) → G w E al n y mc ms P cs sl h tgt L st) (kf : ¬ (x < 0) → G w E al n y mc ms P cs sl h q L st) : G w E al n y mc ms P cs sl h pc L (.int x :: st) := by
  subst hq
  intro p e s m args below meth c C H locs ls X1 X2 X3
  exact lv_if_lt C.1 C.2.1 hd ht (fun z => kt z p e s m args below meth c C H locs ls X1 X2 X3) (fun z => kf z p e s m args below meth c C H locs ls X1 X2 X3)
theorem g_icmp_lt {x z : Int32} {off : Int} (hd : decode y.2.1 pc = .ok (.if_icmp .lt off, 3)) (tgt : Nat) (ht : (pc : Int) + off = (tgt : Int)) (q : Nat) (hq : pc + 3 = q) (kt : (x < z) → G w E al n y mc ms P cs sl h tgt L st) (kf : ¬ (x < z) → G w E al n y mc ms P cs sl h q L st) : G w E al n y mc ms P cs sl h pc L (.int z :: .int x :: st) := by
  subst hq
  intro p e s m args below meth c C H locs ls X1 X2 X3
  exact lv_icmp_lt C.1 C.2.1 hd ht (fun z => kt z p e s m args below meth c C H locs ls X1 X2 X3) (fun z => kf z p e s m args below meth c C H locs ls X1 X2 X3)
theorem g_if_ge {x : Int32} {off : Int} (hd : decode y.2.1 pc = .ok (.ifCond .ge off, 3)) (tgt : Nat) (ht : (pc : Int) + off = (tgt : Int)) (q : Nat) (hq : pc + 3 = q) (kt : (0 ≤ x) → G w E al n y mc ms P cs sl h tgt L st) (kf : ¬ (0 ≤ x) → G w E al n y mc ms P cs sl h q L st) : G w E al n y mc ms P cs sl h pc L (.int x :: st) := by
  subst hq
  intro p e s m args below meth c C H locs ls X1 X2 X3
  exact lv_if_ge C.1 C.2.1 hd ht (fun z => kt z p e s m args below meth c C H locs ls X1 X2 X3) (fun z => kf z p e s m args below meth c C H locs ls X1 X2 X3)
theorem g_icmp_ge {x z : Int32} {off : Int} (hd : decode y.2.1 pc = .ok (.if_icmp .ge off, 3)) (tgt : Nat) (ht : (pc : Int) + off = (tgt : Int)) (q : Nat) (hq : pc + 3 = q) (kt : (z ≤ x) → G w E al n y mc ms P cs sl h tgt L st) (kf : ¬ (z ≤ x) → G w E al n y mc ms P cs sl h q L st) : G w E al n y mc ms P cs sl h pc L (.int z :: .int x :: st) := by
  subst hq
  intro p e s m args below meth c C H locs ls X1 X2 X3
  exact lv_icmp_ge C.1 C.2.1 hd ht (fun z => kt z p e s m args below meth c C H locs ls X1 X2 X3) (fun z => kf z p e s m args below meth c C H locs ls X1 X2 X3)
theorem g_if_gt {x : Int32} {off : Int} (hd : decode y.2.1 pc = .ok (.ifCond .gt off, 3)) (tgt : Nat) (ht : (pc : Int) + off = (tgt : Int)) (q : Nat) (hq : pc + 3 = q) (kt : (0 < x) → G w E al n y mc ms P cs sl h tgt L st) (kf : ¬ (0 < x) → G w E al n y mc ms P cs sl h q L st) : G w E al n y mc ms P cs sl h pc L (.int x :: st) := by
  subst hq
  intro p e s m args below meth c C H locs ls X1 X2 X3
  exact lv_if_gt C.1 C.2.1 hd ht (fun z => kt z p e s m args below meth c C H locs ls X1 X2 X3) (fun z => kf z p e s m args below meth c C H locs ls X1 X2 X3)
theorem g_icmp_gt {x z : Int32} {off : Int} (hd : decode y.2.1 pc = .ok (.if_icmp .gt off, 3)) (tgt : Nat) (ht : (pc : Int) + off = (tgt : Int)) (q : Nat) (hq : pc + 3 = q) (kt : (z < x) → G w E al n y mc ms P cs sl h tgt L st) (kf : ¬ (z < x) → G w E al n y mc ms P cs sl h q L st) : G w E al n y mc ms P cs sl h pc L (.int z :: .int x :: st) := by
  subst hq
  intro p e s m args below meth c C H locs ls X1 X2 X3
  exact lv_icmp_gt C.1 C.2.1 hd ht (fun z => kt z p e s m args below meth c C H locs ls X1 X2 X3) (fun z => kf z p e s m args below meth c C H locs ls X1 X2 X3)
theorem g_if_le {x : Int32} {off : Int} (hd : decode y.2.1 pc = .ok (.ifCond .le off, 3)) (tgt : Nat) (ht : (pc : Int) + off = (tgt : Int)) (q : Nat) (hq : pc + 3 = q) (kt : (x ≤ 0) → G w E al n y mc ms P cs sl h tgt L st) (kf : ¬ (x ≤ 0) → G w E al n y mc ms P cs sl h q L st) : G w E al n y mc ms P cs sl h pc L (.int x :: st) := by
  subst hq
  intro p e s m args below meth c C H locs ls X1 X2 X3
  exact lv_if_le C.1 C.2.1 hd ht (fun z => kt z p e s m args below meth c C H locs ls X1 X2 X3) (fun z => kf z p e s m args below meth c C H locs ls X1 X2 X3)
theorem g_icmp_le {x z : Int32} {off : Int} (hd : decode y.2.1 pc = .ok (.if_icmp .le off, 3)) (tgt : Nat) (ht : (pc : Int) + off = (tgt : Int)) (q : Nat) (hq : pc + 3 = q) (kt : (x ≤ z) → G w E al n y mc ms P cs sl h tgt L st) (kf : ¬ (x ≤ z) → G w E al n y mc ms P cs sl h q L st) : G w E al n y mc ms P cs sl h pc L (.int z :: .int x :: st) := by
  subst hq
  intro p e s m args below meth c C H locs ls X1 X2 X3
  exact lv_icmp_le C.1 C.2.1 hd ht (fun z => kt z p e s m args below meth c C H locs ls X1 X2 X3) (fun z => kf z p e s m args below meth c C H locs ls X1 X2 X3)
theorem g_goto {off : Int} (hd : decode y.2.1 pc = .ok (.goto off, 3)) (tgt : Nat) (ht : (pc : Int) + off = (tgt : Int)) (k : G w E al n y mc ms P cs sl h tgt L st) : G w E al n y mc ms P cs sl h pc L st := by
  intro p e s m args below meth c C H locs ls X1 X2 X3
  exact lv_goto C.1 C.2.1 hd ht (k p e s m args below meth c C H locs ls X1 X2 X3)
theorem g_ifnonnull {x : Nat} {off : Int} (hd : decode y.2.1 pc = .ok (.ifnonnull off, 3)) (tgt : Nat) (ht : (pc : Int) + off = (tgt : Int)) (k : G w E al n y mc ms P cs sl h tgt L st) : G w E al n y mc ms P cs sl h pc L (.ref x :: st) := by
  intro p e s m args below meth c C H locs ls X1 X2 X3
  exact lv_ifnonnull C.1 C.2.1 hd ht (k p e s m args below meth c C H locs ls X1 X2 X3)
theorem g_ifnull {x : Nat} {off : Int} (hd : decode y.2.1 pc = .ok (.ifnull off, 3)) (q : Nat) (hq : pc + 3 = q) (k : G w E al n y mc ms P cs sl h q L st) : G w E al n y mc ms P cs sl h pc L (.ref x :: st) := by
  subst hq
  intro p e s m args below meth c C H locs ls X1 X2 X3
  exact lv_ifnull C.1 C.2.1 hd (k p e s m args below meth c C H locs ls X1 X2 X3)
theorem g_ifnullN {off : Int} (hd : decode y.2.1 pc = .ok (.ifnull off, 3)) (tgt : Nat) (ht : (pc : Int) + off = (tgt : Int)) (k : G w E al n y mc ms P cs sl h tgt L st) : G w E al n y mc ms P cs sl h pc L (.null :: st) := by
  intro p e s m args below meth c C H locs ls X1 X2 X3
  exact lv_ifnullN C.1 C.2.1 hd ht (k p e s m args below meth c C H locs ls X1 X2 X3)
theorem g_ifnonnullN {off : Int} (hd : decode y.2.1 pc = .ok (.ifnonnull off, 3)) (q : Nat) (hq : pc + 3 = q) (k : G w E al n y mc ms P cs sl h q L st) : G w E al n y mc ms P cs sl h pc L (.null :: st) := by
  subst hq
  intro p e s m args below meth c C H locs ls X1 X2 X3
  exact lv_ifnonnullN C.1 C.2.1 hd (k p e s m args below meth c C H locs ls X1 X2 X3)
end GStores
