/-! the class: numbers; who is where -/
def andN (a b : Nat) : Nat := a ^^^ (a &&& b)
theorem z_andN (a b : Nat) : nI a &&& (nI b ^^^ (-1)) = nI (andN a b) := z_andn a b
theorem andN_le {a b : Nat} : andN a b ≤ a := z_le
theorem andN_tb {a b i : Nat} : (andN a b).testBit i = (a.testBit i && !b.testBit i) := by
  unfold andN
  rw [Nat.testBit_xor, Nat.testBit_and]
  cases a.testBit i <;> cases b.testBit i <;> rfl
theorem MX9_has {w : gW} {al : Bool} {h : gH} (a p : Nat) (ha : a < 2 ^ 31) (hp : p < 9) : M w gT0 al mX9_has 0 0 h [.int (nI a), .int (nI p)] (gEq h (some (.int (gB (a.testBit p))))) := by
  refine M.of (L0 := [.int (nI a), .int (nI p)]) (by decide +kernel) (Nat.le_of_ble_eq_true rfl) rfl ?_
  refine g_iload_n dX9_has_0 rfl 1 rfl rfl ?_
  refine g_if_lt dX9_has_1 23 rfl 4 rfl (fun c => absurd c (nI_pos (by omega))) (fun _ => ?_)
  refine g_iload_n dX9_has_4 rfl 5 rfl rfl ?_
  refine g_bipush 9 dX9_has_5 7 rfl (by decide) ?_
  refine g_icmp_ge dX9_has_7 23 rfl 10 rfl (fun c => absurd c (nI_ge (b := 9) (by omega) (by omega))) (fun _ => ?_)
  refine g_iload_n dX9_has_10 rfl 11 rfl rfl ?_
  refine g_iload_n dX9_has_11 rfl 12 rfl rfl ?_
  refine g_ishr dX9_has_12 13 rfl ?_
  refine g_iconst 1 dX9_has_13 14 rfl (by decide) ?_
  refine g_iand dX9_has_14 15 rfl ?_
  refine g_iconst 1 dX9_has_15 16 rfl (by decide) ?_
  refine g_icmp_ne dX9_has_16 23 rfl 19 rfl (fun c1 => ?_) (fun c1 => ?_)
  · refine g_iconst 0 dX9_has_23 24 rfl (by decide) ?_
    refine g_ireturn dX9_has_24 rfl rfl (Nat.le_refl _) (Nat.le_refl _) ?_
    have e : a.testBit p = false := by rw [← Bool.not_eq_true, ← z_bit1 (a := a) (k := p) (by omega) (by omega)]; exact c1
    rw [e]
    exact ⟨rfl, rfl⟩
  · refine g_iconst 1 dX9_has_19 20 rfl (by decide) ?_
    refine g_goto dX9_has_20 24 rfl ?_
    refine g_ireturn dX9_has_24 rfl rfl (Nat.le_refl _) (Nat.le_refl _) ?_
    have e : a.testBit p = true := by rw [← z_bit1 (a := a) (k := p) (by omega) (by omega)]; exact c1
    rw [e]
    exact ⟨rfl, rfl⟩
def rX9_within (st : Int32) (wh : Int32) : Bool := (if (st &&& (wh ^^^ (-1))) = 0 then true else false)
set_option maxRecDepth 100000 in
set_option maxHeartbeats 4000000 in
theorem MX9_within {w : gW} {al : Bool} {h : gH}  (st : Int32) (wh : Int32)  : M w gT0 al mX9_within 0 0 h [.int st, .int wh] (gEq h (some (.int (gB (rX9_within st wh))))) := by
  refine M.of (L0 := [.int st, .int wh]) (by decide +kernel) (Nat.le_of_ble_eq_true rfl) rfl ?_
  refine g_iload_n dX9_within_0 rfl 1 rfl rfl ?_
  refine g_iload_n dX9_within_1 rfl 2 rfl rfl ?_
  refine g_iconst (-1) dX9_within_2 3 rfl (by decide) ?_
  refine g_ixor dX9_within_3 4 rfl ?_
  refine g_iand dX9_within_4 5 rfl ?_
  refine g_if_ne dX9_within_5 12 rfl 8 rfl (fun c1 => ?_) (fun c1 => ?_)
  · refine g_iconst 0 dX9_within_12 13 rfl (by decide) ?_
    refine g_ireturn dX9_within_13 rfl rfl (Nat.le_refl _) (Nat.le_refl _) ?_
    have e : (rX9_within st wh) = false := by rw [rX9_within, if_neg c1]
    rw [e]
    exact ⟨rfl, rfl⟩
  · refine g_iconst 1 dX9_within_8 9 rfl (by decide) ?_
    refine g_goto dX9_within_9 13 rfl ?_
    refine g_ireturn dX9_within_13 rfl rfl (Nat.le_refl _) (Nat.le_refl _) ?_
    have e : (rX9_within st wh) = true := by rw [rX9_within, if_pos c1]
    rw [e]
    exact ⟨rfl, rfl⟩
def maxI (x z : Int32) : Int32 := if x < z then z else x
def minI (x z : Int32) : Int32 := if z < x then z else x
def absI (x : Int32) : Int32 := if 0 ≤ x then x else 0 - x
def rJ6_bitCount_0f7a4 (a : Int32) : Int32 := ((((((((a - ((((a : Int32).toUInt32 >>> ((1 : Int32).toUInt32 &&& Int32.toUInt32 31)).toInt32) &&& 1431655765)) &&& 858993459) + (((((a - ((((a : Int32).toUInt32 >>> ((1 : Int32).toUInt32 &&& Int32.toUInt32 31)).toInt32) &&& 1431655765)) : Int32).toUInt32 >>> ((2 : Int32).toUInt32 &&& Int32.toUInt32 31)).toInt32) &&& 858993459)) + ((((((a - ((((a : Int32).toUInt32 >>> ((1 : Int32).toUInt32 &&& Int32.toUInt32 31)).toInt32) &&& 1431655765)) &&& 858993459) + (((((a - ((((a : Int32).toUInt32 >>> ((1 : Int32).toUInt32 &&& Int32.toUInt32 31)).toInt32) &&& 1431655765)) : Int32).toUInt32 >>> ((2 : Int32).toUInt32 &&& Int32.toUInt32 31)).toInt32) &&& 858993459)) : Int32).toUInt32 >>> ((4 : Int32).toUInt32 &&& Int32.toUInt32 31)).toInt32)) &&& 252645135) + ((((((((a - ((((a : Int32).toUInt32 >>> ((1 : Int32).toUInt32 &&& Int32.toUInt32 31)).toInt32) &&& 1431655765)) &&& 858993459) + (((((a - ((((a : Int32).toUInt32 >>> ((1 : Int32).toUInt32 &&& Int32.toUInt32 31)).toInt32) &&& 1431655765)) : Int32).toUInt32 >>> ((2 : Int32).toUInt32 &&& Int32.toUInt32 31)).toInt32) &&& 858993459)) + ((((((a - ((((a : Int32).toUInt32 >>> ((1 : Int32).toUInt32 &&& Int32.toUInt32 31)).toInt32) &&& 1431655765)) &&& 858993459) + (((((a - ((((a : Int32).toUInt32 >>> ((1 : Int32).toUInt32 &&& Int32.toUInt32 31)).toInt32) &&& 1431655765)) : Int32).toUInt32 >>> ((2 : Int32).toUInt32 &&& Int32.toUInt32 31)).toInt32) &&& 858993459)) : Int32).toUInt32 >>> ((4 : Int32).toUInt32 &&& Int32.toUInt32 31)).toInt32)) &&& 252645135) : Int32).toUInt32 >>> ((8 : Int32).toUInt32 &&& Int32.toUInt32 31)).toInt32)) + (((((((((a - ((((a : Int32).toUInt32 >>> ((1 : Int32).toUInt32 &&& Int32.toUInt32 31)).toInt32) &&& 1431655765)) &&& 858993459) + (((((a - ((((a : Int32).toUInt32 >>> ((1 : Int32).toUInt32 &&& Int32.toUInt32 31)).toInt32) &&& 1431655765)) : Int32).toUInt32 >>> ((2 : Int32).toUInt32 &&& Int32.toUInt32 31)).toInt32) &&& 858993459)) + ((((((a - ((((a : Int32).toUInt32 >>> ((1 : Int32).toUInt32 &&& Int32.toUInt32 31)).toInt32) &&& 1431655765)) &&& 858993459) + (((((a - ((((a : Int32).toUInt32 >>> ((1 : Int32).toUInt32 &&& Int32.toUInt32 31)).toInt32) &&& 1431655765)) : Int32).toUInt32 >>> ((2 : Int32).toUInt32 &&& Int32.toUInt32 31)).toInt32) &&& 858993459)) : Int32).toUInt32 >>> ((4 : Int32).toUInt32 &&& Int32.toUInt32 31)).toInt32)) &&& 252645135) + ((((((((a - ((((a : Int32).toUInt32 >>> ((1 : Int32).toUInt32 &&& Int32.toUInt32 31)).toInt32) &&& 1431655765)) &&& 858993459) + (((((a - ((((a : Int32).toUInt32 >>> ((1 : Int32).toUInt32 &&& Int32.toUInt32 31)).toInt32) &&& 1431655765)) : Int32).toUInt32 >>> ((2 : Int32).toUInt32 &&& Int32.toUInt32 31)).toInt32) &&& 858993459)) + ((((((a - ((((a : Int32).toUInt32 >>> ((1 : Int32).toUInt32 &&& Int32.toUInt32 31)).toInt32) &&& 1431655765)) &&& 858993459) + (((((a - ((((a : Int32).toUInt32 >>> ((1 : Int32).toUInt32 &&& Int32.toUInt32 31)).toInt32) &&& 1431655765)) : Int32).toUInt32 >>> ((2 : Int32).toUInt32 &&& Int32.toUInt32 31)).toInt32) &&& 858993459)) : Int32).toUInt32 >>> ((4 : Int32).toUInt32 &&& Int32.toUInt32 31)).toInt32)) &&& 252645135) : Int32).toUInt32 >>> ((8 : Int32).toUInt32 &&& Int32.toUInt32 31)).toInt32)) : Int32).toUInt32 >>> ((16 : Int32).toUInt32 &&& Int32.toUInt32 31)).toInt32)) &&& 63)
set_option maxRecDepth 100000 in
set_option maxHeartbeats 4000000 in
theorem MJ6_bitCount_0f7a4 {w : gW} {al : Bool} {h : gH}  (a : Int32)  : M w gT0 al mJ6_bitCount_0f7a4 0 0 h [.int a] (gEq h (some (.int (rJ6_bitCount_0f7a4 a)))) := by
  refine M.of (L0 := [.int a]) (by decide +kernel) (Nat.le_of_ble_eq_true rfl) rfl ?_
  refine g_iload_n dJ6_bitCount_0f7a4_0 rfl 1 rfl rfl ?_
  refine g_iload_n dJ6_bitCount_0f7a4_1 rfl 2 rfl rfl ?_
  refine g_iconst 1 dJ6_bitCount_0f7a4_2 3 rfl (by decide) ?_
  refine g_iushr dJ6_bitCount_0f7a4_3 4 rfl ?_
  refine g_ldc_w (1431655765) dJ6_bitCount_0f7a4_4 7 rfl vJ6_265 ?_
  refine g_iand dJ6_bitCount_0f7a4_7 8 rfl ?_
  refine g_isub dJ6_bitCount_0f7a4_8 9 rfl ?_
  refine g_istore0 dJ6_bitCount_0f7a4_9 10 rfl (by decide) ?_
  refine g_iload_n dJ6_bitCount_0f7a4_10 rfl 11 rfl rfl ?_
  refine g_ldc_w (858993459) dJ6_bitCount_0f7a4_11 14 rfl vJ6_266 ?_
  refine g_iand dJ6_bitCount_0f7a4_14 15 rfl ?_
  refine g_iload_n dJ6_bitCount_0f7a4_15 rfl 16 rfl rfl ?_
  refine g_iconst 2 dJ6_bitCount_0f7a4_16 17 rfl (by decide) ?_
  refine g_iushr dJ6_bitCount_0f7a4_17 18 rfl ?_
  refine g_ldc_w (858993459) dJ6_bitCount_0f7a4_18 21 rfl vJ6_266 ?_
  refine g_iand dJ6_bitCount_0f7a4_21 22 rfl ?_
  refine g_iadd dJ6_bitCount_0f7a4_22 23 rfl ?_
  refine g_istore0 dJ6_bitCount_0f7a4_23 24 rfl (by decide) ?_
  refine g_iload_n dJ6_bitCount_0f7a4_24 rfl 25 rfl rfl ?_
  refine g_iload_n dJ6_bitCount_0f7a4_25 rfl 26 rfl rfl ?_
  refine g_iconst 4 dJ6_bitCount_0f7a4_26 27 rfl (by decide) ?_
  refine g_iushr dJ6_bitCount_0f7a4_27 28 rfl ?_
  refine g_iadd dJ6_bitCount_0f7a4_28 29 rfl ?_
  refine g_ldc_w (252645135) dJ6_bitCount_0f7a4_29 32 rfl vJ6_267 ?_
  refine g_iand dJ6_bitCount_0f7a4_32 33 rfl ?_
  refine g_istore0 dJ6_bitCount_0f7a4_33 34 rfl (by decide) ?_
  refine g_iload_n dJ6_bitCount_0f7a4_34 rfl 35 rfl rfl ?_
  refine g_iload_n dJ6_bitCount_0f7a4_35 rfl 36 rfl rfl ?_
  refine g_bipush 8 dJ6_bitCount_0f7a4_36 38 rfl (by decide) ?_
  refine g_iushr dJ6_bitCount_0f7a4_38 39 rfl ?_
  refine g_iadd dJ6_bitCount_0f7a4_39 40 rfl ?_
  refine g_istore0 dJ6_bitCount_0f7a4_40 41 rfl (by decide) ?_
  refine g_iload_n dJ6_bitCount_0f7a4_41 rfl 42 rfl rfl ?_
  refine g_iload_n dJ6_bitCount_0f7a4_42 rfl 43 rfl rfl ?_
  refine g_bipush 16 dJ6_bitCount_0f7a4_43 45 rfl (by decide) ?_
  refine g_iushr dJ6_bitCount_0f7a4_45 46 rfl ?_
  refine g_iadd dJ6_bitCount_0f7a4_46 47 rfl ?_
  refine g_istore0 dJ6_bitCount_0f7a4_47 48 rfl (by decide) ?_
  refine g_iload_n dJ6_bitCount_0f7a4_48 rfl 49 rfl rfl ?_
  refine g_bipush 63 dJ6_bitCount_0f7a4_49 51 rfl (by decide) ?_
  refine g_iand dJ6_bitCount_0f7a4_51 52 rfl ?_
  refine g_ireturn dJ6_bitCount_0f7a4_52 rfl rfl (Nat.le_refl _) (Nat.le_refl _) ?_
  have e : (rJ6_bitCount_0f7a4 a) = ((((((((a - ((((a : Int32).toUInt32 >>> ((1 : Int32).toUInt32 &&& Int32.toUInt32 31)).toInt32) &&& 1431655765)) &&& 858993459) + (((((a - ((((a : Int32).toUInt32 >>> ((1 : Int32).toUInt32 &&& Int32.toUInt32 31)).toInt32) &&& 1431655765)) : Int32).toUInt32 >>> ((2 : Int32).toUInt32 &&& Int32.toUInt32 31)).toInt32) &&& 858993459)) + ((((((a - ((((a : Int32).toUInt32 >>> ((1 : Int32).toUInt32 &&& Int32.toUInt32 31)).toInt32) &&& 1431655765)) &&& 858993459) + (((((a - ((((a : Int32).toUInt32 >>> ((1 : Int32).toUInt32 &&& Int32.toUInt32 31)).toInt32) &&& 1431655765)) : Int32).toUInt32 >>> ((2 : Int32).toUInt32 &&& Int32.toUInt32 31)).toInt32) &&& 858993459)) : Int32).toUInt32 >>> ((4 : Int32).toUInt32 &&& Int32.toUInt32 31)).toInt32)) &&& 252645135) + ((((((((a - ((((a : Int32).toUInt32 >>> ((1 : Int32).toUInt32 &&& Int32.toUInt32 31)).toInt32) &&& 1431655765)) &&& 858993459) + (((((a - ((((a : Int32).toUInt32 >>> ((1 : Int32).toUInt32 &&& Int32.toUInt32 31)).toInt32) &&& 1431655765)) : Int32).toUInt32 >>> ((2 : Int32).toUInt32 &&& Int32.toUInt32 31)).toInt32) &&& 858993459)) + ((((((a - ((((a : Int32).toUInt32 >>> ((1 : Int32).toUInt32 &&& Int32.toUInt32 31)).toInt32) &&& 1431655765)) &&& 858993459) + (((((a - ((((a : Int32).toUInt32 >>> ((1 : Int32).toUInt32 &&& Int32.toUInt32 31)).toInt32) &&& 1431655765)) : Int32).toUInt32 >>> ((2 : Int32).toUInt32 &&& Int32.toUInt32 31)).toInt32) &&& 858993459)) : Int32).toUInt32 >>> ((4 : Int32).toUInt32 &&& Int32.toUInt32 31)).toInt32)) &&& 252645135) : Int32).toUInt32 >>> ((8 : Int32).toUInt32 &&& Int32.toUInt32 31)).toInt32)) + (((((((((a - ((((a : Int32).toUInt32 >>> ((1 : Int32).toUInt32 &&& Int32.toUInt32 31)).toInt32) &&& 1431655765)) &&& 858993459) + (((((a - ((((a : Int32).toUInt32 >>> ((1 : Int32).toUInt32 &&& Int32.toUInt32 31)).toInt32) &&& 1431655765)) : Int32).toUInt32 >>> ((2 : Int32).toUInt32 &&& Int32.toUInt32 31)).toInt32) &&& 858993459)) + ((((((a - ((((a : Int32).toUInt32 >>> ((1 : Int32).toUInt32 &&& Int32.toUInt32 31)).toInt32) &&& 1431655765)) &&& 858993459) + (((((a - ((((a : Int32).toUInt32 >>> ((1 : Int32).toUInt32 &&& Int32.toUInt32 31)).toInt32) &&& 1431655765)) : Int32).toUInt32 >>> ((2 : Int32).toUInt32 &&& Int32.toUInt32 31)).toInt32) &&& 858993459)) : Int32).toUInt32 >>> ((4 : Int32).toUInt32 &&& Int32.toUInt32 31)).toInt32)) &&& 252645135) + ((((((((a - ((((a : Int32).toUInt32 >>> ((1 : Int32).toUInt32 &&& Int32.toUInt32 31)).toInt32) &&& 1431655765)) &&& 858993459) + (((((a - ((((a : Int32).toUInt32 >>> ((1 : Int32).toUInt32 &&& Int32.toUInt32 31)).toInt32) &&& 1431655765)) : Int32).toUInt32 >>> ((2 : Int32).toUInt32 &&& Int32.toUInt32 31)).toInt32) &&& 858993459)) + ((((((a - ((((a : Int32).toUInt32 >>> ((1 : Int32).toUInt32 &&& Int32.toUInt32 31)).toInt32) &&& 1431655765)) &&& 858993459) + (((((a - ((((a : Int32).toUInt32 >>> ((1 : Int32).toUInt32 &&& Int32.toUInt32 31)).toInt32) &&& 1431655765)) : Int32).toUInt32 >>> ((2 : Int32).toUInt32 &&& Int32.toUInt32 31)).toInt32) &&& 858993459)) : Int32).toUInt32 >>> ((4 : Int32).toUInt32 &&& Int32.toUInt32 31)).toInt32)) &&& 252645135) : Int32).toUInt32 >>> ((8 : Int32).toUInt32 &&& Int32.toUInt32 31)).toInt32)) : Int32).toUInt32 >>> ((16 : Int32).toUInt32 &&& Int32.toUInt32 31)).toInt32)) &&& 63) := by rw [rJ6_bitCount_0f7a4]
  rw [e]
  exact ⟨rfl, rfl⟩
