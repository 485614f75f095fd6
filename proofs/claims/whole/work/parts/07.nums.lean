/-! small numbers: bits of sets, as Nat -/
theorem z_inj {x z : Int32} (h : x.toBitVec = z.toBitVec) : x = z := Int32.toBitVec_inj.mp h
theorem z_bv (n : Nat) : (nI n).toBitVec = BitVec.ofNat 32 n := rfl
theorem z_or (a b : Nat) : nI a ||| nI b = nI (a ||| b) := by
  apply z_inj
  rw [Int32.toBitVec_or, z_bv, z_bv, z_bv]
  apply BitVec.eq_of_getLsbD_eq
  intro i hi
  simp [hi]
theorem z_and (a b : Nat) : nI a &&& nI b = nI (a &&& b) := by
  apply z_inj
  rw [Int32.toBitVec_and, z_bv, z_bv, z_bv]
  apply BitVec.eq_of_getLsbD_eq
  intro i hi
  simp [hi]
theorem z_andn (a b : Nat) : nI a &&& (nI b ^^^ (-1)) = nI (a ^^^ (a &&& b)) := by
  apply z_inj
  rw [Int32.toBitVec_and, Int32.toBitVec_xor, z_bv, z_bv, z_bv]
  apply BitVec.eq_of_getLsbD_eq
  intro i hi
  have h1 : ((-1 : Int32).toBitVec).getLsbD i = true := by
    rw [show (-1 : Int32).toBitVec = BitVec.allOnes 32 from by decide, BitVec.getLsbD_allOnes]
    exact decide_eq_true hi
  simp only [BitVec.getLsbD_and, BitVec.getLsbD_xor, BitVec.getLsbD_ofNat, h1, hi, decide_true, Bool.true_and, Nat.testBit_xor, Nat.testBit_and]
  cases a.testBit i <;> cases b.testBit i <;> rfl
theorem z_sm : ∀ n, n < 32 → ((nI n &&& 31).toBitVec.smod 32).toNat = n := by decide +kernel
theorem z_shl (a : Nat) {k : Nat} (hk : k < 32) : nI a <<< (nI k &&& 31) = nI (a * 2 ^ k) := by
  apply z_inj
  apply BitVec.eq_of_toNat_eq
  rw [pk_shl _ _ k (z_sm k hk), z_bv, z_bv, BitVec.toNat_ofNat, BitVec.toNat_ofNat]
  rw [Nat.mul_mod, Nat.mod_mod, ← Nat.mul_mod]
theorem z_1shl {k : Nat} (hk : k < 32) : (1 : Int32) <<< (nI k &&& 31) = nI (2 ^ k) := by
  have := z_shl 1 hk
  rw [Nat.one_mul] at this
  exact this
theorem z_shr {a k : Nat} (ha : a < 2 ^ 31) (hk : k < 32) : nI a >>> (nI k &&& 31) = nI (a / 2 ^ k) := pk_shrN ha _ k (z_sm k hk)
theorem z_bit {a k : Nat} (ha : a < 2 ^ 31) (hk : k < 32) : (nI a >>> (nI k &&& 31)) &&& 1 = nI (a / 2 ^ k % 2) := by
  rw [z_shr ha hk]
  have := z_and (a / 2 ^ k) 1
  rw [Nat.and_one_is_mod] at this
  exact this
theorem z_tb (a k : Nat) : (a / 2 ^ k % 2 = 1) = (a.testBit k = true) := by
  rw [Nat.testBit_eq_decide_div_mod_eq]
  simp
theorem z_bit1 {a k : Nat} (ha : a < 2 ^ 31) (hk : k < 32) : ((nI a >>> (nI k &&& 31)) &&& 1 = 1) = (a.testBit k = true) := by
  rw [z_bit ha hk, ← z_tb]
  have h : a / 2 ^ k % 2 < 2 := Nat.mod_lt _ (by decide)
  generalize a / 2 ^ k % 2 = r at h
  have h1 : (nI r = 1) = (nI r = nI 1) := rfl
  rw [h1, eq_iff_iff]
  exact nI_eq (by omega) (by omega)
theorem z_bit0 {a k : Nat} (ha : a < 2 ^ 31) (hk : k < 32) : ((nI a >>> (nI k &&& 31)) &&& 1 = 0) = (a.testBit k = false) := by
  rw [z_bit ha hk, ← Bool.not_eq_true, ← z_tb]
  have h : a / 2 ^ k % 2 < 2 := Nat.mod_lt _ (by decide)
  generalize a / 2 ^ k % 2 = r at h
  have h1 : (nI r = 0) = (nI r = nI 0) := rfl
  rw [h1, eq_iff_iff, nI_eq (by omega) (by omega)]
  omega
theorem z_le {a b : Nat} : a ^^^ (a &&& b) ≤ a := by
  apply Nat.le_of_testBit
  intro i hi
  rw [Nat.testBit_xor, Nat.testBit_and] at hi
  cases h : a.testBit i
  · rw [h] at hi; simp at hi
  · rfl
theorem z_and_le {a b : Nat} : a &&& b ≤ b := Nat.and_le_right
theorem z_or_lt {a b k : Nat} (ha : a < 2 ^ k) (hb : b < 2 ^ k) : a ||| b < 2 ^ k := Nat.or_lt_two_pow ha hb
