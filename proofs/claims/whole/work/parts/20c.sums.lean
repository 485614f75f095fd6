/-! the sum of a set -/
/-- what one counts -/
def yr (K A T : Nat → Nat) (ar : Bool) (p : Nat) : Nat := if K p = 1 then 1 else if K p = 2 then A p - 10 * T p else if K p = 3 then (if ar = true then A p else 0) else A p
def sgT (K A T : Nat → Nat) (a : Nat) (ar : Bool) (p : Nat) : Nat := if a.testBit p = true then yr K A T ar p else 0
def sg2 (K A : Nat → Nat) (a p : Nat) : Nat := if a.testBit p = true then (if K p = 3 then A p else 0) else 0
def sg3 (K : Nat → Nat) (a p : Nat) : Nat := if a.testBit p = true then (if K p = 3 then 1 else 0) else 0
/-- soldiers are armed -/
def armN (sz : Nat) (K : Nat → Nat) (a : Nat) : Bool := decide (2 ≤ sumN (sg3 K a) sz)
/-- the sum -/
def Sm (sz : Nat) (K A T : Nat → Nat) (a : Nat) : Nat := sumN (sgT K A T a (armN sz K a)) sz
theorem c01 : ¬ nI 0 = 1 := by decide
theorem c02 : ¬ nI 0 = 2 := by decide
theorem c03 : ¬ nI 0 = 3 := by decide
theorem c11 : nI 1 = 1 := rfl
theorem c21 : ¬ nI 2 = 1 := by decide
theorem c22 : nI 2 = 2 := rfl
theorem c31 : ¬ nI 3 = 1 := by decide
theorem c32 : ¬ nI 3 = 2 := by decide
theorem c33 : nI 3 = 3 := rfl
section Sums
variable {sz : Nat} {K A C G : Nat → Nat} {W B R : Nat} {Z T : Nat → Nat} {mi : Nat} {told s : Int32 → Int32} {ki ag co pa me nt : Int32 → Int32} {sd bo cr de : Nat} {wa be pr : Int32}
theorem yr_le (hB : Bd sz K A C G W B R Z T mi) {p : Nat} (hp : p < sz) (ar : Bool) : yr K A T ar p ≤ 99 := by
  obtain ⟨h1, h2, h3, h4, h5, h6, h7, h8⟩ := hB
  obtain ⟨k1, k2, k3, k4, k5, k6, k7⟩ := h8 p hp
  unfold yr
  split
  · omega
  · split
    · omega
    · split
      · split <;> omega
      · omega
theorem Sm_le (hB : Bd sz K A C G W B R Z T mi) (a : Nat) : Sm sz K A T a ≤ 891 := by
  have h1 : Sm sz K A T a ≤ 99 * sz := by
    refine sumN_le sz (fun p hp => ?_)
    unfold sgT
    split
    · exact yr_le hB hp _
    · omega
  have h2 := hB.2.1
  omega
theorem ref_lp (hB : Bd sz K A C G W B R Z T mi) (hR : Rr sz K A C G W B R told) (hS : Rs sz Z T mi s) {a : Nat} (ha : a < 2 ^ 31) : gLp (fX10_sumOf_10 told s (nI a)) sz 0 (0, 0, 0) = (nI (sumN (sgT K A T a false) sz), nI (sumN (sg2 K A a) sz), nI (sumN (sg3 K a) sz)) := by
  refine gLp_inv (n := sz) (fun k t => t = (nI (sumN (sgT K A T a false) k), nI (sumN (sg2 K A a) k), nI (sumN (sg3 K a) k))) ?_ sz 0 (0, 0, 0) (by omega) rfl
  rintro i t hi rfl
  obtain ⟨e4, e13, e22, e31⟩ := hR.2.2.2.2 i hi
  obtain ⟨s0, s9⟩ := hS.2 i hi
  obtain ⟨h1, h2, h3, h4, h5, h6, h7, h8⟩ := hB
  obtain ⟨k1, k2, k3, k4, k5, k6, k7⟩ := h8 i hi
  have em : (10 : Int32) * nI (T i) = nI (10 * T i) := pk_mul 10 _
  have z0 : ∀ x : Nat, nI x + 0 = nI x := fun x => nI_add x 0
  have z1 : ∀ x : Nat, nI x + 1 = nI (x + 1) := fun x => nI_add x 1
  unfold fX10_sumOf_10
  dsimp only
  rw [sumN_s, sumN_s, sumN_s, e4, e13, s9, em]
  by_cases hb : a.testBit i = true
  · rw [if_pos (Eq.mpr (z_bit1 ha (by omega)) hb)]
    have q1 : sgT K A T a false i = yr K A T false i := if_pos hb
    have q2 : sg2 K A a i = if K i = 3 then A i else 0 := if_pos hb
    have q3 : sg3 K a i = if K i = 3 then 1 else 0 := if_pos hb
    rw [q1, q2, q3]
    have hk : K i = 0 ∨ K i = 1 ∨ K i = 2 ∨ K i = 3 := by omega
    unfold yr
    rcases hk with hk | hk | hk | hk
    · simp [hk, c01, c02, c03, z0, nI_add]
    · simp [hk, c11, z0, z1]
    · by_cases hc : 10 * T i ≤ A i
      · have e : 0 ≤ nI (A i) - nI (10 * T i) := (nI_dif0 (by omega) (by omega)).mpr hc
        have e2 : ¬ nI (A i - 10 * T i) < 0 := nI_pos (by omega)
        simp [hk, c21, c22, e, e2, z0, pk_sub hc, nI_add]
      · have e : ¬ 0 ≤ nI (A i) - nI (10 * T i) := fun z => hc ((nI_dif0 (by omega) (by omega)).mp z)
        have e2 : A i - 10 * T i = 0 := by omega
        simp [hk, c21, c22, e, z0, e2]
    · simp [hk, c31, c32, c33, z0, z1, nI_add]
  · rw [if_neg (fun z => hb (Eq.mp (z_bit1 ha (by omega)) z))]
    rw [show sgT K A T a false i = 0 from if_neg hb, show sg2 K A a i = 0 from if_neg hb, show sg3 K a i = 0 from if_neg hb]
    rfl
theorem arm_sum (ar : Bool) {a : Nat} (h : ar = true) : sumN (sgT K A T a ar) sz = sumN (sgT K A T a false) sz + sumN (sg2 K A a) sz := by
  subst h
  rw [← sumN_add]
  refine sumN_ext sz (fun p hp => ?_)
  unfold sgT sg2 yr
  by_cases hb : a.testBit p = true
  · rw [if_pos hb, if_pos hb, if_pos hb]
    by_cases h1 : K p = 1
    · rw [if_pos h1, if_pos h1, if_neg (by omega)]
    · rw [if_neg h1, if_neg h1]
      by_cases h2 : K p = 2
      · rw [if_pos h2, if_pos h2, if_neg (by omega)]
        rfl
      · rw [if_neg h2, if_neg h2]
        by_cases h3 : K p = 3
        · rw [if_pos h3, if_pos h3, if_pos h3, if_pos rfl, if_neg (by decide), Nat.zero_add]
        · rw [if_neg h3, if_neg h3, if_neg h3]
          rfl
  · rw [if_neg hb, if_neg hb, if_neg hb]
theorem ref_sum (hB : Bd sz K A C G W B R Z T mi) (hR : Rr sz K A C G W B R told) (hS : Rs sz Z T mi s) {a : Nat} (ha : a < 2 ^ 31) : rX10_sumOf told s (nI a) sz = nI (Sm sz K A T a) := by
  unfold rX10_sumOf Sm
  rw [ref_lp hB hR hS ha]
  dsimp only
  have h3 : sumN (sg3 K a) sz ≤ 1 * sz := sumN_le sz (fun p hp => by unfold sg3; split <;> (try split) <;> omega)
  have h2 := hB.2.1
  by_cases hc : sumN (sg3 K a) sz ≤ 1
  · rw [if_pos ((nI_le1L (by omega)).mpr hc), show armN sz K a = false from decide_eq_false (by omega)]
  · have e : armN sz K a = true := decide_eq_true (by omega)
    rw [if_neg (fun z => hc ((nI_le1L (by omega)).mp z)), arm_sum _ e, nI_add]
theorem maxI_dif {a b : Nat} (ha : a < 2 ^ 30) (hb : b < 2 ^ 30) : maxI 0 (nI a - nI b) = nI (a - b) := by
  unfold maxI
  by_cases hc : b ≤ a
  · by_cases h0 : (0 : Int32) < nI a - nI b
    · rw [if_pos h0, pk_sub hc]
    · rw [if_neg h0]
      rw [pk_sub hc] at h0
      have h1 : a - b = 0 := by
        refine Nat.eq_zero_of_not_pos (fun z => h0 ?_)
        exact nI_lt (a := 0) z (by omega)
      rw [h1]
      rfl
  · have h1 : nI a - nI b < 0 := (nI_dif ha hb).mpr (by omega)
    have h0 : ¬ (0 : Int32) < nI a - nI b := fun z => Int32.lt_irrefl (Int32.lt_trans h1 z)
    rw [if_neg h0, show a - b = 0 by omega]
    rfl
theorem years_eq (hB : Bd sz K A C G W B R Z T mi) (hCr : Cr sz K A C G W B R ki ag co pa me sd wa be pr) (hC : Cst sz Z T nt bo cr de) {p : Nat} (hp : p < sz) (ar : Bool) : rX6_yearsOf_29 ki ag nt p ar = nI (yr K A T ar p) := by
  obtain ⟨c1, c2, c3, c4, c5⟩ := hCr.2.2.2.2.1 p hp
  have c6 := (hC.2.2.2 p hp).1
  obtain ⟨h1, h2, h3, h4, h5, h6, h7, h8⟩ := hB
  obtain ⟨k1, k2, k3, k4, k5, k6, k7⟩ := h8 p hp
  have em : (10 : Int32) * nI (T p) = nI (10 * T p) := pk_mul 10 _
  unfold rX6_yearsOf_29 yr
  rw [c1, c2, c6, em, maxI_dif (by omega) (by omega)]
  have hk : K p = 0 ∨ K p = 1 ∨ K p = 2 ∨ K p = 3 := by omega
  rcases hk with hk | hk | hk | hk
  · simp [hk, c01, c02, c03]
  · simp [hk, c11]
  · simp [hk, c21, c22]
  · cases ar
    · simp [hk, c31, c32, c33]
      rfl
    · simp [hk, c31, c32, c33]
theorem cls_lp (hB : Bd sz K A C G W B R Z T mi) (hCr : Cr sz K A C G W B R ki ag co pa me sd wa be pr) (hC : Cst sz Z T nt bo cr de) (a : Nat) (ar : Bool) : gLp (fX6_totalOf_27_29 ki ag nt a ar) sz 0 0 = nI (sumN (sgT K A T a ar) sz) := by
  have h := gLp_sum (f := fX6_totalOf_27_29 ki ag nt a ar) (g := sgT K A T a ar) (n := sz) (fun p x hp => by
    unfold fX6_totalOf_27_29 sgT
    dsimp only
    by_cases hb : a.testBit p = true
    · rw [if_pos hb, if_pos hb, years_eq hB hCr hC hp, nI_add]
    · rw [if_neg hb, if_neg hb, Nat.add_zero]) 0
  rw [Nat.zero_add] at h
  exact h
theorem cnt_sum {P : Nat → Bool} : ∀ n, (List.range n).countP P = sumN (fun p => if P p = true then 1 else 0) n
  | 0 => rfl
  | n + 1 => by
    rw [List.range_succ, List.countP_append, cnt_sum n, sumN_s]
    congr 1
    cases h : P n <;> simp [List.countP_cons, h]
theorem ones_sum {v : Nat} (hv : v < 2 ^ sz) (hs : sz ≤ 9) : tOnes v = sumN (fun p => if v.testBit p = true then 1 else 0) sz := by
  have hp := pw9 hs
  rw [tOnes_cnt v (by omega), cnt_sum]
  have e : 9 = sz + (9 - sz) := by omega
  rw [e]
  exact sumN_more (9 - sz) (fun p h1 h2 => by rw [tb_hi hv h1]; rfl)
theorem arm_eq (hB : Bd sz K A C G W B R Z T mi) (hCr : Cr sz K A C G W B R ki ag co pa me sd wa be pr) {a : Nat} : tOnes (a &&& sd) = sumN (sg3 K a) sz := by
  rw [ones_sum (sz := sz) (Nat.lt_of_le_of_lt Nat.and_le_right hCr.2.2.2.1) hB.2.1]
  refine sumN_ext sz (fun p hp => ?_)
  unfold sg3
  rw [Nat.testBit_and, (hCr.2.2.2.2.1 p hp).2.2.2.2]
  by_cases h1 : a.testBit p = true
  · by_cases h2 : K p = 3
    · simp [h1, h2]
    · simp [h1, h2]
  · simp [h1]
theorem cls_sum (hB : Bd sz K A C G W B R Z T mi) (hCr : Cr sz K A C G W B R ki ag co pa me sd wa be pr) (hC : Cst sz Z T nt bo cr de) (a : Nat) : rX6_totalOf_29 ki ag nt a sz sd = nI (Sm sz K A T a) := by
  unfold rX6_totalOf_29 Sm
  rw [cls_lp hB hCr hC, cls_lp hB hCr hC, arm_eq hB hCr]
  have h3 : sumN (sg3 K a) sz ≤ 1 * sz := sumN_le sz (fun p hp => by unfold sg3; split <;> (try split) <;> omega)
  have h2 := hB.2.1
  by_cases hc : sumN (sg3 K a) sz < 2
  · rw [if_pos ((nI_lt2L (by omega)).mpr hc), show armN sz K a = false from decide_eq_false (by omega)]
  · rw [if_neg (fun z => hc ((nI_lt2L (by omega)).mp z)), show armN sz K a = true from decide_eq_true (by omega)]
end Sums
