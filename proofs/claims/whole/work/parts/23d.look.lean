/-! what is asked of the state; notes; letters -/
theorem dif_le0 {a b : Nat} (ha : a < 2 ^ 30) (hb : b < 2 ^ 30) : nI a - nI b ≤ 0 ↔ a ≤ b := by
  rw [Int32.le_iff_toInt_le, pk_sub_toInt ha hb]
  have e : (0 : Int32).toInt = 0 := rfl
  omega
section Look
variable {sz : Nat} {K A C G : Nat → Nat} {W B R : Nat} {Z T : Nat → Nat} {mi : Nat} {told s : Int32 → Int32} {ki ag co pa me nt : Int32 → Int32} {sd bo cr de : Nat} {wa be pr : Int32} {cs : Int32 → Int32}
theorem eq_person (h : Al sz K A C G W B R Z T mi told s ki ag co pa me nt sd bo cr de wa be pr) {p : Nat} (hp : p < sz) (what : Int32) : rX10_person told s p what = rX9_person ki ag co pa nt (nI mi) p what bo cr de := by
  have ep := place_eq h hp
  obtain ⟨hB, hR, hS, hCr, hC⟩ := h
  obtain ⟨r1, r2, r3, r4⟩ := hR.2.2.2.2 p hp
  obtain ⟨c1, c2, c3, c4, -⟩ := hCr.2.2.2.2.1 p hp
  unfold rX10_person rX9_person
  rw [r1, r2, r3, r4, c1, c2, c3, c4, ep, (hS.2 p hp).2, (hC.2.2.2 p hp).1]
theorem eq_sum (h : Al sz K A C G W B R Z T mi told s ki ag co pa me nt sd bo cr de wa be pr) (what : Int32) : rX10_sum told s what sz = rX9_sum ki ag me wa be pr nt what sz bo cr de sd := by
  have ca := sail_cost h
  obtain ⟨hB, hR, hS, hCr, hC⟩ := h
  have hb : bo < 2 ^ 31 := Nat.lt_trans (pow9 hB.2.1 hC.1) (by decide)
  have hw : W ≤ 990 := hB.2.2.2.1
  have hS9 := Sm_le hB (T := T) bo
  have e1 : told 1 = nI W := hR.2.1
  have e2 : wa = nI W := hCr.1
  unfold rX10_sum rX9_sum
  rw [all_bo hB hR hS hC, ref_sum hB hR hS hb, cls_sum hB hCr hC, e1, e2, Int32.neg_sub, maxI_dif (by omega) (by omega), maxI_dif (by omega) (by omega), Int32.sub_add_cancel]
  rw [e2] at ca
  by_cases w0 : what = 0
  · rw [if_pos w0, if_pos w0]
  · rw [if_neg w0, if_neg w0]
    by_cases w1 : what = 1
    · rw [if_pos w1, if_pos w1]
      by_cases c : W ≤ Sm sz K A T bo
      · rw [if_pos ((nI_dif0 (by omega) (by omega)).mpr c), Nat.sub_eq_zero_of_le c]
        rfl
      · rw [if_neg (fun z => c ((nI_dif0 (by omega) (by omega)).mp z))]
        exact pk_sub (by omega)
    · rw [if_neg w1, if_neg w1]
      by_cases w2 : what = 2
      · rw [if_pos w2, if_pos w2]
        by_cases c : Sm sz K A T bo ≤ W
        · rw [if_pos ((dif_le0 (by omega) (by omega)).mpr c), Nat.sub_eq_zero_of_le c]
          rfl
        · rw [if_neg (fun z => c ((dif_le0 (by omega) (by omega)).mp z))]
          exact pk_sub (by omega)
      · rw [if_neg w2, if_neg w2]
        by_cases c : rX10_sails told s (nI bo) sz = true
        · obtain ⟨n4, ec⟩ := ca.1 c
          rw [if_pos c, if_pos c, if_neg n4, ec]
        · have ec := ca.2 c
          rw [if_neg c, if_neg c, if_pos ec, ec]
theorem at_1 (hB : Bd sz K A C G W B R Z T mi) (hR : Rr sz K A C G W B R told) (hS : Rs sz Z T mi s) (hCr : Cr sz K A C G W B R ki ag co pa me sd wa be pr) (hC : Cst sz Z T nt bo cr de) : tAt told s 1 sz = andN (presN co (nI mi) sz cr de) bo := by
  refine tb_eq (tAt_ok told s 1 hB.2.1).1 (an_le (pres_lt hC)) (fun p hp => ?_)
  have e := tAt_tb hB hR hS (k := 1) (by decide) hp
  refine e.trans ?_
  have w := (wh_cases hB hp).2.2.2
  have hz := (hB.2.2.2.2.2.2.2 p hp).2.2.2.2.2.1
  rw [andN_tb, pres_tb hB hCr hC hp, (hC.2.2.2 p hp).2.1, Bool.eq_iff_iff, decide_eq_true_iff, w]
  simp only [Bool.and_eq_true, Bool.not_eq_true', decide_eq_true_iff, decide_eq_false_iff_not]
  omega
theorem eq_count {ns np : Int32} (h : Al sz K A C G W B R Z T mi told s ki ag co pa me nt sd bo cr de wa be pr) (e1 : ns = s 19) (e2 : np = s 20) (typed known kept noted what : Int32) : rX10_count typed told s known kept noted what sz = rX9_count typed co wa (nI mi) ns np known kept noted what sz bo cr de := by
  obtain ⟨hB, hR, hS, hCr, hC⟩ := h
  have o : ∀ j, j < 2 ^ sz → rX10_ones (nI j) = nI (tOnes j) := fun j hj => (ones_eq (pow9 hB.2.1 hj)).1
  have t0 : told 0 = nI sz := hR.1
  have t1 : told 1 = nI W := hR.2.1
  have t2 : wa = nI W := hCr.1
  have t3 : s 18 = nI mi := hS.1
  have a1 : rX10_allAt told s 1 sz = nI (andN (presN co (nI mi) sz cr de) bo) := by rw [(tAt_ok told s 1 hB.2.1).2.1, at_1 hB hR hS hCr hC]
  unfold rX10_count rX9_count rX7_length
  rw [a1, all_bo hB hR hS hC, all_cr hB hR hS hC, all_de hB hR hS hC, o _ hC.1, o _ hC.2.1, o _ hC.2.2.1, o _ (an_le (pres_lt hC)), t0, t1, t2, t3, e1, e2]
end Look
/-- the letters in both places -/
def Tx (ty : Nat) (text tl : Int32 → Int32) : Prop := ty ≤ 200 ∧ ∀ j, j < ty → text (nI j) = tl (nI j)
theorem eq_write {ty : Nat} {text tl : Int32 → Int32} (h : Tx ty text tl) (lt : Int32) : (rX10_write text lt ty).1 = (rX9_write tl lt ty).1 ∧ (rX10_write text lt ty).2.2 = (rX9_write tl lt ty).2.2 ∧ Tx (rX9_write tl lt ty).2.2 (rX10_write text lt ty).2.1 (rX9_write tl lt ty).2.1 := by
  obtain ⟨h1, h2⟩ := h
  unfold rX10_write rX9_write rX7_length rX7_add
  by_cases c1 : lt < 32
  · rw [if_neg (fun z => (in01.mp z).1 c1), if_pos c1]
    exact ⟨rfl, rfl, h1, h2⟩
  · by_cases c2 : lt ≤ 126
    · rw [if_pos (in01.mpr ⟨c1, fun z => absurd c2 (Int32.not_le.mpr z)⟩), if_neg c1, if_pos c2]
      by_cases c3 : ty = 200
      · have e3 : nI ty = 200 := by rw [c3]; rfl
        have e4 : ¬ nI ty < 200 := fun z => absurd ((nI_ltI (b := 200) (by omega) (by decide)).mp z) (by omega)
        rw [if_pos e3, if_neg e4]
        exact ⟨rfl, rfl, h1, h2⟩
      · have e3 : ¬ nI ty = 200 := fun z => c3 ((nI_eq (b := 200) (by omega) (by decide)).mp z)
        have e4 : nI ty < 200 := (nI_ltI (b := 200) (by omega) (by decide)).mpr (by omega)
        rw [if_neg e3, if_pos e4]
        refine ⟨rfl, rfl, ?_, fun j hj => ?_⟩
        · show ty + 1 ≤ 200
          omega
        · have hj' : j < ty + 1 := hj
          show gup text (nI ty) lt (nI j) = gup tl (nI ty) lt (nI j)
          by_cases e : j = ty
          · rw [e, gup_s, gup_s]
          · rw [gup_ne (by omega) (by omega) (fun z => e z.symm), gup_ne (by omega) (by omega) (fun z => e z.symm)]
            exact h2 j (by omega)
    · rw [if_neg (fun z => (in01.mp z).2 (Int32.not_le.mp c2)), if_neg c1, if_neg c2]
      exact ⟨rfl, rfl, h1, h2⟩
/-- what a note may speak of -/
theorem mask_eq {told : Int32 → Int32} {sz : Nat} (h0 : told 0 = nI sz) (hs : sz ≤ 9) : ((1 : Int32) <<< ((told 0) &&& 31)) - 1 = nI (2 ^ sz - 1) := by
  rw [h0, z_1shl (by omega)]
  exact pk_sub (b := 1) (Nat.two_pow_pos sz)
theorem i_nat {b : Int32} (h : ¬ b < 0) : ∃ n, n < 2 ^ 31 ∧ b = nI n := by
  have h0 : 0 ≤ b.toInt := Int.not_lt.mp (fun z => h (Int32.lt_iff_toInt_lt.mpr z))
  have h1 : b.toInt < 2 ^ 31 := Int32.toInt_lt b
  refine ⟨b.toNatClampNeg, ?_, (nI_i (n := 2 ^ 31) ?_).symm⟩
  · show b.toInt.toNat < 2 ^ 31
    omega
  · exact vp_in_iff.mpr ⟨h0, by omega⟩
theorem lt1_0 {b : Int32} (h : ¬ b < 1) : ¬ b < 0 := by
  intro z
  refine h (Int32.lt_iff_toInt_lt.mpr ?_)
  have z' := Int32.lt_iff_toInt_lt.mp z
  have e0 : (0 : Int32).toInt = 0 := rfl
  have e1 : (1 : Int32).toInt = 1 := rfl
  omega
theorem mask_wi {n sz : Nat} (hn : n < 2 ^ 31) : rX9_within (nI n) (nI (2 ^ sz - 1)) = true ↔ n < 2 ^ sz := by
  rw [wi_iff, z_andN]
  have e : nI (andN n (2 ^ sz - 1)) = 0 ↔ andN n (2 ^ sz - 1) = 0 := nI_eq (b := 0) (an_le hn) (by decide)
  rw [e]
  refine ⟨fun z => Nat.lt_pow_two_of_testBit n (fun i hi => ?_), fun z => ?_⟩
  · have b : (andN n (2 ^ sz - 1)).testBit i = false := by rw [z, Nat.zero_testBit]
    rw [andN_tb, tb_all, show decide (i < sz) = false from decide_eq_false (by omega)] at b
    rw [← b]
    exact (Bool.and_true _).symm
  · refine Nat.eq_of_testBit_eq (fun i => ?_)
    rw [andN_tb, tb_all, Nat.zero_testBit]
    by_cases c : i < sz
    · rw [decide_eq_true c]
      exact Bool.and_false _
    · rw [tb_hi z (by omega)]
      rfl
/-- the notes in both places -/
def Nts (sz : Nat) (A : Nat → Nat) (hd : Nat) (notes os og : Int32 → Int32) (osn smn : Nat → Nat) : Prop := hd ≤ 5 ∧ TN sz A hd notes os og osn smn
theorem Nts.os {sz : Nat} {A : Nat → Nat} {hd : Nat} {notes os og : Int32 → Int32} {osn smn : Nat → Nat} (hs : sz ≤ 9) (h : Nts sz A hd notes os og osn smn) : ∀ j, j < hd → os (nI j) = nI (osn j) ∧ osn j < 512 := fun j hj => ⟨(h.2 j hj).2.1, pow9 hs (h.2 j hj).2.2.1⟩
theorem tn_push {sz : Nat} {A : Nat → Nat} {hd : Nat} {notes os og : Int32 → Int32} {osn smn : Nat → Nat} {n m : Nat} (h : Nts sz A hd notes os og osn smn) (hd5 : hd < 5) (hn : n < 2 ^ sz) (hm : m ≤ 999) : Nts sz A (hd + 1) (gup notes (nI hd) (1000 * nI n + nI m)) (gup os (nI hd) (nI n)) (gup og (nI hd) (nI m - nI (agS sz A n))) (zUp osn hd n) (zUp smn hd m) := by
  refine ⟨by omega, fun j hj => ?_⟩
  by_cases c : j = hd
  · rw [c, zUp_at, zUp_at, gup_s, gup_s, gup_s]
    have e : (1000 : Int32) * nI n = nI (1000 * n) := pk_mul 1000 n
    rw [e, nI_add]
    exact ⟨rfl, rfl, hn, hm, rfl⟩
  · rw [zUp_ne c, zUp_ne c, gup_ne (by omega) (by omega) (fun z => c z.symm), gup_ne (by omega) (by omega) (fun z => c z.symm), gup_ne (by omega) (by omega) (fun z => c z.symm)]
    exact h.2 j (by omega)
