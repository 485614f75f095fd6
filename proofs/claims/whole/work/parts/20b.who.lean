/-! a roll, a state: in plain numbers; what the reference and the class say of them -/
/-- bounds: persons, kinds, ages, comings, parties, years wanted, borne, coins, places, trips, the minute -/
def Bd (sz : Nat) (K A C G : Nat → Nat) (W B R : Nat) (Z T : Nat → Nat) (mi : Nat) : Prop :=
  1 ≤ sz ∧ sz ≤ 9 ∧ 10 ≤ W ∧ W ≤ 990 ∧ B ≤ 99 ∧ R ≤ 9 ∧ mi ≤ 40000 ∧ ∀ p, p < sz → K p ≤ 3 ∧ A p ≤ 99 ∧ C p ≤ 99 ∧ G p ≤ 5 ∧ T p ≤ 1000 ∧ (Z p = 0 ∨ Z p = 2 ∨ Z p = 3 ∨ Z p = 4) ∧ (Z p = 2 → C p ≤ mi)
/-- the reference's roll -/
def Rr (sz : Nat) (K A C G : Nat → Nat) (W B R : Nat) (told : Int32 → Int32) : Prop :=
  told 0 = nI sz ∧ told 1 = nI W ∧ told 2 = nI B ∧ told 3 = nI R ∧ ∀ p, p < sz → told (nI (4 + p)) = nI (K p) ∧ told (nI (13 + p)) = nI (A p) ∧ told (nI (22 + p)) = nI (C p) ∧ told (nI (31 + p)) = nI (G p)
/-- the reference's state -/
def Rs (sz : Nat) (Z T : Nat → Nat) (mi : Nat) (s : Int32 → Int32) : Prop := s 18 = nI mi ∧ ∀ p, p < sz → s (nI p) = nI (Z p) ∧ s (nI (9 + p)) = nI (T p)
/-- the class's roll -/
def Cr (sz : Nat) (K A C G : Nat → Nat) (W B R : Nat) (ki ag co pa me : Int32 → Int32) (sd : Nat) (wa be pr : Int32) : Prop :=
  wa = nI W ∧ be = nI B ∧ pr = nI R ∧ sd < 2 ^ sz ∧ (∀ p, p < sz → ki (nI p) = nI (K p) ∧ ag (nI p) = nI (A p) ∧ co (nI p) = nI (C p) ∧ pa (nI p) = nI (G p) ∧ sd.testBit p = decide (K p = 3)) ∧
  ∀ g, 1 ≤ g → g ≤ 5 → ∃ mg, mg < 2 ^ sz ∧ me (nI g) = nI mg ∧ ∀ p, p < sz → mg.testBit p = decide (G p = g)
/-- the class's state -/
def Cst (sz : Nat) (Z T : Nat → Nat) (nt : Int32 → Int32) (bo cr de : Nat) : Prop :=
  bo < 2 ^ sz ∧ cr < 2 ^ sz ∧ de < 2 ^ sz ∧ ∀ p, p < sz → nt (nI p) = nI (T p) ∧ bo.testBit p = decide (Z p = 2) ∧ cr.testBit p = decide (Z p = 3) ∧ de.testBit p = decide (Z p = 4)
/-- where a person is -/
def whN (C Z : Nat → Nat) (mi p : Nat) : Nat := if Z p = 0 then (if mi < C p then 0 else 1) else Z p
theorem sumN_s {g : Nat → Nat} {d : Nat} : sumN g (d + 1) = sumN g d + g d := rfl
section Who
variable {sz : Nat} {K A C G : Nat → Nat} {W B R : Nat} {Z T : Nat → Nat} {mi : Nat} {told s : Int32 → Int32} {ki ag co pa me nt : Int32 → Int32} {sd bo cr de : Nat} {wa be pr : Int32}
theorem wh_le (hB : Bd sz K A C G W B R Z T mi) {p : Nat} (hp : p < sz) : whN C Z mi p ≤ 4 := by
  obtain ⟨h1, h2, h3, h4, h5, h6, h7, h8⟩ := hB
  obtain ⟨k1, k2, k3, k4, k5, k6, k7⟩ := h8 p hp
  unfold whN
  split
  · split <;> omega
  · omega
theorem where_eq (hB : Bd sz K A C G W B R Z T mi) (hR : Rr sz K A C G W B R told) (hS : Rs sz Z T mi s) {p : Nat} (hp : p < sz) : rX10_where told s p = nI (whN C Z mi p) := by
  obtain ⟨h1, h2, h3, h4, h5, h6, h7, h8⟩ := hB
  obtain ⟨k1, k2, k3, k4, k5, k6, k7⟩ := h8 p hp
  obtain ⟨e4, e13, e22, e31⟩ := hR.2.2.2.2 p hp
  obtain ⟨s0, s9⟩ := hS.2 p hp
  unfold rX10_where whN
  rw [s0, hS.1, e22]
  by_cases hz : Z p = 0
  · rw [if_pos hz, hz, if_pos (by decide)]
    by_cases hc : mi < C p
    · rw [if_pos hc, if_pos ((nI_ltI (by omega) (by omega)).mpr hc)]
      rfl
    · rw [if_neg hc, if_neg (fun q => hc ((nI_ltI (by omega) (by omega)).mp q))]
      rfl
  · rw [if_neg hz, if_neg (nI_nle (by omega) (by omega))]
theorem tAt_tb (hB : Bd sz K A C G W B R Z T mi) (hR : Rr sz K A C G W B R told) (hS : Rs sz Z T mi s) {k : Nat} (hk : k ≤ 4) {p : Nat} (hp : p < sz) : (tAt told s (nI k) sz).testBit p = decide (whN C Z mi p = k) := by
  have h1 := (tAt_ok told s (nI k) hB.2.1).2.2 p hp
  have h2 := wh_le hB hp
  rw [where_eq hB hR hS hp, nI_eq (by omega) (by omega)] at h1
  cases hb : (tAt told s (nI k) sz).testBit p
  · rw [hb] at h1
    exact (decide_eq_false (fun q => absurd (h1.mpr q) (by decide))).symm
  · exact (decide_eq_true (h1.mp hb)).symm
theorem wh_cases (hB : Bd sz K A C G W B R Z T mi) {p : Nat} (hp : p < sz) : (whN C Z mi p = 2 ↔ Z p = 2) ∧ (whN C Z mi p = 3 ↔ Z p = 3) ∧ (whN C Z mi p = 4 ↔ Z p = 4) ∧ (whN C Z mi p = 1 ↔ Z p = 0 ∧ C p ≤ mi) := by
  obtain ⟨h1, h2, h3, h4, h5, h6, h7, h8⟩ := hB
  obtain ⟨k1, k2, k3, k4, k5, k6, k7⟩ := h8 p hp
  unfold whN
  split
  · split <;> omega
  · omega
theorem at_bo (hB : Bd sz K A C G W B R Z T mi) (hR : Rr sz K A C G W B R told) (hS : Rs sz Z T mi s) (hC : Cst sz Z T nt bo cr de) : tAt told s 2 sz = bo := by
  refine tb_eq (tAt_ok told s 2 hB.2.1).1 hC.1 (fun p hp => ?_)
  rw [show (2 : Int32) = nI 2 from rfl, tAt_tb hB hR hS (by omega) hp, (hC.2.2.2 p hp).2.1]
  exact dec_iff (wh_cases hB hp).1
theorem at_cr (hB : Bd sz K A C G W B R Z T mi) (hR : Rr sz K A C G W B R told) (hS : Rs sz Z T mi s) (hC : Cst sz Z T nt bo cr de) : tAt told s 3 sz = cr := by
  refine tb_eq (tAt_ok told s 3 hB.2.1).1 hC.2.1 (fun p hp => ?_)
  rw [show (3 : Int32) = nI 3 from rfl, tAt_tb hB hR hS (by omega) hp, (hC.2.2.2 p hp).2.2.1]
  exact dec_iff (wh_cases hB hp).2.1
theorem at_de (hB : Bd sz K A C G W B R Z T mi) (hR : Rr sz K A C G W B R told) (hS : Rs sz Z T mi s) (hC : Cst sz Z T nt bo cr de) : tAt told s 4 sz = de := by
  refine tb_eq (tAt_ok told s 4 hB.2.1).1 hC.2.2.1 (fun p hp => ?_)
  rw [show (4 : Int32) = nI 4 from rfl, tAt_tb hB hR hS (by omega) hp, (hC.2.2.2 p hp).2.2.2]
  exact dec_iff (wh_cases hB hp).2.2.1
theorem all_bo (hB : Bd sz K A C G W B R Z T mi) (hR : Rr sz K A C G W B R told) (hS : Rs sz Z T mi s) (hC : Cst sz Z T nt bo cr de) : rX10_allAt told s 2 sz = nI bo := by rw [(tAt_ok told s 2 hB.2.1).2.1, at_bo hB hR hS hC]
theorem all_cr (hB : Bd sz K A C G W B R Z T mi) (hR : Rr sz K A C G W B R told) (hS : Rs sz Z T mi s) (hC : Cst sz Z T nt bo cr de) : rX10_allAt told s 3 sz = nI cr := by rw [(tAt_ok told s 3 hB.2.1).2.1, at_cr hB hR hS hC]
theorem all_de (hB : Bd sz K A C G W B R Z T mi) (hR : Rr sz K A C G W B R told) (hS : Rs sz Z T mi s) (hC : Cst sz Z T nt bo cr de) : rX10_allAt told s 4 sz = nI de := by rw [(tAt_ok told s 4 hB.2.1).2.1, at_de hB hR hS hC]
/-- those who remain -/
theorem alive_eq (hB : Bd sz K A C G W B R Z T mi) (hR : Rr sz K A C G W B R told) (hS : Rs sz Z T mi s) (hC : Cst sz Z T nt bo cr de) : rX10_alive told s sz = nI (remN sz cr de) := by
  unfold rX10_alive remN
  rw [shl_sz hR.1 hB.2.1, all_cr hB hR hS hC, all_de hB hR hS hC, show nI (2 ^ sz) - 1 = nI (2 ^ sz - 1) from pk_sub (b := 1) Nat.one_le_two_pow, z_andN, z_andN]
theorem rem_tb (hC : Cst sz Z T nt bo cr de) {p : Nat} (hp : p < sz) : (remN sz cr de).testBit p = (!decide (Z p = 3) && !decide (Z p = 4)) := by
  obtain ⟨h1, h2, h3, h4⟩ := hC
  unfold remN
  rw [andN_tb, andN_tb, tb_all, (h4 p hp).2.2.1, (h4 p hp).2.2.2, decide_eq_true hp, Bool.true_and]
theorem rem_lt (hC : Cst sz Z T nt bo cr de) : remN sz cr de < 2 ^ sz := by
  have h1 : remN sz cr de ≤ 2 ^ sz - 1 := Nat.le_trans andN_le andN_le
  have h2 : 1 ≤ 2 ^ sz := Nat.one_le_two_pow
  omega
theorem come_lp (hB : Bd sz K A C G W B R Z T mi) (hCr : Cr sz K A C G W B R ki ag co pa me sd wa be pr) : ∀ p, p < sz → (gLp (fX6_present_4_29 co (nI mi)) sz 0 0).testBit p = decide (C p ≤ mi) := by
  obtain ⟨h1, h2, h3, h4, h5, h6, h7, h8⟩ := hB
  have key : gLp (fX6_present_4_29 co (nI mi)) sz 0 0 < 2 ^ sz ∧ ∀ p, p < sz → (gLp (fX6_present_4_29 co (nI mi)) sz 0 0).testBit p = decide (C p ≤ mi) := by
    refine gLp_inv (n := sz) (fun k a => a < 2 ^ k ∧ ∀ p, p < k → a.testBit p = decide (C p ≤ mi)) ?_ sz 0 0 (by omega) ⟨by decide, fun p hp => absurd hp (Nat.not_lt_zero p)⟩
    rintro i a hi ⟨g1, g2⟩
    obtain ⟨k1, k2, k3, k4, k5, k6, k7⟩ := h8 i hi
    have hp : 2 ^ i < 2 ^ (i + 1) := Nat.pow_lt_pow_right (by decide) (by omega)
    unfold fX6_present_4_29
    dsimp only
    rw [(hCr.2.2.2.2.1 i hi).2.2.1]
    by_cases hc : mi < C i
    · rw [if_pos ((nI_ltI (by omega) (by omega)).mpr hc)]
      refine ⟨by omega, fun p hp2 => ?_⟩
      by_cases e : p = i
      · rw [e, Nat.testBit_lt_two_pow g1]
        exact (decide_eq_false (by omega)).symm
      · exact g2 p (by omega)
    · rw [if_neg (fun q => hc ((nI_ltI (by omega) (by omega)).mp q))]
      refine ⟨Nat.or_lt_two_pow (by omega) hp, fun p hp2 => ?_⟩
      rw [Nat.testBit_or, Nat.testBit_two_pow]
      by_cases e : p = i
      · subst e
        rw [decide_eq_true rfl, Bool.or_true]
        exact (decide_eq_true (by omega)).symm
      · rw [g2 p (by omega), show decide (i = p) = false from decide_eq_false (fun z => e z.symm), Bool.or_false]
  exact key.2
/-- those on the quay and aboard -/
theorem pres_tb (hB : Bd sz K A C G W B R Z T mi) (hCr : Cr sz K A C G W B R ki ag co pa me sd wa be pr) (hC : Cst sz Z T nt bo cr de) {p : Nat} (hp : p < sz) : (presN co (nI mi) sz cr de).testBit p = (decide (C p ≤ mi) && (!decide (Z p = 3) && !decide (Z p = 4))) := by
  unfold presN
  rw [Nat.testBit_and, come_lp hB hCr p hp, rem_tb hC hp]
theorem pres_lt (hC : Cst sz Z T nt bo cr de) : presN co (nI mi) sz cr de < 2 ^ sz := Nat.lt_of_le_of_lt Nat.and_le_right (rem_lt hC)
theorem pres_eq (hB : Bd sz K A C G W B R Z T mi) (hR : Rr sz K A C G W B R told) (hS : Rs sz Z T mi s) (hCr : Cr sz K A C G W B R ki ag co pa me sd wa be pr) (hC : Cst sz Z T nt bo cr de) : tP told s sz = presN co (nI mi) sz cr de := by
  refine tb_eq (tP_lt told s hB.2.1) (pres_lt hC) (fun p hp => ?_)
  obtain ⟨w2, w3, w4, w1⟩ := wh_cases hB hp
  rw [pres_tb hB hCr hC hp]
  unfold tP
  rw [Nat.testBit_or, show (1 : Int32) = nI 1 from rfl, show (2 : Int32) = nI 2 from rfl, tAt_tb hB hR hS (by omega) hp, tAt_tb hB hR hS (by omega) hp, dec_iff w1, dec_iff w2]
  obtain ⟨h1, h2, h3, h4, h5, h6, h7, h8⟩ := hB
  obtain ⟨k1, k2, k3, k4, k5, k6, k7⟩ := h8 p hp
  by_cases hc : C p ≤ mi
  · rcases k6 with q | q | q | q <;> simp [q, hc]
  · rcases k6 with q | q | q | q
    · simp [q, hc]
    · exact absurd (k7 q) hc
    · simp [q, hc]
    · simp [q, hc]
/-- those present remain -/
theorem pres_rem {p : Nat} (h : (presN co (nI mi) sz cr de).testBit p = true) : (remN sz cr de).testBit p = true := by
  unfold presN at h
  rw [Nat.testBit_and, Bool.and_eq_true] at h
  exact h.2
end Who
