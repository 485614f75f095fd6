/-! plain facts: sums over the persons, sets by their bits -/
def sumN (g : Nat → Nat) : Nat → Nat
  | 0 => 0
  | d + 1 => sumN g d + g d
theorem sumN_ext {f g : Nat → Nat} : ∀ n, (∀ p, p < n → f p = g p) → sumN f n = sumN g n
  | 0, _ => rfl
  | n + 1, h => by rw [sumN, sumN, sumN_ext n (fun p hp => h p (by omega)), h n (by omega)]
theorem sumN_add {f g : Nat → Nat} : ∀ n, sumN (fun p => f p + g p) n = sumN f n + sumN g n
  | 0 => rfl
  | n + 1 => by
    rw [sumN, sumN, sumN, sumN_add n]
    omega
theorem sumN_le {f : Nat → Nat} {c : Nat} : ∀ n, (∀ p, p < n → f p ≤ c) → sumN f n ≤ c * n
  | 0, _ => by rw [sumN]; omega
  | n + 1, h => by
    have h1 := sumN_le n (fun p hp => h p (by omega))
    have h2 := h n (by omega)
    rw [sumN, Nat.mul_succ]
    omega
theorem sumN_zero {f : Nat → Nat} : ∀ n, (∀ p, p < n → f p = 0) → sumN f n = 0
  | 0, _ => rfl
  | n + 1, h => by rw [sumN, sumN_zero n (fun p hp => h p (by omega)), h n (by omega)]
theorem sumN_more {f : Nat → Nat} {m : Nat} : ∀ d, (∀ p, m ≤ p → p < m + d → f p = 0) → sumN f (m + d) = sumN f m
  | 0, _ => rfl
  | d + 1, h => by
    rw [show m + (d + 1) = (m + d) + 1 from rfl, sumN, sumN_more d (fun p h1 h2 => h p h1 (by omega)), h (m + d) (by omega) (by omega), Nat.add_zero]
theorem gLp_sum {f : Nat → Int32 → Int32} {g : Nat → Nat} {n : Nat} (h : ∀ p a, p < n → f p (nI a) = nI (a + g p)) (a0 : Nat) : gLp f n 0 (nI a0) = nI (a0 + sumN g n) := by
  refine gLp_inv (n := n) (fun k a => a = nI (a0 + sumN g k)) ?_ n 0 (nI a0) (by omega) rfl
  rintro i a hi rfl
  rw [h i _ hi, Nat.add_assoc]
  rfl
theorem gLp_and {f : Nat → Bool → Bool} {c : Nat → Bool} {n : Nat} (h : ∀ p u, p < n → f p u = (u && c p)) (u0 : Bool) : gLp f n 0 u0 = true ↔ u0 = true ∧ ∀ p, p < n → c p = true := by
  refine gLp_inv (n := n) (fun k a => a = true ↔ u0 = true ∧ ∀ p, p < k → c p = true) ?_ n 0 u0 (by omega) ⟨fun z => ⟨z, fun p hp => absurd hp (Nat.not_lt_zero p)⟩, fun z => z.1⟩
  intro i a hi ha
  rw [h i a hi, Bool.and_eq_true, ha]
  constructor
  · rintro ⟨⟨h1, h2⟩, h3⟩
    refine ⟨h1, fun p hp => ?_⟩
    by_cases e : p = i
    · rw [e]; exact h3
    · exact h2 p (by omega)
  · rintro ⟨h1, h2⟩
    exact ⟨⟨h1, fun p hp => h2 p (by omega)⟩, h2 i (by omega)⟩
theorem gLp_ext {α : Type} {f g : Nat → α → α} : ∀ (d i : Nat) (a : α), (∀ j a, i ≤ j → j < i + d → f j a = g j a) → gLp f d i a = gLp g d i a
  | 0, _, _, _ => rfl
  | d + 1, i, a, h => by
    rw [gLp, gLp, h i a (by omega) (by omega)]
    exact gLp_ext d (i + 1) _ (fun j a h1 h2 => h j a (by omega) (by omega))
/-- turns that do nothing -/
theorem gLp_id {α : Type} {f : Nat → α → α} : ∀ (d i : Nat) (a : α), (∀ j a, i ≤ j → j < i + d → f j a = a) → gLp f d i a = a
  | 0, _, _, _ => rfl
  | d + 1, i, a, h => by
    rw [gLp, h i a (by omega) (by omega)]
    exact gLp_id d (i + 1) a (fun j a h1 h2 => h j a (by omega) (by omega))
theorem gLp_more {α : Type} {f : Nat → α → α} {m d i : Nat} {a : α} (h : ∀ j a, i + m ≤ j → j < i + m + d → f j a = a) : gLp f (m + d) i a = gLp f m i a := by
  rw [gLp_add]
  exact gLp_id d (i + m) _ (fun j a h1 h2 => h j a h1 (by omega))
/-- two loops side by side -/
theorem gLp_rel {α β : Type} {f : Nat → α → α} {g : Nat → β → β} (R : α → β → Prop) : ∀ (d i : Nat) (a : α) (b : β), (∀ j a b, i ≤ j → j < i + d → R a b → R (f j a) (g j b)) → R a b → R (gLp f d i a) (gLp g d i b)
  | 0, _, _, _, _, h => h
  | d + 1, i, a, b, h, h0 => gLp_rel R d (i + 1) _ _ (fun j a b h1 h2 h3 => h j a b (by omega) (by omega) h3) (h i a b (by omega) (by omega) h0)
theorem tb_eq {a b n : Nat} (ha : a < 2 ^ n) (hb : b < 2 ^ n) (h : ∀ p, p < n → a.testBit p = b.testBit p) : a = b := by
  apply Nat.eq_of_testBit_eq
  intro p
  by_cases hp : p < n
  · exact h p hp
  · have h1 : 2 ^ n ≤ 2 ^ p := Nat.pow_le_pow_right (by decide) (by omega)
    rw [Nat.testBit_lt_two_pow (by omega), Nat.testBit_lt_two_pow (by omega)]
theorem tb_hi {a n p : Nat} (ha : a < 2 ^ n) (hp : n ≤ p) : a.testBit p = false := by
  have h1 : 2 ^ n ≤ 2 ^ p := Nat.pow_le_pow_right (by decide) hp
  exact Nat.testBit_lt_two_pow (by omega)
theorem tb_all {n p : Nat} : (2 ^ n - 1).testBit p = decide (p < n) := by
  rw [Nat.testBit_two_pow_sub_one]
/-- a part of a set -/
theorem within_iff {a v : Nat} (ha : a < 2 ^ 31) : rX9_within (nI a) (nI v) = true ↔ ∀ p, a.testBit p = true → v.testBit p = true := by
  unfold rX9_within
  rw [z_andN]
  have hl : andN a v < 2 ^ 31 := Nat.lt_of_le_of_lt andN_le ha
  have e : (nI (andN a v) = 0) ↔ andN a v = 0 := nI_eq (b := 0) hl (by decide)
  constructor
  · intro h p hp
    split at h
    · rename_i q
      have z := e.mp q
      have t := andN_tb (a := a) (b := v) (i := p)
      rw [z, Nat.zero_testBit, hp] at t
      cases hv : v.testBit p
      · rw [hv] at t; exact absurd t (by decide)
      · rfl
    · cases h
  · intro h
    have z : andN a v = 0 := by
      apply Nat.eq_of_testBit_eq
      intro p
      rw [andN_tb, Nat.zero_testBit]
      cases ha2 : a.testBit p
      · rfl
      · rw [h p ha2]; rfl
    rw [if_pos (e.mpr z)]
theorem sub_le {a v : Nat} (h : ∀ p, a.testBit p = true → v.testBit p = true) : a ≤ v := Nat.le_of_testBit h
/-- differences of small numbers -/
theorem nI_dif {a b : Nat} (ha : a < 2 ^ 30) (hb : b < 2 ^ 30) : (nI a - nI b < 0 ↔ a < b) := by
  rw [Int32.lt_iff_toInt_lt, pk_sub_toInt ha hb]
  show ((a : Int) - b < (0 : Int)) ↔ _
  omega
theorem nI_dif0 {a b : Nat} (ha : a < 2 ^ 30) (hb : b < 2 ^ 30) : (0 ≤ nI a - nI b ↔ b ≤ a) := by
  rw [Int32.le_iff_toInt_le, pk_sub_toInt ha hb]
  show ((0 : Int) ≤ (a : Int) - b) ↔ _
  omega
theorem nI_ne4 {a : Nat} (ha : a < 2 ^ 31) : ¬ nI a = -4 := by
  intro h
  have h1 := nI_pos' ha
  rw [h] at h1
  exact absurd h1 (by decide)
theorem dec_iff {a b : Prop} [Decidable a] [Decidable b] (h : a ↔ b) : decide a = decide b := by
  by_cases hb : b
  · rw [decide_eq_true hb, decide_eq_true (h.mpr hb)]
  · rw [decide_eq_false hb, decide_eq_false (fun z => hb (h.mp z))]
theorem nI_le1L {a : Nat} (ha : a < 2 ^ 31) : nI a ≤ 1 ↔ a ≤ 1 := nI_leI (b := 1) ha (by decide)
theorem nI_lt2L {a : Nat} (ha : a < 2 ^ 31) : nI a < 2 ↔ a < 2 := nI_ltI (b := 2) ha (by decide)
