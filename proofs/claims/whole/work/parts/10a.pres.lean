/-! who is there: sets as Nat -/
theorem gLp_add {α : Type} (f : Nat → α → α) : ∀ (d e i : Nat) (a : α), gLp f (d + e) i a = gLp f e (i + d) (gLp f d i a)
  | 0, e, i, a => by simp [gLp]
  | d + 1, e, i, a => by
    have h := gLp_add f d e (i + 1) (f i a)
    rw [show d + 1 + e = (d + e) + 1 by omega]
    show gLp f (d + e) (i + 1) (f i a) = gLp f e (i + (d + 1)) (gLp f d (i + 1) (f i a))
    rw [h, show i + 1 + d = i + (d + 1) by omega]
theorem gLp_succ {α : Type} (f : Nat → α → α) (d i : Nat) (a : α) : gLp f (d + 1) i a = f (i + d) (gLp f d i a) := gLp_add f d 1 i a
/-- an invariant of a loop -/
theorem gLp_inv {α : Type} {f : Nat → α → α} (I : Nat → α → Prop) {n : Nat} (hs : ∀ i a, i < n → I i a → I (i + 1) (f i a)) : ∀ (d i : Nat) (a : α), i + d = n → I i a → I n (gLp f d i a)
  | 0, i, a, h, h0 => by
    have : i = n := by omega
    rw [← this]
    exact h0
  | d + 1, i, a, h, h0 => gLp_inv I hs d (i + 1) (f i a) (by omega) (hs i a (by omega) h0)
theorem allAt_inv (told s : Int32 → Int32) (pl : Int32) {sz : Nat} (hs : sz ≤ 9) : ∃ m, m < 2 ^ sz ∧ rX10_allAt told s pl sz = nI m ∧ ∀ i, i < sz → (m.testBit i = true ↔ rX10_where told s i = pl) := by
  unfold rX10_allAt
  refine gLp_inv (n := sz) (fun k a => ∃ m, m < 2 ^ k ∧ a = nI m ∧ ∀ i, i < k → (m.testBit i = true ↔ rX10_where told s i = pl)) ?_ sz 0 0 (by omega) ⟨0, by decide, rfl, fun i hi => absurd hi (Nat.not_lt_zero i)⟩
  rintro i a hi ⟨m, h1, rfl, h2⟩
  have hp : 2 ^ i < 2 ^ (i + 1) := Nat.pow_lt_pow_right (by decide) (by omega)
  by_cases hw : rX10_where told s i = pl
  · refine ⟨m ||| 2 ^ i, Nat.or_lt_two_pow (by omega) hp, ?_, fun j hj => ?_⟩
    · rw [fX10_allAt_4, if_pos hw, z_1shl (by omega), z_or]
    · rw [Nat.testBit_or, Nat.testBit_two_pow]
      by_cases hji : i = j
      · subst hji
        simp [hw]
      · have h3 := h2 j (by omega)
        simp [hji, h3]
  · refine ⟨m, by omega, ?_, fun j hj => ?_⟩
    · rw [fX10_allAt_4, if_neg hw]
      exact (z_or m 0).trans (by rw [Nat.or_zero])
    · by_cases hji : i = j
      · subst hji
        rw [Nat.testBit_lt_two_pow h1]
        simp [hw]
      · exact h2 j (by omega)
/-- the set of those at a place -/
def tAt (told s : Int32 → Int32) (pl : Int32) (sz : Nat) : Nat := (rX10_allAt told s pl sz).toNatClampNeg
theorem tAt_ok (told s : Int32 → Int32) (pl : Int32) {sz : Nat} (hs : sz ≤ 9) : tAt told s pl sz < 2 ^ sz ∧ rX10_allAt told s pl sz = nI (tAt told s pl sz) ∧ ∀ i, i < sz → ((tAt told s pl sz).testBit i = true ↔ rX10_where told s i = pl) := by
  obtain ⟨m, h1, h2, h3⟩ := allAt_inv told s pl hs
  have h4 : 2 ^ sz ≤ 2 ^ 9 := Nat.pow_le_pow_right (by decide) hs
  have e : tAt told s pl sz = m := by unfold tAt; rw [h2, nI_clamp (by omega)]
  rw [e]
  exact ⟨h1, h2, h3⟩
/-- those on the quay and aboard -/
def tP (told s : Int32 → Int32) (sz : Nat) : Nat := tAt told s 1 sz ||| tAt told s 2 sz
theorem tP_eq (told s : Int32 → Int32) {sz : Nat} (hs : sz ≤ 9) : rX10_present told s sz = nI (tP told s sz) := by
  unfold rX10_present tP
  rw [(tAt_ok told s 1 hs).2.1, (tAt_ok told s 2 hs).2.1, z_or]
theorem tP_lt (told s : Int32 → Int32) {sz : Nat} (hs : sz ≤ 9) : tP told s sz < 2 ^ sz := Nat.or_lt_two_pow (tAt_ok told s 1 hs).1 (tAt_ok told s 2 hs).1
theorem pw9 {sz : Nat} (hs : sz ≤ 9) : 2 ^ sz ≤ 512 := Nat.pow_le_pow_right (n := 2) (by decide) hs
theorem tP_512 (told s : Int32 → Int32) {sz : Nat} (hs : sz ≤ 9) : tP told s sz < 512 := Nat.lt_of_lt_of_le (tP_lt told s hs) (pw9 hs)
theorem shl_sz {told : Int32 → Int32} {sz : Nat} (hsz : told 0 = nI sz) (hs : sz ≤ 9) : (1 : Int32) <<< ((told 0) &&& 31) = nI (2 ^ sz) := by rw [hsz, z_1shl (by omega)]
