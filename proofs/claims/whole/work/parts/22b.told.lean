/-! what was told -/
/-- the ages of a set together; the same, were that of one another -/
def agS (sz : Nat) (A : Nat → Nat) (b : Nat) : Nat := sumN (fun q => if b.testBit q = true then A q else 0) sz
def agW (sz : Nat) (A : Nat → Nat) (b p y : Nat) : Nat := sumN (fun q => if b.testBit q = true then (if q = p then y else A q) else 0) sz
/-- both tables of what was told -/
def TN (sz : Nat) (A : Nat → Nat) (hd : Nat) (notes os og : Int32 → Int32) (osn smn : Nat → Nat) : Prop :=
  ∀ j, j < hd → notes (nI j) = nI (1000 * osn j + smn j) ∧ os (nI j) = nI (osn j) ∧ osn j < 2 ^ sz ∧ smn j ≤ 999 ∧ og (nI j) = nI (smn j) - nI (agS sz A (osn j))
theorem dif_eq {a b c d : Nat} (ha : a < 2 ^ 29) (hb : b < 2 ^ 29) (hc : c < 2 ^ 29) (hd : d < 2 ^ 29) : nI a - nI b = nI c - nI d ↔ a + d = c + b := by
  constructor
  · intro z
    have q := congrArg Int32.toInt z
    rw [pk_sub_toInt (by omega) (by omega), pk_sub_toInt (by omega) (by omega)] at q
    omega
  · intro z
    apply Int32.toInt_inj.mp
    rw [pk_sub_toInt (by omega) (by omega), pk_sub_toInt (by omega) (by omega)]
    omega
theorem dif_0 {a b : Nat} (ha : a < 2 ^ 29) (hb : b < 2 ^ 29) : nI a - nI b = 0 ↔ a = b := by
  have q := dif_eq (c := 0) (d := 0) ha hb (by decide) (by decide)
  have e : nI 0 - nI 0 = 0 := by decide
  rw [e] at q
  rw [q]
  omega
/-- with one at p of n changed -/
theorem agW_at {A : Nat → Nat} {b p y : Nat} (hb : b.testBit p = true) : ∀ n, p < n → agW n A b p y + A p = agS n A b + y
  | 0, h => absurd h (Nat.not_lt_zero p)
  | n + 1, h => by
    have e1 : agW (n + 1) A b p y = agW n A b p y + (if b.testBit n = true then (if n = p then y else A n) else 0) := rfl
    have e2 : agS (n + 1) A b = agS n A b + (if b.testBit n = true then A n else 0) := rfl
    by_cases e : n = p
    · subst e
      have e3 : agW n A b n y = agS n A b := sumN_ext n (fun q hq => by
        split
        · rw [if_neg (by omega)]
        · rfl)
      rw [e1, e2, e3, if_pos hb, if_pos hb, if_pos rfl]
      omega
    · have ih := agW_at (A := A) (y := y) hb n (by omega)
      rw [e1, e2, if_neg e]
      omega
theorem agW_no {A : Nat → Nat} {b p y n : Nat} (hb : ¬ b.testBit p = true) : agW n A b p y = agS n A b := by
  refine sumN_ext n (fun q hq => ?_)
  split
  · rename_i z
    rw [if_neg (fun e => hb (by rw [← e]; exact z))]
  · rfl
section Told
variable {sz : Nat} {K A C G : Nat → Nat} {W B R : Nat} {Z T : Nat → Nat} {mi : Nat} {told s : Int32 → Int32} {ki ag co pa me nt : Int32 → Int32} {sd bo cr de : Nat} {wa be pr : Int32} {hd : Nat} {notes os og : Int32 → Int32} {osn smn : Nat → Nat}
theorem agS_le (hB : Bd sz K A C G W B R Z T mi) (b : Nat) : agS sz A b ≤ 891 := by
  have h1 : agS sz A b ≤ 99 * sz := sumN_le sz (fun p hp => by
    have := (hB.2.2.2.2.2.2.2 p hp).2.1
    split <;> omega)
  have := hB.2.1
  omega
theorem agW_le (hB : Bd sz K A C G W B R Z T mi) {b p y : Nat} (hy : y ≤ 99) : agW sz A b p y ≤ 891 := by
  have h1 : agW sz A b p y ≤ 99 * sz := sumN_le sz (fun q hq => by
    have := (hB.2.2.2.2.2.2.2 q hq).2.1
    split
    · split <;> omega
    · omega)
  have := hB.2.1
  omega
theorem so_sum (hB : Bd sz K A C G W B R Z T mi) (hR : Rr sz K A C G W B R told) (hN : TN sz A hd notes os og osn smn) {j p y : Nat} (hj : j < hd) (hp : p < 2 ^ 31) : gLp (fX10_isSo_20 told notes (nI p) (nI y) j) sz 0 0 = nI (agW sz A (osn j) p y) := by
  obtain ⟨n1, n2, n3, n4, n5⟩ := hN j hj
  have hs := hB.2.1
  have hp9 := pw9 hs
  have key := gLp_sum (f := fX10_isSo_20 told notes (nI p) (nI y) j) (g := fun q => if (osn j).testBit q = true then (if q = p then y else A q) else 0) (n := sz) (fun q a hq => by
    have eA := (hR.2.2.2.2 q hq).2.1
    have ed : nI (1000 * osn j + smn j) / 1000 = nI (osn j) := by
      rw [show (1000 : Int32) = nI 1000 from rfl, pk_div (by omega) (by decide) (by decide)]
      congr 1
      omega
    unfold fX10_isSo_20
    dsimp only
    rw [n1, ed, eA]
    by_cases b : (osn j).testBit q = true
    · rw [if_neg (fun z => by have t : (osn j).testBit q = false := Eq.mp (z_bit0 (by omega) (by omega)) z; rw [b] at t; cases t), if_pos b]
      by_cases e : q = p
      · rw [if_pos (by rw [e]), if_pos e, nI_add]
      · rw [if_neg (fun z => e ((nI_eq (by omega) hp).mp z)), if_neg e, nI_add]
    · have b2 : (osn j).testBit q = false := by cases t : (osn j).testBit q <;> simp_all
      rw [if_pos (Eq.mpr (z_bit0 (by omega) (by omega)) b2), if_neg b]
      exact nI_add a 0) 0
  rw [Nat.zero_add] at key
  exact key
/-- all is so, were the age of this one y -/
theorem so_ref (hB : Bd sz K A C G W B R Z T mi) (hR : Rr sz K A C G W B R told) (hN : TN sz A hd notes os og osn smn) {p y : Nat} (hp : p < 2 ^ 31) (hy : y ≤ 99) : rX10_isSo told notes (nI p) (nI y) sz hd = true ↔ ∀ j, j < hd → agW sz A (osn j) p y = smn j := by
  unfold rX10_isSo
  have hs := hB.2.1
  have hp9 := pw9 hs
  have key := gLp_and (f := fX10_isSo_5 told notes (nI p) (nI y) sz) (c := fun j => decide (agW sz A (osn j) p y = smn j)) (n := hd) (fun j u hj => by
    obtain ⟨n1, n2, n3, n4, n5⟩ := hN j hj
    have hw := agW_le hB (b := osn j) (p := p) hy
    have er : nI (1000 * osn j + smn j) - nI (1000 * osn j + smn j) / 1000 * 1000 = nI (smn j) := by
      rw [show (1000 : Int32) = nI 1000 from rfl, pk_rem (by omega) (by decide) (by decide)]
      congr 1
      omega
    unfold fX10_isSo_5
    dsimp only
    rw [so_sum hB hR hN hj hp, n1, er]
    cases u with
    | false => rw [if_neg (by decide), Bool.false_and]
    | true =>
      rw [if_pos rfl, Bool.true_and]
      by_cases e : agW sz A (osn j) p y = smn j
      · rw [if_pos (by rw [e]), decide_eq_true e]
      · rw [if_neg (fun z => e ((nI_eq (by omega) (by omega)).mp z)), decide_eq_false e]) true
  rw [key]
  constructor
  · rintro ⟨_, z⟩ j hj
    exact of_decide_eq_true (z j hj)
  · intro z
    exact ⟨rfl, fun j hj => decide_eq_true (z j hj)⟩
theorem soIf_iff {p : Nat} {ol : Int32} : rX8_isSoIf og p ol hd osn = true ↔ ∀ j, j < hd → ((osn j).testBit p = true → og (nI j) = ol) ∧ (¬ (osn j).testBit p = true → og (nI j) = 0) := by
  have k := gWh_ex (f := fX8_isSoIf_2 og p ol osn) (bad := fun j => ¬ (((osn j).testBit p = true → og (nI j) = ol) ∧ (¬ (osn j).testBit p = true → og (nI j) = 0))) (i0 := 0) (n := hd) (fun j b _ _ z => by
    unfold fX8_isSoIf_2
    dsimp only
    by_cases z1 : (osn j).testBit p = true
    · rw [if_pos z1, if_neg (fun z2 => z ⟨fun _ => z2, fun z3 => absurd z1 z3⟩)]
    · rw [if_neg z1, if_neg (fun z2 => z ⟨fun z3 => absurd z3 z1, fun _ => z2⟩)]) (fun j b _ _ z => by
    have zz := Classical.not_not.mp z
    unfold fX8_isSoIf_2
    dsimp only
    by_cases z1 : (osn j).testBit p = true
    · rw [if_pos z1, if_pos (zz.1 z1)]
    · rw [if_neg z1, if_pos (zz.2 z1)]) hd 0 (Nat.le_refl _) (Nat.zero_add _)
  unfold rX8_isSoIf
  by_cases q : gWh (fX8_isSoIf_2 og p ol osn) hd 0 false = true
  · rw [if_pos q]
    obtain ⟨j, _, j2, j3⟩ := k.mp q
    exact ⟨fun z => (by cases z), fun z => absurd (z j j2) j3⟩
  · rw [if_neg q]
    refine ⟨fun _ j hj => Classical.not_not.mp (fun z => q (k.mpr ⟨j, Nat.zero_le _, hj, z⟩)), fun _ => rfl⟩
theorem so_eq (hB : Bd sz K A C G W B R Z T mi) (hR : Rr sz K A C G W B R told) (hN : TN sz A hd notes os og osn smn) {p y : Nat} (hp : p < sz) (hy : y ≤ 99) : rX10_isSo told notes (nI p) (nI y) sz hd = rX8_isSoIf og p (nI y - nI (A p)) hd osn := by
  have hs := hB.2.1
  have hA := (hB.2.2.2.2.2.2.2 p hp).2.1
  apply Bool.eq_iff_iff.mpr
  rw [so_ref hB hR hN (by omega) hy, soIf_iff]
  constructor
  · intro z j hj
    obtain ⟨n1, n2, n3, n4, n5⟩ := hN j hj
    have hS := agS_le hB (osn j)
    have zj := z j hj
    rw [n5]
    refine ⟨fun b => ?_, fun b => ?_⟩
    · have := agW_at (A := A) (y := y) b sz hp
      rw [dif_eq (by omega) (by omega) (by omega) (by omega)]
      omega
    · have := agW_no (A := A) (y := y) (n := sz) b
      rw [dif_0 (by omega) (by omega)]
      omega
  · intro z j hj
    obtain ⟨n1, n2, n3, n4, n5⟩ := hN j hj
    have hS := agS_le hB (osn j)
    obtain ⟨z1, z2⟩ := z j hj
    rw [n5] at z1 z2
    by_cases b : (osn j).testBit p = true
    · have := agW_at (A := A) (y := y) b sz hp
      have := (dif_eq (by omega) (by omega) (by omega) (by omega)).mp (z1 b)
      omega
    · have := agW_no (A := A) (y := y) (n := sz) b
      have := (dif_0 (by omega) (by omega)).mp (z2 b)
      omega
theorem so_0 (hB : Bd sz K A C G W B R Z T mi) (hR : Rr sz K A C G W B R told) (hN : TN sz A hd notes os og osn smn) : rX10_isSo told notes 0 (told 13) sz hd = rX8_isSoIf og 0 0 hd osn := by
  have h1 := hB.1
  have hA := (hB.2.2.2.2.2.2.2 0 (by omega)).2.1
  have eA : told 13 = nI (A 0) := (hR.2.2.2.2 0 (by omega)).2.1
  have q := so_eq hB hR hN (p := 0) (y := A 0) (by omega) hA
  have e0 : nI (A 0) - nI (A 0) = 0 := (dif_0 (by omega) (by omega)).mpr rfl
  rw [e0] at q
  rw [eA]
  exact q
theorem eq_age (hB : Bd sz K A C G W B R Z T mi) (hR : Rr sz K A C G W B R told) (hCr : Cr sz K A C G W B R ki ag co pa me sd wa be pr) (hN : TN sz A hd notes os og osn smn) {p : Nat} (hp : p < sz) (what : Int32) (hv : rX10_isPerson told (nI p) = true) : rX10_age told notes (nI p) what sz hd = rX9_age ag og p what hd osn := by
  unfold rX10_age rX9_age
  rw [if_pos hv]
  have step : ∀ (u0 u1 v : Int32) (i : Nat), i < 100 → (what = 0 → v = u0) ∧ (what = 1 → v = u1) → (what = 0 → fX9_age_25 ag og p what hd osn i v = (fX10_age_29 told notes (nI p) sz hd i (u0, u1)).1) ∧ (what = 1 → fX9_age_25 ag og p what hd osn i v = (fX10_age_29 told notes (nI p) sz hd i (u0, u1)).2) := by
    rintro u0 u1 v i hi ⟨v0, v1⟩
    unfold fX9_age_25 fX10_age_29
    dsimp only
    rw [so_eq hB hR hN hp (by omega), (hCr.2.2.2.2.1 p hp).2.1]
    by_cases q : rX8_isSoIf og p (nI i - nI (A p)) hd osn = true
    · rw [if_pos q, if_pos q]
      refine ⟨fun z => ?_, fun z => ?_⟩
      · rw [if_neg (by rw [z]; decide), v0 z]
        by_cases q2 : u0 = -4
        · rw [if_pos q2, if_pos q2]
        · rw [if_neg q2, if_neg q2]
      · rw [if_pos z]
        by_cases q2 : u0 = -4
        · rw [if_pos q2]
        · rw [if_neg q2]
    · rw [if_neg q, if_neg q]
      exact ⟨v0, v1⟩
  have key := gLp_rel (f := fX10_age_29 told notes (nI p) sz hd) (g := fX9_age_25 ag og p what hd osn) (fun r v => (what = 0 → v = r.1) ∧ (what = 1 → v = r.2)) 100 0 (-4, -4) (-4) (fun i r v _ q2 q3 => step r.1 r.2 v i (by omega) q3) ⟨fun _ => rfl, fun _ => rfl⟩
  by_cases w1 : what < 0
  · rw [if_pos w1, if_neg (fun z => (in01.mp z).1 w1)]
  · rw [if_neg w1]
    by_cases w2 : what ≤ 1
    · rw [if_pos w2, if_pos (in01.mpr ⟨w1, fun z => absurd w2 (Int32.not_le.mpr z)⟩)]
      by_cases w3 : what = 0
      · rw [if_pos w3]
        exact (key.1 w3).symm
      · rw [if_neg w3]
        refine (key.2 ?_).symm
        obtain ⟨j, j1, rfl⟩ := nI_of w1
        have j2 : j ≤ 1 := (nI_leI (b := 1) j1 (by decide)).mp w2
        have j3 : j ≠ 0 := fun z => w3 (by rw [z]; rfl)
        rw [show j = 1 by omega]
        rfl
    · rw [if_neg w2, if_neg (fun z => w2 (i_nlt.mp (in01.mp z).2))]
theorem liar_in (hB : Bd sz K A C G W B R Z T mi) (hR : Rr sz K A C G W B R told) (hN : TN sz A hd notes os og osn smn) {p : Nat} (hp : p < sz) (m : Nat) : gLp (fX10_liar_37 told notes p sz hd) 100 0 (nI m) = if rX9_couldBeAnother ag og p hd osn = true ∧ ag (nI p) = nI (A p) then nI (m ||| 2 ^ p) else gLp (fX10_liar_37 told notes p sz hd) 100 0 (nI m) := by
  have hs := hB.2.1
  have hA := (hB.2.2.2.2.2.2.2 p hp).2.1
  have eA := (hR.2.2.2.2 p hp).2.1
  split
  · rename_i hh
    obtain ⟨h1, h2⟩ := hh
    have hk := gWh_ex (f := fX9_couldBeAnother_14 og p (nI (A p)) hd osn) (bad := fun i => ¬ nI i = nI (A p) ∧ rX8_isSoIf og p (nI i - nI (A p)) hd osn = true) (i0 := 0) (n := 100) (fun j b _ _ z => by
      unfold fX9_couldBeAnother_14
      dsimp only
      rw [if_neg z.1, if_pos z.2]) (fun j b _ _ z => by
      unfold fX9_couldBeAnother_14
      dsimp only
      by_cases z1 : nI j = nI (A p)
      · rw [if_pos z1]
      · rw [if_neg z1, if_neg (fun z2 => z ⟨z1, z2⟩)]) 100 0 (Nat.le_refl _) rfl
    unfold rX9_couldBeAnother at h1
    rw [h2] at h1
    have h3 : gWh (fX9_couldBeAnother_14 og p (nI (A p)) hd osn) 100 0 false = true := by
      split at h1
      · assumption
      · cases h1
    obtain ⟨i, _, i2, i3, i4⟩ := hk.mp h3
    have key := gLp_inv (n := 100) (f := fX10_liar_37 told notes p sz hd) (fun k a => (k ≤ i → a = nI m ∨ a = nI (m ||| 2 ^ p)) ∧ (i < k → a = nI (m ||| 2 ^ p))) (by
      rintro k a hk2 ⟨q1, q2⟩
      have o1 : nI m ||| nI (2 ^ p) = nI (m ||| 2 ^ p) := z_or m (2 ^ p)
      have o2 : nI (m ||| 2 ^ p) ||| nI (2 ^ p) = nI (m ||| 2 ^ p) := by rw [z_or, Nat.or_assoc, Nat.or_self]
      have o3 : ∀ x : Int32, x ||| 0 = x := fun x => Int32.or_zero
      have cs2 : (a = nI m ∨ a = nI (m ||| 2 ^ p)) := by
        rcases Nat.lt_or_ge i k with z | z
        · exact Or.inr (q2 z)
        · exact q1 z
      unfold fX10_liar_37
      dsimp only
      rw [eA, o3, z_1shl (by omega), so_eq hB hR hN hp (by omega)]
      by_cases z1 : nI k = nI (A p)
      · rw [if_pos z1]
        refine ⟨fun _ => cs2, fun z => ?_⟩
        by_cases z2 : k = i
        · rw [z2] at z1; exact absurd z1 i3
        · exact q2 (by omega)
      · rw [if_neg z1]
        by_cases z3 : rX8_isSoIf og p (nI k - nI (A p)) hd osn = true
        · rw [if_pos z3]
          have : a ||| nI (2 ^ p) = nI (m ||| 2 ^ p) := by
            rcases cs2 with z | z <;> rw [z]
            · exact o1
            · exact o2
          exact ⟨fun _ => Or.inr this, fun _ => this⟩
        · rw [if_neg z3]
          refine ⟨fun _ => cs2, fun z => ?_⟩
          by_cases z2 : k = i
          · rw [z2] at z3; exact absurd i4 z3
          · exact q2 (by omega)) 100 0 (nI m) (by omega) ⟨fun _ => Or.inl rfl, fun z => absurd z (Nat.not_lt_zero i)⟩
    exact key.2 i2
  · rfl
theorem liar_no (hB : Bd sz K A C G W B R Z T mi) (hR : Rr sz K A C G W B R told) (hN : TN sz A hd notes os og osn smn) {p : Nat} (hp : p < sz) (m : Nat) (h2 : ag (nI p) = nI (A p)) (h1 : ¬ rX9_couldBeAnother ag og p hd osn = true) : gLp (fX10_liar_37 told notes p sz hd) 100 0 (nI m) = nI m := by
  have hs := hB.2.1
  have eA := (hR.2.2.2.2 p hp).2.1
  have hk := gWh_ex (f := fX9_couldBeAnother_14 og p (nI (A p)) hd osn) (bad := fun i => ¬ nI i = nI (A p) ∧ rX8_isSoIf og p (nI i - nI (A p)) hd osn = true) (i0 := 0) (n := 100) (fun j b _ _ z => by
    unfold fX9_couldBeAnother_14
    dsimp only
    rw [if_neg z.1, if_pos z.2]) (fun j b _ _ z => by
    unfold fX9_couldBeAnother_14
    dsimp only
    by_cases z1 : nI j = nI (A p)
    · rw [if_pos z1]
    · rw [if_neg z1, if_neg (fun z2 => z ⟨z1, z2⟩)]) 100 0 (Nat.le_refl _) rfl
  unfold rX9_couldBeAnother at h1
  rw [h2] at h1
  have h3 : ¬ gWh (fX9_couldBeAnother_14 og p (nI (A p)) hd osn) 100 0 false = true := fun z => h1 (if_pos z)
  refine gLp_id 100 0 (nI m) (fun k a _ k2 => ?_)
  have o3 : ∀ x : Int32, x ||| 0 = x := fun x => Int32.or_zero
  unfold fX10_liar_37
  dsimp only
  rw [eA, o3, so_eq hB hR hN hp (by omega)]
  by_cases z1 : nI k = nI (A p)
  · rw [if_pos z1]
  · rw [if_neg z1, if_neg (fun z2 => h3 (hk.mpr ⟨k, Nat.zero_le _, by omega, z1, z2⟩))]
theorem eq_liar (hB : Bd sz K A C G W B R Z T mi) (hR : Rr sz K A C G W B R told) (hCr : Cr sz K A C G W B R ki ag co pa me sd wa be pr) (hN : TN sz A hd notes os og osn smn) : rX10_liar told notes sz hd = rX9_liar ag og hd sz osn := by
  have key : ∀ m, gLp (fX10_liar_25 told notes sz hd) sz 0 (nI m) = nI (gLp (fX9_liar_22 ag og hd osn) sz 0 m) := by
    intro m
    refine gLp_rel (fun a b => a = nI b) sz 0 (nI m) m (fun p a b _ p2 e => ?_) rfl
    subst e
    have hp : p < sz := by omega
    have h2 := (hCr.2.2.2.2.1 p hp).2.1
    unfold fX10_liar_25 fX9_liar_22
    dsimp only
    by_cases q : rX9_couldBeAnother ag og p hd osn = true
    · rw [liar_in (ag := ag) hB hR hN hp b, if_pos ⟨q, h2⟩, if_pos q]
    · rw [liar_no hB hR hN hp b h2 q, if_neg q]
  unfold rX10_liar rX9_liar
  rw [so_0 hB hR hN]
  by_cases q : rX8_isSoIf og 0 0 hd osn = true
  · rw [if_pos q, if_pos q]
    exact key 512
  · rw [if_neg q, if_neg q]
    exact key 0
theorem agesOf_eq (hCr : Cr sz K A C G W B R ki ag co pa me sd wa be pr) (b : Nat) : rX2_agesOf ag b sz = nI (agS sz A b) := by
  have key := gLp_sum (f := fX2_agesOf_4 ag b) (g := fun q => if b.testBit q = true then A q else 0) (n := sz) (fun q a hq => by
    unfold fX2_agesOf_4
    dsimp only
    rw [(hCr.2.2.2.2.1 q hq).2.1]
    by_cases z : b.testBit q = true
    · rw [if_pos z, if_pos z, nI_add]
    · rw [if_neg z, if_neg z]
      exact nI_add a 0) 0
  rw [Nat.zero_add] at key
  exact key
end Told
