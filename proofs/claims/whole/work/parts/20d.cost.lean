/-! which sets sail, and what that costs -/
/-- no party is parted -/
def PO (sz : Nat) (G : Nat → Nat) (al a : Nat) : Prop := ∀ p, p < sz → ∀ q, q < sz → 0 < G p → G p = G q → al.testBit q = true → a.testBit p = true → a.testBit q = true
def cPQ (G : Nat → Nat) (al a p i : Nat) : Bool := !(decide (0 < G p) && decide (G p = G i) && al.testBit i && a.testBit p && !a.testBit i)
theorem gWh_ex {f : Nat → Bool → Bool × Bool} {bad : Nat → Prop} {i0 n : Nat} (h1 : ∀ j b, i0 ≤ j → j < n → bad j → f j b = (true, true)) (h2 : ∀ j b, i0 ≤ j → j < n → ¬ bad j → f j b = (false, false)) : ∀ (d i : Nat), i0 ≤ i → i + d = n → (gWh f d i false = true ↔ ∃ j, i ≤ j ∧ j < n ∧ bad j)
  | 0, i, _, hn => ⟨(fun z => by cases z), (fun ⟨j, q1, q2, _⟩ => by omega)⟩
  | d + 1, i, hi, hn => by
    by_cases hb : bad i
    · rw [gWh_t (h1 i false hi (by omega) hb)]
      exact ⟨fun _ => ⟨i, Nat.le_refl i, by omega, hb⟩, fun _ => rfl⟩
    · rw [gWh_f (h2 i false hi (by omega) hb), gWh_ex h1 h2 d (i + 1) (by omega) (by omega)]
      constructor
      · rintro ⟨j, q1, q2, q3⟩
        exact ⟨j, by omega, q2, q3⟩
      · rintro ⟨j, q1, q2, q3⟩
        refine ⟨j, ?_, q2, q3⟩
        rcases Nat.lt_or_ge i j with q | q
        · exact q
        · have e : j = i := by omega
          rw [e] at q3
          exact absurd q3 hb
theorem gLp_fill {F : Nat → Int32} {n : Nat} (hn : n ≤ 2 ^ 31) {f : Nat → (Int32 → Int32) → (Int32 → Int32)} (h : ∀ i cs, i < n → f i cs = gup cs (nI i) (F i)) (cs : Int32 → Int32) : ∀ a, a < n → gLp f n 0 cs (nI a) = F a := by
  refine gLp_inv (n := n) (fun k c => ∀ a, a < k → c (nI a) = F a) ?_ n 0 cs (by omega) (fun a ha => absurd ha (Nat.not_lt_zero a))
  intro i c hi hc a ha
  rw [h i c hi]
  unfold gup
  by_cases e : a = i
  · rw [if_pos (by rw [e]), e]
  · rw [if_neg (fun z => e ((nI_eq (by omega) (by omega)).mp z))]
    exact hc a (by omega)
section Cost
variable {sz : Nat} {K A C G : Nat → Nat} {W B R : Nat} {Z T : Nat → Nat} {mi : Nat} {told s : Int32 → Int32} {ki ag co pa me nt : Int32 → Int32} {sd bo cr de : Nat} {wa be pr : Int32}
theorem sails_in (hB : Bd sz K A C G W B R Z T mi) (hR : Rr sz K A C G W B R told) {a al p i : Nat} (ha : a < 2 ^ 31) (hal : al < 2 ^ 31) (hp : p < sz) (hi : i < sz) (u : Bool) : fX10_sails_24 told (nI a) (nI al) p i u = (u && cPQ G al a p i) := by
  obtain ⟨_, _, _, e1⟩ := hR.2.2.2.2 p hp
  obtain ⟨_, _, _, e2⟩ := hR.2.2.2.2 i hi
  obtain ⟨h1, h2, h3, h4, h5, h6, h7, h8⟩ := hB
  obtain ⟨_, _, _, k4, _, _, _⟩ := h8 p hp
  obtain ⟨_, _, _, k5, _, _, _⟩ := h8 i hi
  have tt : ∀ x y : Bool, (if (true = true) then x else y) = x := fun x y => if_pos rfl
  unfold fX10_sails_24
  dsimp only
  cases u with
  | false => simp
  | true =>
    rw [e1, e2, Bool.true_and]
    simp only [tt, if_true]
    by_cases g0 : G p = 0
    · rw [if_pos (by rw [g0]; decide)]
      unfold cPQ
      rw [show decide (0 < G p) = false from decide_eq_false (by omega)]
      rfl
    · rw [if_neg (nI_nle (by omega) (by omega))]
      by_cases g1 : G p = G i
      · rw [if_pos (by rw [g1])]
        by_cases l1 : al.testBit i = true
        · rw [if_pos (Eq.mpr (z_bit1 hal (by omega)) l1)]
          by_cases a1 : a.testBit p = true
          · rw [if_pos (Eq.mpr (z_bit1 ha (by omega)) a1)]
            by_cases a2 : a.testBit i = true
            · rw [if_neg (fun z => by have q : a.testBit i = false := Eq.mp (z_bit0 ha (by omega)) z; rw [a2] at q; cases q)]
              unfold cPQ
              rw [a2]
              simp
            · have a3 : a.testBit i = false := by cases q : a.testBit i <;> simp_all
              rw [if_pos (Eq.mpr (z_bit0 ha (by omega)) a3)]
              unfold cPQ
              rw [a3, a1, l1, show decide (G p = G i) = true from decide_eq_true g1, show decide (0 < G p) = true from decide_eq_true (by omega)]
              rfl
          · rw [if_neg (fun z => a1 (Eq.mp (z_bit1 ha (by omega)) z))]
            have a3 : a.testBit p = false := by cases q : a.testBit p <;> simp_all
            unfold cPQ
            rw [a3]
            simp
        · rw [if_neg (fun z => l1 (Eq.mp (z_bit1 hal (by omega)) z))]
          have l3 : al.testBit i = false := by cases q : al.testBit i <;> simp_all
          unfold cPQ
          rw [l3]
          simp
      · rw [if_neg (fun z => g1 ((nI_eq (by omega) (by omega)).mp z))]
        unfold cPQ
        rw [show decide (G p = G i) = false from decide_eq_false g1]
        simp
theorem ref_PO (hB : Bd sz K A C G W B R Z T mi) (hR : Rr sz K A C G W B R told) {a al : Nat} (ha : a < 2 ^ 31) (hal : al < 2 ^ 31) : gLp (fX10_sails_10 told (nI a) (nI al) sz) sz 0 true = true ↔ PO sz G al a := by
  have h1 : ∀ p u, p < sz → fX10_sails_10 told (nI a) (nI al) sz p u = (u && gLp (fX10_sails_24 told (nI a) (nI al) p) sz 0 true) := by
    intro p u hp
    unfold fX10_sails_10
    dsimp only
    have q1 := gLp_and (n := sz) (f := fX10_sails_24 told (nI a) (nI al) p) (c := cPQ G al a p) (fun i v hi => sails_in hB hR ha hal hp hi v)
    apply Bool.eq_iff_iff.mpr
    rw [Bool.and_eq_true, q1 u, q1 true]
    exact ⟨fun z => ⟨z.1, rfl, z.2⟩, fun z => ⟨z.1, z.2.2⟩⟩
  rw [gLp_and h1]
  constructor
  · rintro ⟨_, h⟩ p hp q hq g0 g1 l1 a1
    have h2 := ((gLp_and (n := sz) (f := fX10_sails_24 told (nI a) (nI al) p) (c := cPQ G al a p) (fun i v hi => sails_in hB hR ha hal hp hi v) true).mp (h p hp)).2 q hq
    unfold cPQ at h2
    rw [decide_eq_true g0, decide_eq_true g1, l1, a1] at h2
    cases q2 : a.testBit q
    · rw [q2] at h2; exact absurd h2 (by decide)
    · rfl
  · intro h
    refine ⟨rfl, fun p hp => ?_⟩
    rw [gLp_and (n := sz) (f := fX10_sails_24 told (nI a) (nI al) p) (c := cPQ G al a p) (fun i v hi => sails_in hB hR ha hal hp hi v)]
    refine ⟨rfl, fun q hq => ?_⟩
    unfold cPQ
    by_cases g0 : 0 < G p
    · by_cases g1 : G p = G q
      · by_cases l1 : al.testBit q = true
        · by_cases a1 : a.testBit p = true
          · rw [h p hp q hq g0 g1 l1 a1]
            simp
          · simp [a1]
        · simp [l1]
      · simp [g1]
    · simp [g0]
theorem rem_31 (hs : sz ≤ 9) : remN sz cr de < 2 ^ 31 := Nat.lt_trans (remN_lt hs) (by decide)
theorem ref_sails (hB : Bd sz K A C G W B R Z T mi) (hR : Rr sz K A C G W B R told) (hS : Rs sz Z T mi s) (hC : Cst sz Z T nt bo cr de) {a : Nat} (ha : a < 2 ^ 31) : rX10_sails told s (nI a) sz = true ↔ PO sz G (remN sz cr de) a ∧ W ≤ Sm sz K A T a ∧ Sm sz K A T a ≤ W + B := by
  have hSm := Sm_le hB a
  have h0 := ref_PO hB hR ha (rem_31 (cr := cr) (de := de) hB.2.1)
  unfold rX10_sails
  rw [alive_eq hB hR hS hC, ref_sum hB hR hS ha, hR.2.1, hR.2.2.1]
  obtain ⟨h1, h2, h3, h4, h5, h6, h7, h8⟩ := hB
  by_cases hp : PO sz G (remN sz cr de) a
  · rw [if_pos (h0.mpr hp)]
    unfold rX10_in
    by_cases hw : W ≤ Sm sz K A T a
    · rw [if_neg (fun z => absurd ((nI_dif (by omega) (by omega)).mp z) (by omega)), pk_sub hw]
      by_cases hb : Sm sz K A T a ≤ W + B
      · rw [if_neg (nI_nlt (by omega) (by omega))]
        exact ⟨fun _ => ⟨hp, hw, hb⟩, fun _ => rfl⟩
      · rw [if_pos (nI_lt (by omega) (by omega))]
        exact ⟨fun z => (by cases z), fun z => absurd z.2.2 hb⟩
    · rw [if_pos ((nI_dif (by omega) (by omega)).mpr (by omega))]
      exact ⟨fun z => (by cases z), fun z => absurd z.2.1 hw⟩
  · rw [if_neg (fun z => hp (h0.mp z))]
    exact ⟨fun z => (by cases z), fun z => absurd z.1 hp⟩
theorem ref_coins (hB : Bd sz K A C G W B R Z T mi) (hR : Rr sz K A C G W B R told) (hS : Rs sz Z T mi s) {a : Nat} (ha : a < 2 ^ 31) (hw : W ≤ Sm sz K A T a) : rX10_coinsOf told s (nI a) sz = nI (R * (Sm sz K A T a - W)) := by
  unfold rX10_coinsOf
  rw [ref_sum hB hR hS ha, hR.2.1, hR.2.2.2.1, pk_sub hw, pk_mul]
/-- what sails costs 0 to 891 coins -/
theorem sails_coins (hB : Bd sz K A C G W B R Z T mi) (hR : Rr sz K A C G W B R told) (hS : Rs sz Z T mi s) (hC : Cst sz Z T nt bo cr de) {a : Nat} (ha : a < 2 ^ 31) (h : rX10_sails told s (nI a) sz = true) : ∃ c, c ≤ 891 ∧ rX10_coinsOf told s (nI a) sz = nI c := by
  obtain ⟨_, h2, h3⟩ := (ref_sails hB hR hS hC ha).mp h
  refine ⟨_, ?_, ref_coins hB hR hS ha h2⟩
  obtain ⟨_, _, _, _, h5, h6, _, _⟩ := hB
  have q : R * (Sm sz K A T a - W) ≤ 9 * 99 := Nat.mul_le_mul h6 (by omega)
  omega
theorem cls_PO (hB : Bd sz K A C G W B R Z T mi) (hCr : Cr sz K A C G W B R ki ag co pa me sd wa be pr) (hC : Cst sz Z T nt bo cr de) {a : Nat} (ha : ∀ p, a.testBit p = true → (remN sz cr de).testBit p = true) : rX6_partsNoParty_29 me a sz cr de = true ↔ PO sz G (remN sz cr de) a := by
  have hrl := rem_lt hC
  have hal : a < 2 ^ sz := Nat.lt_of_le_of_lt (sub_le ha) hrl
  have hp9 := pw9 hB.2.1
  have key : gWh (fX6_partsNoParty_2_29 me a sz cr de) (6 - 1) 1 false = true ↔ ∃ g, 1 ≤ g ∧ g < 6 ∧ (¬ ((me (nI g)) &&& (nI (remN sz cr de))) &&& (nI a) = 0 ∧ ¬ ((me (nI g)) &&& (nI (remN sz cr de))) &&& (nI a) = (me (nI g)) &&& (nI (remN sz cr de))) := by
    refine gWh_ex (i0 := 1) (n := 6) (bad := fun g => ¬ ((me (nI g)) &&& (nI (remN sz cr de))) &&& (nI a) = 0 ∧ ¬ ((me (nI g)) &&& (nI (remN sz cr de))) &&& (nI a) = (me (nI g)) &&& (nI (remN sz cr de))) ?_ ?_ (6 - 1) 1 (by omega) (by omega)
    · rintro j b _ _ ⟨q1, q2⟩
      unfold fX6_partsNoParty_2_29
      dsimp only
      rw [if_neg q1, if_neg q2]
    · intro j b _ _ q
      unfold fX6_partsNoParty_2_29
      dsimp only
      by_cases q1 : ((me (nI j)) &&& (nI (remN sz cr de))) &&& (nI a) = 0
      · rw [if_pos q1]
      · by_cases q2 : ((me (nI j)) &&& (nI (remN sz cr de))) &&& (nI a) = (me (nI j)) &&& (nI (remN sz cr de))
        · rw [if_neg q1, if_pos q2]
        · exact absurd ⟨q1, q2⟩ q
  have h9 : rX6_partsNoParty_29 me a sz cr de = true ↔ ¬ gWh (fX6_partsNoParty_2_29 me a sz cr de) (6 - 1) 1 false = true := by
    unfold rX6_partsNoParty_29
    split
    · rename_i q
      exact ⟨fun z => (by cases z), fun z => absurd q z⟩
    · rename_i q
      exact ⟨fun _ => q, fun _ => rfl⟩
  rw [h9, key]
  constructor
  · intro h p hp q hq g0 g1 l1 a1
    obtain ⟨_, _, _, _, _, _, _, h8⟩ := hB
    obtain ⟨_, _, _, k4, _, _, _⟩ := h8 p hp
    obtain ⟨mg, m1, m2, m3⟩ := hCr.2.2.2.2.2 (G p) g0 k4
    have hx : ¬ (¬ ((me (nI (G p))) &&& (nI (remN sz cr de))) &&& (nI a) = 0 ∧ ¬ ((me (nI (G p))) &&& (nI (remN sz cr de))) &&& (nI a) = (me (nI (G p))) &&& (nI (remN sz cr de))) := fun z => h ⟨G p, g0, by omega, z⟩
    rw [m2, z_and, z_and] at hx
    have e1 : mg &&& remN sz cr de < 2 ^ sz := Nat.lt_of_le_of_lt Nat.and_le_right hrl
    have e2 : mg &&& remN sz cr de &&& a < 2 ^ sz := Nat.lt_of_le_of_lt Nat.and_le_right hal
    have x0 : ¬ nI (mg &&& remN sz cr de &&& a) = 0 := by
      intro z
      have z2 := (nI_eq (b := 0) (by omega) (by decide)).mp z
      have t : (mg &&& remN sz cr de &&& a).testBit p = true := by
        rw [Nat.testBit_and, Nat.testBit_and, m3 p hp, ha p a1, a1, decide_eq_true rfl]
        rfl
      rw [z2, Nat.zero_testBit] at t
      cases t
    have x1 : mg &&& remN sz cr de &&& a = mg &&& remN sz cr de := by
      refine Classical.byContradiction (fun z => hx ⟨x0, fun z2 => z ?_⟩)
      exact (nI_eq (by omega) (by omega)).mp z2
    have t : (mg &&& remN sz cr de).testBit q = true := by
      rw [Nat.testBit_and, m3 q hq, l1, decide_eq_true g1.symm]
      rfl
    rw [← x1, Nat.testBit_and, Bool.and_eq_true] at t
    exact t.2
  · rintro h ⟨g, q1, q2, q3, q4⟩
    obtain ⟨mg, m1, m2, m3⟩ := hCr.2.2.2.2.2 g q1 (by omega)
    rw [m2, z_and, z_and] at q3 q4
    have e1 : mg &&& remN sz cr de < 2 ^ sz := Nat.lt_of_le_of_lt Nat.and_le_right hrl
    have e2 : mg &&& remN sz cr de &&& a < 2 ^ sz := Nat.lt_of_le_of_lt Nat.and_le_right hal
    have hne : mg &&& remN sz cr de &&& a ≠ 0 := fun z => q3 (by rw [z]; rfl)
    obtain ⟨p, hp⟩ := Nat.exists_testBit_of_ne_zero hne
    rw [Nat.testBit_and, Nat.testBit_and, Bool.and_eq_true, Bool.and_eq_true] at hp
    obtain ⟨⟨p1, p2⟩, p3⟩ := hp
    have hps : p < sz := by
      refine Nat.lt_of_not_le (fun z => ?_)
      rw [tb_hi hal z] at p3
      cases p3
    rw [m3 p hps] at p1
    have gp : G p = g := of_decide_eq_true p1
    refine q4 (congrArg nI (tb_eq e2 e1 (fun q hq => ?_)))
    rw [Nat.testBit_and]
    cases t : (mg &&& remN sz cr de).testBit q
    · rfl
    · rw [Nat.testBit_and, Bool.and_eq_true, m3 q hq] at t
      have gq : G q = g := of_decide_eq_true t.1
      rw [h p hps q hq (by omega) (by omega) t.2 p3]
      rfl
/-- the class's cost of a set is the reference's -/
theorem cost_eq (hB : Bd sz K A C G W B R Z T mi) (hR : Rr sz K A C G W B R told) (hS : Rs sz Z T mi s) (hCr : Cr sz K A C G W B R ki ag co pa me sd wa be pr) (hC : Cst sz Z T nt bo cr de) {a : Nat} (ha : ∀ p, a.testBit p = true → (remN sz cr de).testBit p = true) : rX6_costOf_29 ki ag me wa be pr nt a sz cr de sd = if rX10_sails told s (nI a) sz = true then rX10_coinsOf told s (nI a) sz else -4 := by
  have hal : a < 2 ^ 31 := Nat.lt_of_le_of_lt (sub_le ha) (rem_31 hB.2.1)
  have hSm := Sm_le hB a
  have hs := ref_sails hB hR hS hC hal
  have hp := cls_PO hB hCr hC ha
  unfold rX6_costOf_29
  rw [cls_sum hB hCr hC, hCr.1, hCr.2.1, hCr.2.2.1]
  by_cases h1 : rX10_sails told s (nI a) sz = true
  · rw [if_pos h1]
    obtain ⟨p1, p2, p3⟩ := hs.mp h1
    rw [if_pos (hp.mpr p1), ref_coins hB hR hS hal p2]
    obtain ⟨_, _, _, h4, h5, h6, _, _⟩ := hB
    rw [if_neg (fun z => absurd ((nI_dif (by omega) (by omega)).mp z) (by omega)), pk_sub p2, if_pos (nI_le (by omega) (by omega)), pk_mul, Nat.mul_comm]
  · rw [if_neg h1]
    by_cases p1 : PO sz G (remN sz cr de) a
    · rw [if_pos (hp.mpr p1)]
      obtain ⟨_, _, _, h4, h5, h6, _, _⟩ := hB
      by_cases p2 : W ≤ Sm sz K A T a
      · rw [if_neg (fun z => absurd ((nI_dif (by omega) (by omega)).mp z) (by omega)), pk_sub p2, if_neg (nI_ge (by
          refine Nat.lt_of_not_le (fun z => h1 (hs.mpr ⟨p1, p2, by omega⟩))) (by omega))]
      · rw [if_pos ((nI_dif (by omega) (by omega)).mpr (by omega))]
    · rw [if_neg (fun z => p1 (hp.mp z))]
/-- the table of costs -/
theorem costAll_eq (hB : Bd sz K A C G W B R Z T mi) (hR : Rr sz K A C G W B R told) (hS : Rs sz Z T mi s) (hCr : Cr sz K A C G W B R ki ag co pa me sd wa be pr) (hC : Cst sz Z T nt bo cr de) {cs : Int32 → Int32} {v : Nat} (hv : ∀ p, v.testBit p = true → (remN sz cr de).testBit p = true) {a : Nat} (ha : a < 512) :
    rX4_costAll ki ag me wa be pr nt cs v sz cr de sd (nI a) = if rX9_within (nI a) (nI v) = true then (if rX10_sails told s (nI a) sz = true then rX10_coinsOf told s (nI a) sz else -4) else -4 := by
  unfold rX4_costAll
  rw [gLp_fill (F := fun i => if rX9_within (nI i) (nI v) = true then rX6_costOf_29 ki ag me wa be pr nt i sz cr de sd else -4) (by decide) (fun i c hi => by
    unfold fX4_costAll_2
    dsimp only
    split <;> rfl) cs a ha]
  by_cases hw : rX9_within (nI a) (nI v) = true
  · rw [if_pos hw, if_pos hw]
    exact cost_eq hB hR hS hCr hC (fun p hp => hv p ((within_iff (by omega)).mp hw p hp))
  · rw [if_neg hw, if_neg hw]
end Cost
