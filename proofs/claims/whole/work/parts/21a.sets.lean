/-! best, waits, the sets for one, the odd ones -/
def Al (sz : Nat) (K A C G : Nat → Nat) (W B R : Nat) (Z T : Nat → Nat) (mi : Nat) (told s ki ag co pa me nt : Int32 → Int32) (sd bo cr de : Nat) (wa be pr : Int32) : Prop :=
  Bd sz K A C G W B R Z T mi ∧ Rr sz K A C G W B R told ∧ Rs sz Z T mi s ∧ Cr sz K A C G W B R ki ag co pa me sd wa be pr ∧ Cst sz Z T nt bo cr de
theorem wi_iff {i t : Nat} : rX9_within (nI i) (nI t) = true ↔ (nI i &&& (nI t ^^^ (-1))) = 0 := by
  unfold rX9_within
  split
  · rename_i q
    exact ⟨fun _ => q, fun _ => rfl⟩
  · rename_i q
    exact ⟨fun z => (by cases z), fun z => absurd z q⟩
section Sets
variable {sz : Nat} {K A C G : Nat → Nat} {W B R : Nat} {Z T : Nat → Nat} {mi : Nat} {told s : Int32 → Int32} {ki ag co pa me nt : Int32 → Int32} {sd bo cr de : Nat} {wa be pr : Int32} {cs : Int32 → Int32}
theorem al_t (h : Al sz K A C G W B R Z T mi told s ki ag co pa me nt sd bo cr de wa be pr) : tP told s sz = (presN co (nI mi) sz cr de) := pres_eq h.1 h.2.1 h.2.2.1 h.2.2.2.1 h.2.2.2.2
theorem al_P (h : Al sz K A C G W B R Z T mi told s ki ag co pa me nt sd bo cr de wa be pr) : (presN co (nI mi) sz cr de) < 512 := Nat.lt_of_lt_of_le (pres_lt h.2.2.2.2) (pw9 h.1.2.1)
theorem al_R (h : Al sz K A C G W B R Z T mi told s ki ag co pa me nt sd bo cr de wa be pr) : (remN sz cr de) < 512 := Nat.lt_of_lt_of_le (rem_lt h.2.2.2.2) (pw9 h.1.2.1)
theorem csP_eq (h : Al sz K A C G W B R Z T mi told s ki ag co pa me nt sd bo cr de wa be pr) {i : Nat} (hi : i < 512) : (rX4_costAll ki ag me wa be pr nt cs (presN co (nI mi) sz cr de) sz cr de sd) (nI i) = if rX9_within (nI i) (nI (presN co (nI mi) sz cr de)) = true then (if rX10_sails told s (nI i) sz = true then rX10_coinsOf told s (nI i) sz else -4) else -4 :=
  costAll_eq h.1 h.2.1 h.2.2.1 h.2.2.2.1 h.2.2.2.2 (fun p hp => pres_rem hp) hi
theorem csR_eq (h : Al sz K A C G W B R Z T mi told s ki ag co pa me nt sd bo cr de wa be pr) {i : Nat} (hi : i < 512) : (rX4_costAll ki ag me wa be pr nt cs (remN sz cr de) sz cr de sd) (nI i) = if rX9_within (nI i) (nI (remN sz cr de)) = true then (if rX10_sails told s (nI i) sz = true then rX10_coinsOf told s (nI i) sz else -4) else -4 :=
  costAll_eq h.1 h.2.1 h.2.2.1 h.2.2.2.1 h.2.2.2.2 (fun p hp => hp) hi
theorem al_coins (h : Al sz K A C G W B R Z T mi told s ki ag co pa me nt sd bo cr de wa be pr) {i : Nat} (hi : i < 512) (hs : rX10_sails told s (nI i) sz = true) : ∃ c, c ≤ 891 ∧ rX10_coinsOf told s (nI i) sz = nI c :=
  sails_coins h.1 h.2.1 h.2.2.1 h.2.2.2.2 (by omega) hs
/-- a set of those there that sails -/
def GoP (told s : Int32 → Int32) (sz t i : Nat) : Prop := rX9_within (nI i) (nI t) = true ∧ rX10_sails told s (nI i) sz = true
theorem csP_no (h : Al sz K A C G W B R Z T mi told s ki ag co pa me nt sd bo cr de wa be pr) {i : Nat} (hi : i < 512) : (rX4_costAll ki ag me wa be pr nt cs (presN co (nI mi) sz cr de) sz cr de sd) (nI i) = -4 ↔ ¬ GoP told s sz (presN co (nI mi) sz cr de) i := by
  rw [csP_eq h hi]
  unfold GoP
  by_cases h1 : rX9_within (nI i) (nI (presN co (nI mi) sz cr de)) = true
  · rw [if_pos h1]
    by_cases h2 : rX10_sails told s (nI i) sz = true
    · rw [if_pos h2]
      obtain ⟨c, c1, c2⟩ := al_coins h hi h2
      rw [c2]
      exact ⟨fun z => absurd z (nI_ne4 (by omega)), fun z => absurd ⟨h1, h2⟩ z⟩
    · rw [if_neg h2]
      exact ⟨fun _ z => h2 z.2, fun _ => rfl⟩
  · rw [if_neg h1]
    exact ⟨fun _ z => h1 z.1, fun _ => rfl⟩
theorem csR_no (h : Al sz K A C G W B R Z T mi told s ki ag co pa me nt sd bo cr de wa be pr) {i : Nat} (hi : i < 512) : (rX4_costAll ki ag me wa be pr nt cs (remN sz cr de) sz cr de sd) (nI i) = -4 ↔ ¬ GoP told s sz (remN sz cr de) i := by
  rw [csR_eq h hi]
  unfold GoP
  by_cases h1 : rX9_within (nI i) (nI (remN sz cr de)) = true
  · rw [if_pos h1]
    by_cases h2 : rX10_sails told s (nI i) sz = true
    · rw [if_pos h2]
      obtain ⟨c, c1, c2⟩ := al_coins h hi h2
      rw [c2]
      exact ⟨fun z => absurd z (nI_ne4 (by omega)), fun z => absurd ⟨h1, h2⟩ z⟩
    · rw [if_neg h2]
      exact ⟨fun _ z => h2 z.2, fun _ => rfl⟩
  · rw [if_neg h1]
    exact ⟨fun _ z => h1 z.1, fun _ => rfl⟩
theorem csP_yes (h : Al sz K A C G W B R Z T mi told s ki ag co pa me nt sd bo cr de wa be pr) {i : Nat} (hi : i < 512) (g : GoP told s sz (presN co (nI mi) sz cr de) i) : ∃ c, c ≤ 891 ∧ (rX4_costAll ki ag me wa be pr nt cs (presN co (nI mi) sz cr de) sz cr de sd) (nI i) = nI c ∧ rX10_coinsOf told s (nI i) sz = nI c := by
  obtain ⟨c, c1, c2⟩ := al_coins h hi g.2
  refine ⟨c, c1, ?_, c2⟩
  rw [csP_eq h hi, if_pos g.1, if_pos g.2, c2]
theorem go_le {t i : Nat} (hi : i < 512) (g : GoP told s sz t i) : i ≤ t := sub_le ((within_iff (by omega)).mp g.1)
theorem ones_eq {j : Nat} (hj : j < 512) : rX10_ones (nI j) = nI (tOnes j) ∧ rJ6_bitCount_0f7a4 (nI j) = nI (tOnes j) ∧ tOnes j ≤ 9 := by
  have h1 := tOnes_all j hj
  exact ⟨h1.1, (bc_all j hj).trans h1.1, h1.2⟩
/-- a set found, or none -/
def FndP (told s : Int32 → Int32) (sz t : Nat) (u : Int32) : Prop := u = -4 ∨ ∃ j, j < 512 ∧ u = nI j ∧ GoP told s sz t j
theorem best_step (h : Al sz K A C G W B R Z T mi told s ki ag co pa me nt sd bo cr de wa be pr) {i : Nat} (hi : i < 512) {u : Int32} (hu : FndP told s sz (presN co (nI mi) sz cr de) u) : fX10_best_22 told s (presN co (nI mi) sz cr de) sz i u = fX4_cheapest_16 (rX4_costAll ki ag me wa be pr nt cs (presN co (nI mi) sz cr de) sz cr de sd) i u ∧ FndP told s sz (presN co (nI mi) sz cr de) (fX4_cheapest_16 (rX4_costAll ki ag me wa be pr nt cs (presN co (nI mi) sz cr de) sz cr de sd) i u) := by
  unfold fX10_best_22 fX4_cheapest_16
  dsimp only
  by_cases g : GoP told s sz (presN co (nI mi) sz cr de) i
  · obtain ⟨c, c1, c2, c3⟩ := csP_yes (cs := cs) h hi g
    rw [if_pos (wi_iff.mp g.1), if_pos g.2, if_neg (fun z => (csP_no h hi).mp z g)]
    rcases hu with rfl | ⟨j, hj, rfl, gj⟩
    · rw [if_pos rfl, if_pos rfl]
      exact ⟨rfl, Or.inr ⟨i, hi, rfl, g⟩⟩
    · obtain ⟨d, d1, d2, d3⟩ := csP_yes (cs := cs) h hj gj
      rw [if_neg (nI_ne4 (by omega)), if_neg (nI_ne4 (by omega)), c3, d3]
      unfold rX4_isBetter
      rw [rAt_in hj (by decide), c2, d2, (ones_eq hi).1, (ones_eq hj).1, (ones_eq hj).2.1]
      have hI : FndP told s sz (presN co (nI mi) sz cr de) (nI i) := Or.inr ⟨i, hi, rfl, g⟩
      have hJ : FndP told s sz (presN co (nI mi) sz cr de) (nI j) := Or.inr ⟨j, hj, rfl, gj⟩
      by_cases e1 : c < d
      · rw [if_pos ((nI_dif (by omega) (by omega)).mpr e1), if_neg (fun z => absurd ((nI_eq (by omega) (by omega)).mp z) (by omega)), if_neg (nI_ge e1 (by omega)), if_pos rfl]
        exact ⟨rfl, hI⟩
      · rw [if_neg (fun z => e1 ((nI_dif (by omega) (by omega)).mp z))]
        by_cases e2 : c = d
        · subst e2
          rw [if_pos (by rw [pk_sub (Nat.le_refl c), Nat.sub_self]; rfl), if_pos rfl]
          by_cases e3 : nI (tOnes j) ≤ nI (tOnes i)
          · rw [if_pos e3, if_pos e3, if_neg (by decide)]
            exact ⟨rfl, hJ⟩
          · rw [if_neg e3, if_neg e3, if_pos rfl]
            exact ⟨rfl, hI⟩
        · rw [if_neg (fun z => by rw [pk_sub (by omega)] at z; exact absurd ((nI_eq (b := 0) (by omega) (by decide)).mp z) (by omega)), if_neg (fun z => e2 ((nI_eq (by omega) (by omega)).mp z)), if_pos (nI_le (by omega) (by omega)), if_neg (by decide)]
          exact ⟨rfl, hJ⟩
  · rw [if_pos ((csP_no h hi).mpr g)]
    refine ⟨?_, hu⟩
    by_cases g1 : rX9_within (nI i) (nI (presN co (nI mi) sz cr de)) = true
    · rw [if_pos (wi_iff.mp g1), if_neg (fun z => g ⟨g1, z⟩)]
    · rw [if_neg (fun z => g1 (wi_iff.mpr z))]
theorem best_lp (h : Al sz K A C G W B R Z T mi told s ki ag co pa me nt sd bo cr de wa be pr) : gLp (fX10_best_22 told s (presN co (nI mi) sz cr de) sz) ((presN co (nI mi) sz cr de) + 1 - 1) 1 (-4) = gLp (fX4_cheapest_16 (rX4_costAll ki ag me wa be pr nt cs (presN co (nI mi) sz cr de) sz cr de sd)) (512 - 1) 1 (-4) ∧ FndP told s sz (presN co (nI mi) sz cr de) (gLp (fX4_cheapest_16 (rX4_costAll ki ag me wa be pr nt cs (presN co (nI mi) sz cr de) sz cr de sd)) (512 - 1) 1 (-4)) := by
  have hp := al_P h
  have e : 512 - 1 = (presN co (nI mi) sz cr de) + (511 - (presN co (nI mi) sz cr de)) := by omega
  have h1 : gLp (fX4_cheapest_16 (rX4_costAll ki ag me wa be pr nt cs (presN co (nI mi) sz cr de) sz cr de sd)) (512 - 1) 1 (-4) = gLp (fX4_cheapest_16 (rX4_costAll ki ag me wa be pr nt cs (presN co (nI mi) sz cr de) sz cr de sd)) (presN co (nI mi) sz cr de) 1 (-4) := by
    rw [e]
    refine gLp_more (fun j a q1 q2 => ?_)
    unfold fX4_cheapest_16
    dsimp only
    rw [if_pos ((csP_no h (by omega)).mpr (fun g => absurd (go_le (by omega) g) (by omega)))]
  rw [h1, Nat.add_sub_cancel]
  exact gLp_rel (fun a b => a = b ∧ FndP told s sz (presN co (nI mi) sz cr de) b) (presN co (nI mi) sz cr de) 1 (-4) (-4) (fun j a b q1 q2 q3 => by
    obtain ⟨rfl, q4⟩ := q3
    exact best_step h (by omega) q4) ⟨rfl, Or.inl rfl⟩
theorem in01 {v a b : Int32} : rX10_in v a b = true ↔ ¬ v < a ∧ ¬ b < v := by
  unfold rX10_in
  split
  · rename_i q
    exact ⟨fun z => (by cases z), fun z => absurd q z.1⟩
  · rename_i q
    split
    · rename_i q2
      exact ⟨fun z => (by cases z), fun z => absurd q2 z.2⟩
    · rename_i q2
      exact ⟨fun _ => ⟨q, q2⟩, fun _ => rfl⟩
theorem i_nlt {a b : Int32} : ¬ a < b ↔ b ≤ a := Int32.not_lt
theorem eq_best (h : Al sz K A C G W B R Z T mi told s ki ag co pa me nt sd bo cr de wa be pr) (what : Int32) : rX10_best told s what sz = (rX9_best ki ag co me wa be pr nt (nI mi) cs what sz cr de sd).1 := by
  obtain ⟨e1, e2⟩ := best_lp (cs := cs) h
  have e3 : (rX4_cheapest ki ag co me wa be pr nt (nI mi) cs sz cr de sd).1 = gLp (fX4_cheapest_16 (rX4_costAll ki ag me wa be pr nt cs (presN co (nI mi) sz cr de) sz cr de sd)) (512 - 1) 1 (-4) := by
    unfold rX4_cheapest
    dsimp only
  unfold rX10_best rX9_best
  rw [al_t h, e1, e3]
  generalize gLp (fX4_cheapest_16 (rX4_costAll ki ag me wa be pr nt cs (presN co (nI mi) sz cr de) sz cr de sd)) (512 - 1) 1 (-4) = x at e2
  by_cases w1 : what < 0
  · rw [if_pos w1, if_neg (fun z => (in01.mp z).1 w1)]
  · rw [if_neg w1]
    by_cases w2 : what ≤ 1
    · rw [if_pos w2, if_pos (in01.mpr ⟨w1, fun z => absurd w2 (Int32.not_le.mpr z)⟩)]
      by_cases w3 : what = 0
      · rw [if_pos w3, if_pos w3]
      · rw [if_neg w3, if_neg w3]
        by_cases w4 : x = -4
        · rw [if_pos w4, if_pos w4]
        · rw [if_neg w4, if_neg w4]
          rcases e2 with z | ⟨j, hj, rfl, g⟩
          · exact absurd z w4
          · dsimp only
            rw [nI_clamp (by omega), cost_eq h.1 h.2.1 h.2.2.1 h.2.2.2.1 h.2.2.2.2 (fun p hp => pres_rem ((within_iff (by omega)).mp g.1 p hp)), if_pos g.2]
    · rw [if_neg w2, if_neg (fun z => w2 (i_nlt.mp (in01.mp z).2))]
/-- how many sets one is in -/
theorem with_lp (h : Al sz K A C G W B R Z T mi told s ki ag co pa me nt sd bo cr de wa be pr) {p : Nat} (hp : p < sz) : rX10_setsWith told s p sz = nI (gLp (fX4_manyWith_15 (rX4_costAll ki ag me wa be pr nt cs (presN co (nI mi) sz cr de) sz cr de sd) p) (512 - 1) 1 0) := by
  have hP := al_P h
  have hs := h.1.2.1
  have e : 512 - 1 = (presN co (nI mi) sz cr de) + (511 - (presN co (nI mi) sz cr de)) := by omega
  have h1 : gLp (fX4_manyWith_15 (rX4_costAll ki ag me wa be pr nt cs (presN co (nI mi) sz cr de) sz cr de sd) p) (512 - 1) 1 0 = gLp (fX4_manyWith_15 (rX4_costAll ki ag me wa be pr nt cs (presN co (nI mi) sz cr de) sz cr de sd) p) (presN co (nI mi) sz cr de) 1 0 := by
    rw [e]
    refine gLp_more (fun j a q1 q2 => ?_)
    unfold fX4_manyWith_15
    dsimp only
    rw [if_pos ((csP_no h (by omega)).mpr (fun g => absurd (go_le (by omega) g) (by omega)))]
    split <;> rfl
  unfold rX10_setsWith
  rw [h1, al_t h, Nat.add_sub_cancel]
  refine gLp_rel (fun a b => a = nI b) (presN co (nI mi) sz cr de) 1 0 0 (fun j a b q1 q2 q3 => ?_) rfl
  subst q3
  have z0 : nI b + 0 = nI b := nI_add b 0
  unfold fX10_setsWith_10 fX4_manyWith_15
  dsimp only
  by_cases b1 : j.testBit p = true
  · rw [if_pos b1]
    by_cases g : GoP told s sz (presN co (nI mi) sz cr de) j
    · rw [if_pos (wi_iff.mp g.1), if_pos (Eq.mpr (z_bit1 (by omega) (by omega)) b1), if_pos g.2, if_neg (fun z => (csP_no h (by omega)).mp z g)]
      exact nI_add b 1
    · rw [if_pos ((csP_no h (by omega)).mpr g), z0]
      by_cases g1 : rX9_within (nI j) (nI (presN co (nI mi) sz cr de)) = true
      · rw [if_pos (wi_iff.mp g1), if_pos (Eq.mpr (z_bit1 (by omega) (by omega)) b1), if_neg (fun z => g ⟨g1, z⟩)]
      · rw [if_neg (fun z => g1 (wi_iff.mpr z))]
  · rw [if_neg b1, if_neg (fun z => b1 (Eq.mp (z_bit1 (by omega) (by omega)) z)), z0]
    split <;> rfl
theorem eq_setsFor (h : Al sz K A C G W B R Z T mi told s ki ag co pa me nt sd bo cr de wa be pr) {p : Nat} (hp : p < sz) : rX10_setsFor told s p sz = (rX9_setsFor ki ag co me wa be pr nt (nI mi) cs p sz cr de sd).1 := by
  have hP := al_P h
  have hs := h.1.2.1
  have e3 : (rX4_manyWith ki ag co me wa be pr nt (nI mi) cs p sz cr de sd).1 = nI (gLp (fX4_manyWith_15 (rX4_costAll ki ag me wa be pr nt cs (presN co (nI mi) sz cr de) sz cr de sd) p) (512 - 1) 1 0) := by
    unfold rX4_manyWith
    rfl
  unfold rX10_setsFor rX9_setsFor
  rw [al_t h, with_lp (cs := cs) h hp, e3]
  by_cases b1 : ((presN co (nI mi) sz cr de)).testBit p = true
  · rw [if_pos b1, if_neg (fun z => by have q : ((presN co (nI mi) sz cr de)).testBit p = false := Eq.mp (z_bit0 (by omega) (by omega)) z; rw [b1] at q; cases q)]
  · have b2 : ((presN co (nI mi) sz cr de)).testBit p = false := by cases q : ((presN co (nI mi) sz cr de)).testBit p <;> simp_all
    rw [if_neg b1, if_pos (Eq.mpr (z_bit0 (by omega) (by omega)) b2)]
/-- a count is 0 -/
theorem cnt0 {cs : Int32 → Int32} {p : Nat} {n : Nat} : ∀ (d i c : Nat), i + d = n → (gLp (fX4_manyWith_15 cs p) d i c = 0 ↔ c = 0 ∧ ∀ j, i ≤ j → j < n → ¬ cs (nI j) = -4 → ¬ j.testBit p = true)
  | 0, i, c, e => ⟨fun z => ⟨z, fun j h1 h2 => by omega⟩, fun z => z.1⟩
  | d + 1, i, c, e => by
    rw [gLp, cnt0 (n := n) d (i + 1) _ (by omega)]
    unfold fX4_manyWith_15
    dsimp only
    by_cases b1 : i.testBit p = true
    · rw [if_pos b1]
      by_cases b2 : cs (nI i) = -4
      · rw [if_pos b2]
        refine ⟨fun z => ⟨z.1, fun j h1 h2 h3 => ?_⟩, fun z => ⟨z.1, fun j h1 h2 h3 => z.2 j (by omega) h2 h3⟩⟩
        by_cases e2 : j = i
        · rw [e2] at h3; exact absurd b2 h3
        · exact z.2 j (by omega) h2 h3
      · rw [if_neg b2]
        exact ⟨fun z => absurd z.1 (by omega), fun z => absurd b1 (z.2 i (Nat.le_refl i) (by omega) b2)⟩
    · rw [if_neg b1]
      refine ⟨fun z => ⟨z.1, fun j h1 h2 h3 => ?_⟩, fun z => ⟨z.1, fun j h1 h2 h3 => z.2 j (by omega) h2 h3⟩⟩
      by_cases e2 : j = i
      · rw [e2]; exact b1
      · exact z.2 j (by omega) h2 h3
theorem cnt_le {cs : Int32 → Int32} {p : Nat} : ∀ (d i c : Nat), gLp (fX4_manyWith_15 cs p) d i c ≤ c + d
  | 0, i, c => Nat.le_refl _
  | d + 1, i, c => by
    have h1 := cnt_le (cs := cs) (p := p) d (i + 1) (fX4_manyWith_15 cs p i c)
    have h2 : fX4_manyWith_15 cs p i c ≤ c + 1 := by
      unfold fX4_manyWith_15
      dsimp only
      split
      · split <;> omega
      · omega
    rw [gLp]
    omega
theorem none_tb {cs : Int32 → Int32} {n p : Nat} : ∀ (d i v : Nat), i + d = n → ((gLp (fX4_inNone_15 cs) d i v).testBit p = true ↔ v.testBit p = true ∧ ∀ j, i ≤ j → j < n → ¬ cs (nI j) = -4 → ¬ j.testBit p = true)
  | 0, i, v, e => ⟨fun z => ⟨z, fun j h1 h2 => by omega⟩, fun z => z.1⟩
  | d + 1, i, v, e => by
    rw [gLp, none_tb (n := n) d (i + 1) _ (by omega)]
    unfold fX4_inNone_15
    dsimp only
    by_cases b2 : cs (nI i) = -4
    · rw [if_pos b2]
      refine ⟨fun z => ⟨z.1, fun j h1 h2 h3 => ?_⟩, fun z => ⟨z.1, fun j h1 h2 h3 => z.2 j (by omega) h2 h3⟩⟩
      by_cases e2 : j = i
      · rw [e2] at h3; exact absurd b2 h3
      · exact z.2 j (by omega) h2 h3
    · rw [if_neg b2, andN_tb, Bool.and_eq_true]
      constructor
      · rintro ⟨⟨z1, z2⟩, z3⟩
        refine ⟨z1, fun j h1 h2 h3 => ?_⟩
        by_cases e2 : j = i
        · rw [e2]
          intro z
          rw [z] at z2
          exact absurd z2 (by decide)
        · exact z3 j (by omega) h2 h3
      · rintro ⟨z1, z3⟩
        refine ⟨⟨z1, ?_⟩, fun j h1 h2 h3 => z3 j (by omega) h2 h3⟩
        have z4 := z3 i (Nat.le_refl i) (by omega) b2
        cases q : i.testBit p
        · rfl
        · exact absurd q z4
theorem none_le {cs : Int32 → Int32} : ∀ (d i v : Nat), gLp (fX4_inNone_15 cs) d i v ≤ v
  | 0, i, v => Nat.le_refl _
  | d + 1, i, v => by
    rw [gLp]
    refine Nat.le_trans (none_le d (i + 1) _) ?_
    unfold fX4_inNone_15
    dsimp only
    split
    · exact Nat.le_refl _
    · exact andN_le
theorem eq_odd (h : Al sz K A C G W B R Z T mi told s ki ag co pa me nt sd bo cr de wa be pr) : rX10_oddOnes told s sz = (rX9_oddOnes ki ag co me wa be pr nt (nI mi) cs sz cr de sd).1 := by
  have hP := al_P h
  have hs := h.1.2.1
  have hPs : (presN co (nI mi) sz cr de) < 2 ^ sz := pres_lt h.2.2.2.2
  have e3 : (rX9_oddOnes ki ag co me wa be pr nt (nI mi) cs sz cr de sd).1 = nI (gLp (fX4_inNone_15 (rX4_costAll ki ag me wa be pr nt cs (presN co (nI mi) sz cr de) sz cr de sd)) (512 - 1) 1 (presN co (nI mi) sz cr de)) := by
    unfold rX9_oddOnes rX4_inNone
    rfl
  rw [e3]
  unfold rX10_oddOnes
  rw [al_t h]
  have key : ∃ m, m ≤ (presN co (nI mi) sz cr de) ∧ gLp (fX10_oddOnes_7 told s sz) sz 0 (nI (presN co (nI mi) sz cr de)) = nI m ∧ ∀ p, p < sz → (m.testBit p = true ↔ ((presN co (nI mi) sz cr de)).testBit p = true ∧ (p < sz → gLp (fX4_manyWith_15 (rX4_costAll ki ag me wa be pr nt cs (presN co (nI mi) sz cr de) sz cr de sd) p) (512 - 1) 1 0 = 0)) := by
    refine gLp_inv (n := sz) (fun k a => ∃ m, m ≤ (presN co (nI mi) sz cr de) ∧ a = nI m ∧ ∀ p, p < sz → (m.testBit p = true ↔ ((presN co (nI mi) sz cr de)).testBit p = true ∧ (p < k → gLp (fX4_manyWith_15 (rX4_costAll ki ag me wa be pr nt cs (presN co (nI mi) sz cr de) sz cr de sd) p) (512 - 1) 1 0 = 0))) ?_ sz 0 (nI (presN co (nI mi) sz cr de)) (by omega) ⟨_, Nat.le_refl _, rfl, fun p hp => ⟨fun z => ⟨z, fun q => absurd q (Nat.not_lt_zero p)⟩, fun z => z.1⟩⟩
    rintro i a hi ⟨m, m1, rfl, m2⟩
    have hcl := cnt_le (cs := (rX4_costAll ki ag me wa be pr nt cs (presN co (nI mi) sz cr de) sz cr de sd)) (p := i) (512 - 1) 1 0
    unfold fX10_oddOnes_7
    dsimp only
    rw [with_lp (cs := cs) h hi]
    by_cases c0 : gLp (fX4_manyWith_15 (rX4_costAll ki ag me wa be pr nt cs (presN co (nI mi) sz cr de) sz cr de sd) i) (512 - 1) 1 0 = 0
    · rw [if_pos (by rw [c0]; decide)]
      refine ⟨m, m1, ?_, fun p hp => ?_⟩
      · exact Int32.and_neg_one
      · rw [m2 p hp]
        refine ⟨fun z => ⟨z.1, fun q => ?_⟩, fun z => ⟨z.1, fun q => z.2 (by omega)⟩⟩
        by_cases e2 : p = i
        · rw [e2]; exact c0
        · exact z.2 (by omega)
    · rw [if_neg (nI_nle (by omega) (by omega)), z_1shl (by omega), z_andN]
      refine ⟨_, Nat.le_trans andN_le m1, rfl, fun p hp => ?_⟩
      rw [andN_tb, Nat.testBit_two_pow, Bool.and_eq_true, m2 p hp]
      by_cases e2 : p = i
      · subst e2
        rw [show decide (p = p) = true from decide_eq_true rfl]
        exact ⟨fun z => absurd z.2 (by decide), fun z => absurd (z.2 (by omega)) c0⟩
      · rw [show decide (i = p) = false from decide_eq_false (fun z => e2 z.symm)]
        refine ⟨fun z => ⟨z.1.1, fun q => z.1.2 (by omega)⟩, fun z => ⟨⟨z.1, fun q => z.2 (by omega)⟩, rfl⟩⟩
  obtain ⟨m, m1, m2, m3⟩ := key
  rw [m2]
  refine congrArg nI (tb_eq (n := sz) (by omega) (Nat.lt_of_le_of_lt (none_le _ _ _) hPs) (fun p hp => ?_))
  have q1 := m3 p hp
  have q2 := none_tb (cs := (rX4_costAll ki ag me wa be pr nt cs (presN co (nI mi) sz cr de) sz cr de sd)) (n := 512) (p := p) (512 - 1) 1 (presN co (nI mi) sz cr de) (by omega)
  have q3 := cnt0 (cs := (rX4_costAll ki ag me wa be pr nt cs (presN co (nI mi) sz cr de) sz cr de sd)) (p := p) (n := 512) (512 - 1) 1 0 (by omega)
  apply Bool.eq_iff_iff.mpr
  rw [q1, q2]
  exact ⟨fun z => ⟨z.1, (q3.mp (z.2 hp)).2⟩, fun z => ⟨z.1, fun _ => q3.mpr ⟨rfl, z.2⟩⟩⟩
end Sets
