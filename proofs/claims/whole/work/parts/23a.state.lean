/-! the moves: what holds of a state -/
/-- a state in both places -/
def St (t m sz : Nat) (C : Nat → Nat) (s nt : Int32 → Int32) (mi bo cr de : Nat) (ns np : Int32) : Prop :=
  mi ≤ m ∧ ns = s 19 ∧ np = s 20 ∧ ∃ Z T : Nat → Nat, Rs sz Z T mi s ∧ Cst sz Z T nt bo cr de ∧ ∀ p, p < sz → T p ≤ t ∧ (Z p = 0 ∨ Z p = 2 ∨ Z p = 3 ∨ Z p = 4) ∧ (Z p = 2 → C p ≤ mi)
/-- the roll in both places -/
def Ro (sz : Nat) (K A C G : Nat → Nat) (W B R : Nat) (told ki ag co pa me : Int32 → Int32) (sd : Nat) (wa be pr : Int32) : Prop := 1 ≤ sz ∧ Lb sz K A C G W B R ∧ Rr sz K A C G W B R told ∧ Cr sz K A C G W B R ki ag co pa me sd wa be pr
theorem pow9 {sz a : Nat} (hs : sz ≤ 9) (h : a < 2 ^ sz) : a < 512 := Nat.lt_of_lt_of_le h (Nat.le_trans (Nat.pow_le_pow_right (by decide) hs) (by decide))
/-- copies: written cell by cell from a place on -/
theorem put_at {o : Nat} {F : Nat → Int32} {f : Nat → (Int32 → Int32) → (Int32 → Int32)} (hf : ∀ i a, f i a = gup a (nI (o + i)) (F i)) (a : Int32 → Int32) : ∀ n, o + n < 2 ^ 31 → (∀ i, i < n → gLp f n 0 a (nI (o + i)) = F i) ∧ ∀ j, j < 2 ^ 31 → (j < o ∨ o + n ≤ j) → gLp f n 0 a (nI j) = a (nI j) := by
  intro n
  induction n with
  | zero => exact fun _ => ⟨fun i hi => absurd hi (by omega), fun j _ _ => rfl⟩
  | succ n ih =>
    intro hn
    obtain ⟨h1, h2⟩ := ih (by omega)
    refine ⟨fun i hi => ?_, fun j hj hc => ?_⟩
    · rw [gLp_succ, hf, Nat.zero_add]
      by_cases c : i = n
      · rw [c, gup_s]
      · rw [gup_ne (by omega) (by omega) (by omega)]
        exact h1 i (by omega)
    · rw [gLp_succ, hf, Nat.zero_add, gup_ne (by omega) hj (by omega)]
      exact h2 j hj (by omega)
theorem cpN_at {g f : Int32 → Int32} {p : Nat} (hp : p < 9) : cpN g 9 0 f (nI p) = g (nI p) := by
  have h := (put_at (o := 0) (F := fun i => g (nI i)) (f := fun i f => gup f (nI i) (g (nI i))) (fun i a => by rw [Nat.zero_add]) f 9 (by decide)).1 p hp
  rw [Nat.zero_add] at h
  exact h
theorem shift_at (p : Int32 → Int32) : ∀ n, n ≤ 147 → (∀ i, i < n → gLp fX10_keeps_11 n 0 p (nI i) = p (nI (i + 21))) ∧ ∀ j, n ≤ j → j < 1000 → gLp fX10_keeps_11 n 0 p (nI j) = p (nI j) := by
  intro n
  induction n with
  | zero => exact fun _ => ⟨fun i hi => absurd hi (by omega), fun j _ _ => rfl⟩
  | succ n ih =>
    intro hn
    obtain ⟨h1, h2⟩ := ih (by omega)
    refine ⟨fun i hi => ?_, fun j hj hc => ?_⟩
    · rw [gLp_succ, Nat.zero_add]
      unfold fX10_keeps_11
      dsimp only
      by_cases c : i = n
      · rw [c, gup_s]
        exact h2 (n + 21) (by omega) (by omega)
      · rw [gup_ne (by omega) (by omega) (by omega)]
        exact h1 i (by omega)
    · rw [gLp_succ, Nat.zero_add]
      unfold fX10_keeps_11
      dsimp only
      rw [gup_ne (by omega) (by omega) (by omega)]
      exact h2 j (by omega) hc
section State
variable {t m sz : Nat} {K A C G : Nat → Nat} {W B R : Nat} {told s ki ag co pa me nt : Int32 → Int32} {mi sd bo cr de : Nat} {wa be pr ns np : Int32}
theorem St.up {t' m' : Nat} (h : St t m sz C s nt mi bo cr de ns np) (ht : t ≤ t') (hm : m ≤ m') : St t' m' sz C s nt mi bo cr de ns np := by
  obtain ⟨h1, h2, h3, Z, T, h4, h5, h6⟩ := h
  exact ⟨Nat.le_trans h1 hm, h2, h3, Z, T, h4, h5, fun p hp => ⟨Nat.le_trans (h6 p hp).1 ht, (h6 p hp).2⟩⟩
theorem St.eqv {s' nt' : Int32 → Int32} (h : St t m sz C s nt mi bo cr de ns np) (hz : sz ≤ 9) (hs : ∀ i, i < 21 → s' (nI i) = s (nI i)) (hn : ∀ p, p < 9 → nt' (nI p) = nt (nI p)) : St t m sz C s' nt' mi bo cr de ns np := by
  obtain ⟨h1, h2, h3, Z, T, ⟨h4, h7⟩, ⟨b1, b2, b3, b4⟩, h6⟩ := h
  refine ⟨h1, h2.trans (hs 19 (by decide)).symm, h3.trans (hs 20 (by decide)).symm, Z, T, ⟨(hs 18 (by decide)).trans h4, fun p hp => ⟨(hs p (by omega)).trans (h7 p hp).1, (hs (9 + p) (by omega)).trans (h7 p hp).2⟩⟩, ⟨b1, b2, b3, fun p hp => ⟨(hn p (by omega)).trans (b4 p hp).1, (b4 p hp).2⟩⟩, h6⟩
theorem St.bits (h : St t m sz C s nt mi bo cr de ns np) (hz : sz ≤ 9) : bo < 512 ∧ cr < 512 ∧ de < 512 := by
  obtain ⟨h1, h2, h3, Z, T, h4, ⟨b1, b2, b3, b4⟩, h6⟩ := h
  exact ⟨pow9 hz b1, pow9 hz b2, pow9 hz b3⟩
theorem Ro.s9 (h : Ro sz K A C G W B R told ki ag co pa me sd wa be pr) : sz ≤ 9 := h.2.1.1
theorem Ro.d512 (h : Ro sz K A C G W B R told ki ag co pa me sd wa be pr) : sd < 512 := pow9 h.2.1.1 h.2.2.2.2.2.2.1
theorem St.al (h : St t m sz C s nt mi bo cr de ns np) (hR : Ro sz K A C G W B R told ki ag co pa me sd wa be pr) (ht : t ≤ 1000) (hm : m ≤ 40000) : ∃ Z T, Al sz K A C G W B R Z T mi told s ki ag co pa me nt sd bo cr de wa be pr ∧ ∀ p, p < sz → T p ≤ t := by
  obtain ⟨h1, -, -, Z, T, h2, h3, h4⟩ := h
  obtain ⟨r1, ⟨r2, r3, r4, r5, r6, r7⟩, r8, r9⟩ := hR
  exact ⟨Z, T, ⟨⟨r1, r2, r3, r4, r5, r6, by omega, fun p hp => ⟨(r7 p hp).1, (r7 p hp).2.1, (r7 p hp).2.2.1, (r7 p hp).2.2.2, Nat.le_trans (h4 p hp).1 ht, (h4 p hp).2.1, (h4 p hp).2.2⟩⟩, r8, h2, r9, h3⟩, fun p hp => (h4 p hp).1⟩
theorem bo_rem {Z T : Nat → Nat} (hC : Cst sz Z T nt bo cr de) : ∀ p, bo.testBit p = true → (remN sz cr de).testBit p = true := by
  intro p hp
  by_cases c : p < sz
  · rw [(hC.2.2.2 p c).2.1] at hp
    rw [rem_tb hC c, of_decide_eq_true hp]
    rfl
  · rw [tb_hi hC.1 (by omega)] at hp
    cases hp
theorem sail_cost {Z T : Nat → Nat} (h : Al sz K A C G W B R Z T mi told s ki ag co pa me nt sd bo cr de wa be pr) : (rX10_sails told s (nI bo) sz = true → ¬ rX6_costOf_29 ki ag me wa be pr nt bo sz cr de sd = -4 ∧ rX6_costOf_29 ki ag me wa be pr nt bo sz cr de sd = rX10_coinsOf told s (nI bo) sz) ∧ (¬ rX10_sails told s (nI bo) sz = true → rX6_costOf_29 ki ag me wa be pr nt bo sz cr de sd = -4) := by
  obtain ⟨hB, hR, hS, hCr, hC⟩ := h
  have e := cost_eq hB hR hS hCr hC (bo_rem hC)
  have hb : bo < 2 ^ 31 := Nat.lt_trans (pow9 hB.2.1 hC.1) (by decide)
  refine ⟨fun c => ?_, fun c => ?_⟩
  · rw [if_pos c] at e
    refine ⟨?_, e⟩
    obtain ⟨x, hx, ex⟩ := sails_coins hB hR hS hC hb c
    rw [e, ex]
    exact nI_ne4 (by omega)
  · rw [if_neg c] at e
    exact e
theorem place_eq {Z T : Nat → Nat} (h : Al sz K A C G W B R Z T mi told s ki ag co pa me nt sd bo cr de wa be pr) {p : Nat} (hp : p < sz) : rX10_where told s p = rX6_placeOf_29 co (nI mi) p bo cr de := by
  obtain ⟨hB, hR, hS, hCr, hC⟩ := h
  rw [where_eq hB hR hS hp]
  obtain ⟨-, -, -, -, hco, -⟩ := hCr
  obtain ⟨-, -, -, hbs⟩ := hC
  obtain ⟨-, -, -, -, -, -, hmi, h8⟩ := hB
  have hz := (h8 p hp).2.2.2.2.2.1
  have h9 := (h8 p hp).2.2.1
  obtain ⟨-, b1, b2, b3⟩ := hbs p hp
  unfold rX6_placeOf_29 whN
  rw [b1, b2, b3, (hco p hp).2.2.1]
  rcases hz with e | e | e | e
  · rw [if_pos e, e, if_neg (c := decide (0 = 4) = true) (by decide), if_neg (c := decide (0 = 3) = true) (by decide), if_neg (c := decide (0 = 2) = true) (by decide)]
    by_cases c : mi < C p
    · rw [if_pos c, if_pos ((nI_ltI (by omega) (by omega)).mpr c)]
      rfl
    · rw [if_neg c, if_neg (fun z => c ((nI_ltI (by omega) (by omega)).mp z))]
      rfl
  · rw [if_neg (by omega), e, if_neg (c := decide (2 = 4) = true) (by decide), if_neg (c := decide (2 = 3) = true) (by decide), if_pos (c := decide (2 = 2) = true) (by decide)]
    rfl
  · rw [if_neg (by omega), e, if_neg (c := decide (3 = 4) = true) (by decide), if_pos (c := decide (3 = 3) = true) (by decide)]
    rfl
  · rw [if_neg (by omega), e, if_pos (c := decide (4 = 4) = true) (by decide)]
    rfl
theorem person_iff {p : Int32} (h0 : told 0 = nI sz) (hs : sz ≤ 9) : rX10_isPerson told p = rX9_isPerson p sz := by
  unfold rX10_isPerson rX10_in rX9_isPerson
  rw [h0]
  by_cases c : p < 0
  · rw [if_pos c, if_pos c]
  · rw [if_neg c, if_neg c]
    have e : (nI sz - 1 < p) ↔ (nI sz ≤ p) := by
      have h1 : (nI sz).toInt = sz := nI_toInt (by omega)
      have h2 : (nI sz - 1).toInt = sz - 1 := by
        have h3 := pk_sub_toInt (a := sz) (b := 1) (by omega) (by decide)
        exact h3
      rw [Int32.lt_iff_toInt_lt, Int32.le_iff_toInt_le, h1, h2]
      exact ⟨fun z => by omega, fun z => by omega⟩
    by_cases c2 : nI sz - 1 < p
    · rw [if_pos c2, if_pos (e.mp c2)]
    · rw [if_neg c2, if_neg (fun z => c2 (e.mpr z))]
theorem person_n {p : Int32} (hs : sz ≤ 9) (h : rX9_isPerson p sz = true) : ∃ q, q < sz ∧ p = nI q := by
  unfold rX9_isPerson at h
  by_cases c : p < 0
  · rw [if_pos c] at h
    cases h
  · rw [if_neg c] at h
    by_cases c2 : nI sz ≤ p
    · rw [if_pos c2] at h
      cases h
    · have h0 : 0 ≤ p.toInt := Int.not_lt.mp (fun z => c (Int32.lt_iff_toInt_lt.mpr z))
      have h1 : (nI sz).toInt = sz := nI_toInt (by omega)
      have h2 : p.toInt < sz := by
        rw [← h1]
        exact Int.not_le.mp (fun z => c2 (Int32.le_iff_toInt_le.mpr z))
      refine ⟨p.toNatClampNeg, ?_, (nI_i (n := 9) ?_).symm⟩
      · show p.toInt.toNat < sz
        omega
      · exact vp_in_iff.mpr ⟨h0, by omega⟩
end State
