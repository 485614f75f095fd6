/-! the text: an item -/
/-- bounds of a roll that is being read -/
def Lb (dz : Nat) (K A C G : Nat → Nat) (W B R : Nat) : Prop := dz ≤ 9 ∧ 10 ≤ W ∧ W ≤ 990 ∧ B ≤ 99 ∧ R ≤ 9 ∧ ∀ p, p < dz → K p ≤ 3 ∧ A p ≤ 99 ∧ C p ≤ 99 ∧ G p ≤ 5
/-- the roll that both places are reading -/
def Rd (dz : Nat) (K A C G : Nat → Nat) (W B R : Nat) (dr ki ag co pa me : Int32 → Int32) (so wa be pr : Int32) : Prop := Lb dz K A C G W B R ∧ Rr dz K A C G W B R dr ∧ ∃ sd, Cr dz K A C G W B R ki ag co pa me sd wa be pr ∧ so = nI sd
theorem g3_v (rn : Int32 → Int32) (a b c : Int32) : gup (gup (gup rn (nI 0) a) (nI 1) b) (nI 2) c 0 = a ∧ gup (gup (gup rn (nI 0) a) (nI 1) b) (nI 2) c 1 = b ∧ gup (gup (gup rn (nI 0) a) (nI 1) b) (nI 2) c 2 = c := by
  have e0 : gup (gup (gup rn (nI 0) a) (nI 1) b) (nI 2) c (nI 0) = a := by rw [gup_ne (by decide) (by decide) (by decide), gup_ne (by decide) (by decide) (by decide), gup_s]
  have e1 : gup (gup (gup rn (nI 0) a) (nI 1) b) (nI 2) c (nI 1) = b := by rw [gup_ne (by decide) (by decide) (by decide), gup_s]
  exact ⟨e0, e1, gup_s⟩
theorem g4_v (rn : Int32 → Int32) (a b c d : Int32) : gup (gup (gup (gup rn (nI 0) a) (nI 1) b) (nI 2) c) (nI 3) d 0 = a ∧ gup (gup (gup (gup rn (nI 0) a) (nI 1) b) (nI 2) c) (nI 3) d 1 = b ∧ gup (gup (gup (gup rn (nI 0) a) (nI 1) b) (nI 2) c) (nI 3) d 2 = c ∧ gup (gup (gup (gup rn (nI 0) a) (nI 1) b) (nI 2) c) (nI 3) d 3 = d := by
  have e0 : gup (gup (gup (gup rn (nI 0) a) (nI 1) b) (nI 2) c) (nI 3) d (nI 0) = a := by rw [gup_ne (by decide) (by decide) (by decide), gup_ne (by decide) (by decide) (by decide), gup_ne (by decide) (by decide) (by decide), gup_s]
  have e1 : gup (gup (gup (gup rn (nI 0) a) (nI 1) b) (nI 2) c) (nI 3) d (nI 1) = b := by rw [gup_ne (by decide) (by decide) (by decide), gup_ne (by decide) (by decide) (by decide), gup_s]
  have e2 : gup (gup (gup (gup rn (nI 0) a) (nI 1) b) (nI 2) c) (nI 3) d (nI 2) = c := by rw [gup_ne (by decide) (by decide) (by decide), gup_s]
  exact ⟨e0, e1, e2, gup_s⟩
theorem in_nI {n lo hi : Nat} (hn : n < 2 ^ 31) (hl : lo < 2 ^ 31) (hh : hi < 2 ^ 31) : rX10_in (nI n) (nI lo) (nI hi) = true ↔ lo ≤ n ∧ n ≤ hi := by
  rw [in01, nI_ltI hn hl, nI_ltI hh hn]
  omega
theorem bits_new {m dz : Nat} {f f' : Nat → Nat} {x v : Nat} (h1 : m < 2 ^ dz) (h2 : ∀ p, p < dz → m.testBit p = decide (f p = x)) (e : ∀ p, p < dz → f' p = f p) (e' : f' dz = v) : (v = x → (m ||| 2 ^ dz) < 2 ^ (dz + 1) ∧ ∀ p, p < dz + 1 → (m ||| 2 ^ dz).testBit p = decide (f' p = x)) ∧ (v ≠ x → m < 2 ^ (dz + 1) ∧ ∀ p, p < dz + 1 → m.testBit p = decide (f' p = x)) := by
  have hp : 2 ^ dz < 2 ^ (dz + 1) := Nat.pow_lt_pow_right (by decide) (by omega)
  refine ⟨fun q => ⟨Nat.or_lt_two_pow (by omega) hp, fun p h => ?_⟩, fun q => ⟨by omega, fun p h => ?_⟩⟩
  · rw [Nat.testBit_or, Nat.testBit_two_pow]
    by_cases c : p = dz
    · rw [c, e', q, decide_eq_true rfl, Bool.or_true]
      exact (decide_eq_true rfl).symm
    · rw [h2 p (by omega), e p (by omega), show decide (dz = p) = false from decide_eq_false (fun z => c z.symm), Bool.or_false]
  · by_cases c : p = dz
    · rw [c, e', Nat.testBit_lt_two_pow h1]
      exact (decide_eq_false q).symm
    · rw [h2 p (by omega), e p (by omega)]
section Item
variable {dz : Nat} {K A C G : Nat → Nat} {W B R : Nat} {dr ki ag co pa me : Int32 → Int32} {so wa be pr : Int32}
theorem ferry_rd (h : Rd dz K A C G W B R dr ki ag co pa me so wa be pr) {t b r : Nat} (ht : 1 ≤ t) (ht9 : t ≤ 99) (hb : b ≤ 99) (hr : r ≤ 9) : Rd dz K A C G (10 * t) b r (gup (gup (gup dr (nI 1) (nI (10 * t))) (nI 2) (nI b)) (nI 3) (nI r)) ki ag co pa me so (nI (10 * t)) (nI b) (nI r) := by
  obtain ⟨⟨l1, l2, l3, l4, l5, l6⟩, ⟨r0, r1, r2, r3, r4⟩, sd, ⟨c1, c2, c3, c4, c5, c6⟩, es⟩ := h
  have g : ∀ x, 4 ≤ x → x < 100 → gup (gup (gup dr (nI 1) (nI (10 * t))) (nI 2) (nI b)) (nI 3) (nI r) (nI x) = dr (nI x) := fun x h4 h100 => by rw [gup_ne (by omega) (by omega) (by omega), gup_ne (by omega) (by omega) (by omega), gup_ne (by omega) (by omega) (by omega)]
  have g0 : gup (gup (gup dr (nI 1) (nI (10 * t))) (nI 2) (nI b)) (nI 3) (nI r) (nI 0) = dr (nI 0) := by rw [gup_ne (by omega) (by omega) (by omega), gup_ne (by omega) (by omega) (by omega), gup_ne (by omega) (by omega) (by omega)]
  have g1 : gup (gup (gup dr (nI 1) (nI (10 * t))) (nI 2) (nI b)) (nI 3) (nI r) (nI 1) = nI (10 * t) := by rw [gup_ne (by omega) (by omega) (by omega), gup_ne (by omega) (by omega) (by omega), gup_s]
  have g2 : gup (gup (gup dr (nI 1) (nI (10 * t))) (nI 2) (nI b)) (nI 3) (nI r) (nI 2) = nI b := by rw [gup_ne (by omega) (by omega) (by omega), gup_s]
  refine ⟨⟨l1, by omega, by omega, hb, hr, l6⟩, ⟨g0.trans r0, g1, g2, gup_s, fun p hp => ?_⟩, sd, ⟨rfl, rfl, rfl, c4, c5, c6⟩, es⟩
  rw [g (4 + p) (by omega) (by omega), g (13 + p) (by omega) (by omega), g (22 + p) (by omega) (by omega), g (31 + p) (by omega) (by omega)]
  exact r4 p hp
theorem person_rd (h : Rd dz K A C G W B R dr ki ag co pa me so wa be pr) (hd : dz < 9) {k a c g : Nat} (hk : k ≤ 3) (ha : a ≤ 99) (hc : c ≤ 99) (hg : g ≤ 5) : Rd (dz + 1) (fun p => if p = dz then k else K p) (fun p => if p = dz then a else A p) (fun p => if p = dz then c else C p) (fun p => if p = dz then g else G p) W B R (rX10_personOf dr (nI k) (nI a) (nI c) (nI g) dz) (gup ki (nI dz) (nI k)) (gup ag (nI dz) (nI a)) (gup co (nI dz) (nI c)) (gup pa (nI dz) (nI g)) (rPut 6 me (nI g) ((rAt 6 me (nI g)) ||| (nI (2 ^ dz)))) (if k = 3 then so ||| nI (2 ^ dz) else so) wa be pr := by
  obtain ⟨⟨l1, l2, l3, l4, l5, l6⟩, ⟨r0, r1, r2, r3, r4⟩, sd, ⟨c1, c2, c3, c4, c5, c6⟩, es⟩ := h
  have pe : rX10_personOf dr (nI k) (nI a) (nI c) (nI g) dz = gup (gup (gup (gup (gup dr (nI (4 + dz)) (nI k)) (nI (13 + dz)) (nI a)) (nI (22 + dz)) (nI c)) (nI (31 + dz)) (nI g)) (nI 0) (((gup (gup (gup (gup dr (nI (4 + dz)) (nI k)) (nI (13 + dz)) (nI a)) (nI (22 + dz)) (nI c)) (nI (31 + dz)) (nI g)) 0) + 1) := rfl
  have low : ∀ x, 1 ≤ x → x ≤ 3 → rX10_personOf dr (nI k) (nI a) (nI c) (nI g) dz (nI x) = dr (nI x) := fun x h1 h3 => by rw [pe, gup_ne (by omega) (by omega) (by omega), gup_ne (by omega) (by omega) (by omega), gup_ne (by omega) (by omega) (by omega), gup_ne (by omega) (by omega) (by omega), gup_ne (by omega) (by omega) (by omega)]
  refine ⟨⟨by omega, l2, l3, l4, l5, fun p hp => ?_⟩, ⟨personOf_0 r0 l1, (low 1 (by omega) (by omega)).trans r1, (low 2 (by omega) (by omega)).trans r2, (low 3 (by omega) (by omega)).trans r3, fun p hp => ?_⟩, if k = 3 then sd ||| 2 ^ dz else sd, ⟨c1, c2, c3, ?_, fun p hp => ?_, fun g' h1 h5 => ?_⟩, ?_⟩
  · dsimp only
    by_cases e : p = dz
    · rw [if_pos e, if_pos e, if_pos e, if_pos e]
      exact ⟨hk, ha, hc, hg⟩
    · rw [if_neg e, if_neg e, if_neg e, if_neg e]
      exact l6 p (by omega)
  · dsimp only
    rw [pe]
    by_cases e : p = dz
    · rw [if_pos e, if_pos e, if_pos e, if_pos e, e]
      refine ⟨?_, ?_, ?_, ?_⟩
      · rw [gup_ne (by omega) (by omega) (by omega), gup_ne (by omega) (by omega) (by omega), gup_ne (by omega) (by omega) (by omega), gup_ne (by omega) (by omega) (by omega), gup_s]
      · rw [gup_ne (by omega) (by omega) (by omega), gup_ne (by omega) (by omega) (by omega), gup_ne (by omega) (by omega) (by omega), gup_s]
      · rw [gup_ne (by omega) (by omega) (by omega), gup_ne (by omega) (by omega) (by omega), gup_s]
      · rw [gup_ne (by omega) (by omega) (by omega), gup_s]
    · have q : ∀ x, (x = 4 + p ∨ x = 13 + p ∨ x = 22 + p ∨ x = 31 + p) → gup (gup (gup (gup (gup dr (nI (4 + dz)) (nI k)) (nI (13 + dz)) (nI a)) (nI (22 + dz)) (nI c)) (nI (31 + dz)) (nI g)) (nI 0) (((gup (gup (gup (gup dr (nI (4 + dz)) (nI k)) (nI (13 + dz)) (nI a)) (nI (22 + dz)) (nI c)) (nI (31 + dz)) (nI g)) 0) + 1) (nI x) = dr (nI x) := fun x hx => by rw [gup_ne (by omega) (by omega) (by omega), gup_ne (by omega) (by omega) (by omega), gup_ne (by omega) (by omega) (by omega), gup_ne (by omega) (by omega) (by omega), gup_ne (by omega) (by omega) (by omega)]
      rw [if_neg e, if_neg e, if_neg e, if_neg e, q (4 + p) (by omega), q (13 + p) (by omega), q (22 + p) (by omega), q (31 + p) (by omega)]
      exact r4 p (by omega)
  · have b := bits_new (f := K) (f' := fun p => if p = dz then k else K p) (x := 3) (v := k) c4 (fun p hp => (c5 p hp).2.2.2.2) (fun p hp => if_neg (by omega)) (if_pos rfl)
    by_cases e : k = 3
    · rw [if_pos e]; exact (b.1 e).1
    · rw [if_neg e]; exact (b.2 e).1
  · have b := bits_new (f := K) (f' := fun p => if p = dz then k else K p) (x := 3) (v := k) c4 (fun p hp => (c5 p hp).2.2.2.2) (fun p hp => if_neg (by omega)) (if_pos rfl)
    have b5 : (if k = 3 then sd ||| 2 ^ dz else sd).testBit p = decide ((if p = dz then k else K p) = 3) := by
      by_cases e : k = 3
      · rw [if_pos e]; exact (b.1 e).2 p hp
      · rw [if_neg e]; exact (b.2 e).2 p hp
    dsimp only
    refine ⟨?_, ?_, ?_, ?_, b5⟩
    all_goals
      by_cases e : p = dz
      · rw [if_pos e, e, gup_s]
      · rw [if_neg e, gup_ne (by omega) (by omega) (by omega)]
        first | exact (c5 p (by omega)).1 | exact (c5 p (by omega)).2.1 | exact (c5 p (by omega)).2.2.1 | exact (c5 p (by omega)).2.2.2.1
  · obtain ⟨mg, m1, m2, m3⟩ := c6 g' h1 h5
    have b := bits_new (f := G) (f' := fun p => if p = dz then g else G p) (x := g') (v := g) m1 m3 (fun p hp => if_neg (by omega)) (if_pos rfl)
    by_cases e : g = g'
    · refine ⟨mg ||| 2 ^ dz, (b.1 e).1, ?_, (b.1 e).2⟩
      rw [e, rAt_in (by omega) (by decide), rPut_in (by omega) (by decide), gup_s, m2, z_or]
    · refine ⟨mg, (b.2 e).1, ?_, (b.2 e).2⟩
      rw [rPut_in (by omega) (by decide), gup_ne (by omega) (by omega) e, m2]
  · by_cases e : k = 3
    · rw [if_pos e, if_pos e, es, z_or]
    · rw [if_neg e, if_neg e, es]
theorem add_yes (hd : dz < 9) {k a c g : Nat} (hk : k ≤ 3) (hg : g ≤ 5) : rX2_addPerson_7 ki ag co pa me so (nI k) (nI a) (nI c) (nI g) dz = (true, gup ki (nI dz) (nI k), gup ag (nI dz) (nI a), gup co (nI dz) (nI c), gup pa (nI dz) (nI g), rPut 6 me (nI g) ((rAt 6 me (nI g)) ||| (nI (2 ^ dz))), (if k = 3 then so ||| nI (2 ^ dz) else so), dz + 1) := by
  have z9 : ¬ (9 : Int32) ≤ nI dz := nI_ge (b := 9) hd (by decide)
  have z3 : ¬ (3 : Int32) < nI k := fun z => absurd ((nI_ltI (a := 3) (by decide) (by omega)).mp z) (by omega)
  have z5 : nI g ≤ 5 := nI_le (b := 5) hg (by decide)
  unfold rX2_addPerson_7
  rw [if_neg z9, if_neg z3, if_pos z5]
  by_cases e : k = 3
  · have e3 : nI k = 3 := by rw [e]; rfl
    rw [if_pos e3, if_pos e]
  · have e3 : ¬ nI k = 3 := fun z => e ((nI_eq (b := 3) (by omega) (by decide)).mp z)
    rw [if_neg e3, if_neg e]
theorem add_no {k a c g : Nat} (hk : k ≤ 99) (hg : g ≤ 99) (hd : dz ≤ 9) (hn : ¬ (dz < 9 ∧ k ≤ 3 ∧ g ≤ 5)) : (rX2_addPerson_7 ki ag co pa me so (nI k) (nI a) (nI c) (nI g) dz).1 = false := by
  unfold rX2_addPerson_7
  by_cases c1 : dz < 9
  · have z9 : ¬ (9 : Int32) ≤ nI dz := nI_ge (b := 9) c1 (by decide)
    rw [if_neg z9]
    by_cases c2 : k ≤ 3
    · have z3 : ¬ (3 : Int32) < nI k := fun z => absurd ((nI_ltI (a := 3) (by decide) (by omega)).mp z) (by omega)
      have z5 : ¬ nI g ≤ 5 := fun z => hn ⟨c1, c2, (nI_leI (b := 5) (by omega) (by decide)).mp z⟩
      rw [if_neg z3, if_neg z5]
    · have z3 : (3 : Int32) < nI k := (nI_ltI (a := 3) (by decide) (by omega)).mpr (by omega)
      rw [if_pos z3]
  · have z9 : (9 : Int32) ≤ nI dz := nI_le (a := 9) (b := dz) (by omega) (by omega)
    rw [if_pos z9]
end Item
