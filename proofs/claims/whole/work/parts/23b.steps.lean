/-! the moves: one step -/
/-- a loop over the persons of a set -/
def Up (bo : Nat) (f g : Nat → Nat) (i q : Nat) : Nat := if q < i ∧ bo.testBit q = true then g q else f q
theorem up_ne {bo : Nat} {f g : Nat → Nat} {i q : Nat} (h : q ≠ i) : Up bo f g (i + 1) q = Up bo f g i q := by
  unfold Up
  by_cases c : q < i ∧ bo.testBit q = true
  · rw [if_pos c, if_pos ⟨Nat.lt_succ_of_lt c.1, c.2⟩]
  · rw [if_neg c, if_neg (fun z => c ⟨by have := z.1; omega, z.2⟩)]
theorem up_at {bo : Nat} {f g : Nat → Nat} {i : Nat} (h : bo.testBit i = true) : Up bo f g (i + 1) i = g i := if_pos ⟨Nat.lt_succ_self i, h⟩
theorem up_i {bo : Nat} {f g : Nat → Nat} {i : Nat} : Up bo f g i i = f i := if_neg (fun z => Nat.lt_irrefl i z.1)
theorem up_no {bo : Nat} {f g : Nat → Nat} {i : Nat} (h : ¬ bo.testBit i = true) (q : Nat) : Up bo f g (i + 1) q = Up bo f g i q := by
  by_cases c : q = i
  · rw [c]
    unfold Up
    rw [if_neg (fun z => h z.2), if_neg (fun z => h z.2)]
  · exact up_ne c
/-- a number in one place -/
def zUp (Z : Nat → Nat) (p z q : Nat) : Nat := if q = p then z else Z q
theorem zUp_at {Z : Nat → Nat} {p z : Nat} : zUp Z p z p = z := if_pos rfl
theorem zUp_ne {Z : Nat → Nat} {p z q : Nat} (h : q ≠ p) : zUp Z p z q = Z q := if_neg h
section Steps
variable {t m sz : Nat} {K A C G : Nat → Nat} {W B R : Nat} {told s ki ag co pa me nt : Int32 → Int32} {mi sd bo cr de : Nat} {wa be pr ns np : Int32}
def zGo (K : Nat → Nat) (q : Nat) : Nat := if K q = 2 then 0 else 3
def tGo (T : Nat → Nat) (q : Nat) : Nat := T q + 1
/-- the two loops of a sailing -/
def Gr (sz bo : Nat) (K Z T : Nat → Nat) (s0 : Int32 → Int32) (i : Nat) (s : Int32 → Int32) (nc : (Int32 → Int32) × Nat) : Prop :=
  s (nI 18) = s0 (nI 18) ∧ s (nI 19) = s0 (nI 19) ∧ s (nI 20) = s0 (nI 20) ∧ nc.2 < 2 ^ sz ∧ ∀ q, q < sz → s (nI q) = nI (Up bo Z (zGo K) i q) ∧ s (nI (9 + q)) = nI (Up bo T (tGo T) i q) ∧ nc.1 (nI q) = nI (Up bo T (tGo T) i q) ∧ nc.2.testBit q = decide (Up bo Z (zGo K) i q = 3)
theorem gr_step {Z T : Nat → Nat} {s0 : Int32 → Int32} {nc : (Int32 → Int32) × Nat} {i : Nat} (hz : sz ≤ 9) (hb : bo < 512) (hi : i < sz) (hk : told (nI (4 + i)) = nI (K i)) (hki : ki (nI i) = nI (K i)) (hK : K i ≤ 3) (hZ : bo.testBit i = true → Z i = 2) (h : Gr sz bo K Z T s0 i s nc) : Gr sz bo K Z T s0 (i + 1) (fX10_goes_14 told (nI bo) i s) (fX6_depart_2_29 ki bo i nc) := by
  obtain ⟨h1, h2, h3, h4, h5⟩ := h
  obtain ⟨n2, c2⟩ := nc
  unfold fX10_goes_14 fX6_depart_2_29
  dsimp only
  dsimp only at h4 h5
  by_cases c : bo.testBit i = true
  · rw [if_pos ((z_bit1 (by omega) (by omega)).mpr c), if_pos c, hk, hki]
    obtain ⟨g1, g2, g3, g4⟩ := h5 i hi
    rw [up_i] at g1 g2 g3 g4
    have hp : 2 ^ i < 2 ^ sz := Nat.pow_lt_pow_right (by decide) hi
    by_cases k2 : K i = 2
    · have e2 : nI (K i) = 2 := by rw [k2]; rfl
      have z0 : zGo K i = 0 := if_pos k2
      rw [if_pos e2, if_pos e2]
      refine ⟨?_, ?_, ?_, ?_, fun q hq => ?_⟩
      · rw [gup_ne (by omega) (by omega) (by omega), gup_ne (by omega) (by omega) (by omega), h1]
      · rw [gup_ne (by omega) (by omega) (by omega), gup_ne (by omega) (by omega) (by omega), h2]
      · rw [gup_ne (by omega) (by omega) (by omega), gup_ne (by omega) (by omega) (by omega), h3]
      · rw [Nat.or_zero]
        exact h4
      · rw [Nat.or_zero]
        by_cases e : q = i
        · rw [e, up_at c, up_at c, z0]
          refine ⟨?_, ?_, ?_, ?_⟩
          · rw [gup_ne (by omega) (by omega) (by omega), gup_s]
            rfl
          · rw [gup_s, gup_ne (by omega) (by omega) (by omega), g2]
            exact nI_1 (T i)
          · dsimp only
            rw [gup_s, g3]
            exact nI_1 (T i)
          · rw [g4, hZ c]
            rfl
        · obtain ⟨f1, f2, f3, f4⟩ := h5 q hq
          rw [up_ne e, up_ne e]
          refine ⟨?_, ?_, ?_, f4⟩
          · rw [gup_ne (by omega) (by omega) (by omega), gup_ne (by omega) (by omega) (fun z => e z.symm), f1]
          · rw [gup_ne (by omega) (by omega) (by omega), gup_ne (by omega) (by omega) (by omega), f2]
          · dsimp only
            rw [gup_ne (by omega) (by omega) (fun z => e z.symm), f3]
    · have e2 : ¬ nI (K i) = 2 := fun z => k2 ((nI_eq (b := 2) (by omega) (by decide)).mp z)
      have z3 : zGo K i = 3 := if_neg k2
      rw [if_neg e2, if_neg e2]
      refine ⟨?_, ?_, ?_, ?_, fun q hq => ?_⟩
      · rw [gup_ne (by omega) (by omega) (by omega), gup_ne (by omega) (by omega) (by omega), h1]
      · rw [gup_ne (by omega) (by omega) (by omega), gup_ne (by omega) (by omega) (by omega), h2]
      · rw [gup_ne (by omega) (by omega) (by omega), gup_ne (by omega) (by omega) (by omega), h3]
      · exact Nat.or_lt_two_pow h4 hp
      · by_cases e : q = i
        · rw [e, up_at c, up_at c, z3]
          refine ⟨?_, ?_, ?_, ?_⟩
          · rw [gup_ne (by omega) (by omega) (by omega), gup_s]
            rfl
          · rw [gup_s, gup_ne (by omega) (by omega) (by omega), g2]
            exact nI_1 (T i)
          · dsimp only
            rw [gup_s, g3]
            exact nI_1 (T i)
          · rw [Nat.testBit_or, Nat.testBit_two_pow, decide_eq_true rfl, Bool.or_true]
            rfl
        · obtain ⟨f1, f2, f3, f4⟩ := h5 q hq
          rw [up_ne e, up_ne e]
          refine ⟨?_, ?_, ?_, ?_⟩
          · rw [gup_ne (by omega) (by omega) (by omega), gup_ne (by omega) (by omega) (fun z => e z.symm), f1]
          · rw [gup_ne (by omega) (by omega) (by omega), gup_ne (by omega) (by omega) (by omega), f2]
          · dsimp only
            rw [gup_ne (by omega) (by omega) (fun z => e z.symm), f3]
          · rw [Nat.testBit_or, Nat.testBit_two_pow, show decide (i = q) = false from decide_eq_false (fun z => e z.symm), Bool.or_false, f4]
  · rw [if_neg (fun z => c ((z_bit1 (by omega) (by omega)).mp z)), if_neg c]
    refine ⟨h1, h2, h3, h4, fun q hq => ?_⟩
    rw [up_no c, up_no c]
    exact h5 q hq
/-- a sailing -/
theorem st_goes (h : St t m sz C s nt mi bo cr de ns np) (hR : Ro sz K A C G W B R told ki ag co pa me sd wa be pr) (ht : t ≤ 1000) (hm : m ≤ 40000) : St (t + 1) m sz C (rX10_goes told s sz).2 (gLp (fX6_depart_2_29 ki bo) sz 0 (nt, cr)).1 mi 0 (gLp (fX6_depart_2_29 ki bo) sz 0 (nt, cr)).2 de (ns + 1) (np + rX10_coinsOf told s (nI bo) sz) := by
  obtain ⟨h1, h2, h3, Z, T, h4, h5, h6⟩ := h
  obtain ⟨r1, ⟨r2, r3, r4, r5, r6, r7⟩, r8, r9⟩ := hR
  have hB : Bd sz K A C G W B R Z T mi := ⟨r1, r2, r3, r4, r5, r6, by omega, fun p hp => ⟨(r7 p hp).1, (r7 p hp).2.1, (r7 p hp).2.2.1, (r7 p hp).2.2.2, Nat.le_trans (h6 p hp).1 ht, (h6 p hp).2.1, (h6 p hp).2.2⟩⟩
  have hab := all_bo hB r8 h4 h5
  obtain ⟨b1, b2, b3, b4⟩ := h5
  have gr : Gr sz bo K Z T s sz (gLp (fX10_goes_14 told (nI bo)) sz 0 s) (gLp (fX6_depart_2_29 ki bo) sz 0 (nt, cr)) := by
    have key : ∀ d, d ≤ sz → Gr sz bo K Z T s d (gLp (fX10_goes_14 told (nI bo)) d 0 s) (gLp (fX6_depart_2_29 ki bo) d 0 (nt, cr)) := by
      intro d
      induction d with
      | zero =>
        intro _
        refine ⟨rfl, rfl, rfl, b2, fun q hq => ?_⟩
        have e : ∀ f g : Nat → Nat, Up bo f g 0 q = f q := fun f g => if_neg (fun z => absurd z.1 (Nat.not_lt_zero q))
        rw [e, e]
        exact ⟨(h4.2 q hq).1, (h4.2 q hq).2, (b4 q hq).1, (b4 q hq).2.2.1⟩
      | succ d ih =>
        intro hd
        rw [gLp_succ, gLp_succ, Nat.zero_add]
        exact gr_step r2 (pow9 r2 b1) (by omega) (r8.2.2.2.2 d (by omega)).1 (r9.2.2.2.2.1 d (by omega)).1 (r7 d (by omega)).1 (fun z => of_decide_eq_true ((b4 d (by omega)).2.1.symm.trans z)) (ih (by omega))
    exact key sz (Nat.le_refl _)
  obtain ⟨g1, g2, g3, g4, g5⟩ := gr
  have eg : (rX10_goes told s sz).2 = gup (gup (gLp (fX10_goes_14 told (nI bo)) sz 0 s) (nI 19) (((gLp (fX10_goes_14 told (nI bo)) sz 0 s) (nI 19)) + 1)) (nI 20) (((gup (gLp (fX10_goes_14 told (nI bo)) sz 0 s) (nI 19) (((gLp (fX10_goes_14 told (nI bo)) sz 0 s) (nI 19)) + 1)) (nI 20)) + (rX10_coinsOf told s (nI bo) sz)) := by
    unfold rX10_goes
    rw [hab]
    rfl
  rw [eg]
  refine ⟨h1, ?_, ?_, Up bo Z (zGo K) sz, Up bo T (tGo T) sz, ⟨?_, fun q hq => ⟨?_, ?_⟩⟩, ⟨by exact Nat.two_pow_pos sz, g4, b3, fun q hq => ⟨(g5 q hq).2.2.1, ?_, (g5 q hq).2.2.2, ?_⟩⟩, fun q hq => ⟨?_, ?_, ?_⟩⟩
  · show _ = gup (gup _ (nI 19) _) (nI 20) _ (nI 19)
    rw [gup_ne (by omega) (by omega) (by omega), gup_s, g2, h2]
    rfl
  · show _ = gup (gup _ (nI 19) _) (nI 20) _ (nI 20)
    rw [gup_s, gup_ne (by omega) (by omega) (by omega), g3, h3]
    rfl
  · show gup (gup _ (nI 19) _) (nI 20) _ (nI 18) = _
    rw [gup_ne (by omega) (by omega) (by omega), gup_ne (by omega) (by omega) (by omega), g1]
    exact h4.1
  · rw [gup_ne (by omega) (by omega) (by omega), gup_ne (by omega) (by omega) (by omega)]
    exact (g5 q hq).1
  · rw [gup_ne (by omega) (by omega) (by omega), gup_ne (by omega) (by omega) (by omega)]
    exact (g5 q hq).2.1
  · rw [Nat.zero_testBit]
    refine (decide_eq_false ?_).symm
    unfold Up zGo
    by_cases c : bo.testBit q = true
    · rw [if_pos ⟨hq, c⟩]
      split <;> decide
    · rw [if_neg (fun z => c z.2)]
      exact fun z => c ((b4 q hq).2.1.trans (decide_eq_true z))
  · rw [(b4 q hq).2.2.2]
    refine dec_iff ?_
    unfold Up zGo
    by_cases c : bo.testBit q = true
    · rw [if_pos ⟨hq, c⟩, of_decide_eq_true ((b4 q hq).2.1.symm.trans c)]
      split <;> decide
    · rw [if_neg (fun z => c z.2)]
  · have := (h6 q hq).1
    unfold Up tGo
    split <;> omega
  · unfold Up zGo
    by_cases c : bo.testBit q = true
    · rw [if_pos ⟨hq, c⟩]
      split
      · exact Or.inl rfl
      · exact Or.inr (Or.inr (Or.inl rfl))
    · rw [if_neg (fun z => c z.2)]
      exact (h6 q hq).2.1
  · unfold Up zGo
    by_cases c : bo.testBit q = true
    · rw [if_pos ⟨hq, c⟩]
      split
      · exact fun z => absurd z (by decide)
      · exact fun z => absurd z (by decide)
    · rw [if_neg (fun z => c z.2)]
      exact (h6 q hq).2.2
/-- one person's place changes -/
theorem st_set {p z bo' cr' de' : Nat} (h : St t m sz C s nt mi bo cr de ns np) (hz : sz ≤ 9) (hp : p < sz) (hz4 : z = 0 ∨ z = 2 ∨ z = 3 ∨ z = 4) (h2 : z = 2 → C p ≤ mi) (l1 : bo' < 2 ^ sz) (l2 : cr' < 2 ^ sz) (l3 : de' < 2 ^ sz)
    (e1 : ∀ q, q ≠ p → bo'.testBit q = bo.testBit q) (e2 : ∀ q, q ≠ p → cr'.testBit q = cr.testBit q) (e3 : ∀ q, q ≠ p → de'.testBit q = de.testBit q) (f1 : bo'.testBit p = decide (z = 2)) (f2 : cr'.testBit p = decide (z = 3)) (f3 : de'.testBit p = decide (z = 4)) : St t m sz C (gup s (nI p) (nI z)) nt mi bo' cr' de' ns np := by
  obtain ⟨h1, h7, h8, Z, T, ⟨a1, a2⟩, ⟨b1, b2, b3, b4⟩, h6⟩ := h
  refine ⟨h1, h7.trans ?_, h8.trans ?_, zUp Z p z, T, ⟨?_, fun q hq => ⟨?_, ?_⟩⟩, ⟨l1, l2, l3, fun q hq => ?_⟩, fun q hq => ?_⟩
  · show s (nI 19) = gup s (nI p) (nI z) (nI 19)
    rw [gup_ne (by omega) (by omega) (by omega)]
  · show s (nI 20) = gup s (nI p) (nI z) (nI 20)
    rw [gup_ne (by omega) (by omega) (by omega)]
  · show gup s (nI p) (nI z) (nI 18) = nI mi
    rw [gup_ne (by omega) (by omega) (by omega)]
    exact a1
  · by_cases e : q = p
    · rw [e, zUp_at, gup_s]
    · rw [zUp_ne e, gup_ne (by omega) (by omega) (fun y => e y.symm)]
      exact (a2 q hq).1
  · rw [gup_ne (by omega) (by omega) (by omega)]
    exact (a2 q hq).2
  · by_cases e : q = p
    · rw [e, zUp_at]
      exact ⟨(b4 p hp).1, f1, f2, f3⟩
    · rw [zUp_ne e, e1 q e, e2 q e, e3 q e]
      exact b4 q hq
  · by_cases e : q = p
    · rw [e, zUp_at]
      exact ⟨(h6 p hp).1, hz4, h2⟩
    · rw [zUp_ne e]
      exact h6 q hq
theorem or_tb_ne {a p q : Nat} (h : q ≠ p) : (a ||| 2 ^ p).testBit q = a.testBit q := by
  rw [Nat.testBit_or, Nat.testBit_two_pow, show decide (p = q) = false from decide_eq_false (fun z => h z.symm), Bool.or_false]
theorem or_tb_at {a p : Nat} : (a ||| 2 ^ p).testBit p = true := by
  rw [Nat.testBit_or, Nat.testBit_two_pow, decide_eq_true rfl, Bool.or_true]
theorem an_tb_ne {a p q : Nat} (h : q ≠ p) : (andN a (2 ^ p)).testBit q = a.testBit q := by
  rw [andN_tb, Nat.testBit_two_pow, show decide (p = q) = false from decide_eq_false (fun z => h z.symm)]
  exact Bool.and_true _
theorem an_tb_at {a p : Nat} : (andN a (2 ^ p)).testBit p = false := by
  rw [andN_tb, Nat.testBit_two_pow, decide_eq_true rfl]
  exact Bool.and_false _
theorem an_le {a n b : Nat} (h : a < n) : andN a b < n := Nat.lt_of_le_of_lt z_le h
/-- what a place says of the bits -/
theorem pl_cases {p : Nat} (h : St t m sz C s nt mi bo cr de ns np) (hR : Ro sz K A C G W B R told ki ag co pa me sd wa be pr) (hm : m ≤ 40000) (hp : p < sz) : bo < 2 ^ sz ∧ cr < 2 ^ sz ∧ de < 2 ^ sz ∧
    ((rX6_placeOf_29 co (nI mi) p bo cr de = 0 ∧ bo.testBit p = false ∧ cr.testBit p = false ∧ de.testBit p = false) ∨ (rX6_placeOf_29 co (nI mi) p bo cr de = 1 ∧ bo.testBit p = false ∧ cr.testBit p = false ∧ de.testBit p = false ∧ C p ≤ mi) ∨ (rX6_placeOf_29 co (nI mi) p bo cr de = 2 ∧ bo.testBit p = true ∧ cr.testBit p = false ∧ de.testBit p = false) ∨ rX6_placeOf_29 co (nI mi) p bo cr de = 3 ∨ rX6_placeOf_29 co (nI mi) p bo cr de = 4) := by
  obtain ⟨h1, h7, h8, Z, T, ⟨a1, a2⟩, ⟨b1, b2, b3, b4⟩, h6⟩ := h
  refine ⟨b1, b2, b3, ?_⟩
  have eC : co (nI p) = nI (C p) := (hR.2.2.2.2.2.2.2.1 p hp).2.2.1
  have lC : C p ≤ 99 := (hR.2.1.2.2.2.2.2 p hp).2.2.1
  unfold rX6_placeOf_29
  rw [eC]
  by_cases d1 : de.testBit p = true
  · rw [if_pos d1]
    exact Or.inr (Or.inr (Or.inr (Or.inr rfl)))
  · rw [if_neg d1]
    by_cases d2 : cr.testBit p = true
    · rw [if_pos d2]
      exact Or.inr (Or.inr (Or.inr (Or.inl rfl)))
    · rw [if_neg d2]
      have d1' := Bool.eq_false_iff.mpr d1
      have d2' := Bool.eq_false_iff.mpr d2
      by_cases d3 : bo.testBit p = true
      · rw [if_pos d3]
        exact Or.inr (Or.inr (Or.inl ⟨rfl, d3, d2', d1'⟩))
      · rw [if_neg d3]
        have d3' := Bool.eq_false_iff.mpr d3
        by_cases d4 : nI mi < nI (C p)
        · rw [if_pos d4]
          exact Or.inl ⟨rfl, d3', d2', d1'⟩
        · rw [if_neg d4]
          exact Or.inr (Or.inl ⟨rfl, d3', d2', d1', Nat.not_lt.mp (fun z => d4 ((nI_ltI (by omega) (by omega)).mpr z))⟩)
theorem st_board {p : Nat} (h : St t m sz C s nt mi bo cr de ns np) (hR : Ro sz K A C G W B R told ki ag co pa me sd wa be pr) (hm : m ≤ 40000) (hp : p < sz) (e : rX6_placeOf_29 co (nI mi) p bo cr de = 1) : St t m sz C (gup s (nI p) 2) nt mi (bo ||| 2 ^ p) cr de ns np := by
  obtain ⟨l1, l2, l3, q⟩ := pl_cases h hR hm hp
  rw [e] at q
  rcases q with ⟨q, -⟩ | ⟨-, q1, q2, q3, q4⟩ | ⟨q, -⟩ | q | q
  · exact absurd q (by decide)
  · exact st_set (z := 2) h hR.s9 hp (Or.inr (Or.inl rfl)) (fun _ => q4) (Nat.or_lt_two_pow l1 (Nat.pow_lt_pow_right (by decide) hp)) l2 l3 (fun y hy => or_tb_ne hy) (fun y hy => rfl) (fun y hy => rfl) or_tb_at q2 q3
  · exact absurd q (by decide)
  · exact absurd q (by decide)
  · exact absurd q (by decide)
theorem st_off {p : Nat} (h : St t m sz C s nt mi bo cr de ns np) (hR : Ro sz K A C G W B R told ki ag co pa me sd wa be pr) (hm : m ≤ 40000) (hp : p < sz) (e : rX6_placeOf_29 co (nI mi) p bo cr de = 2) : St t m sz C (gup s (nI p) 0) nt mi (andN bo (2 ^ p)) cr de ns np := by
  obtain ⟨l1, l2, l3, q⟩ := pl_cases h hR hm hp
  rw [e] at q
  rcases q with ⟨q, -⟩ | ⟨q, -⟩ | ⟨-, q1, q2, q3⟩ | q | q
  · exact absurd q (by decide)
  · exact absurd q (by decide)
  · exact st_set (z := 0) h hR.s9 hp (Or.inl rfl) (fun z => absurd z (by decide)) (an_le l1) l2 l3 (fun y hy => an_tb_ne hy) (fun y hy => rfl) (fun y hy => rfl) an_tb_at q2 q3
  · exact absurd q (by decide)
  · exact absurd q (by decide)
theorem st_die {p : Nat} (h : St t m sz C s nt mi bo cr de ns np) (hR : Ro sz K A C G W B R told ki ag co pa me sd wa be pr) (hm : m ≤ 40000) (hp : p < sz) (e3 : ¬ rX6_placeOf_29 co (nI mi) p bo cr de = 3) (e4 : ¬ rX6_placeOf_29 co (nI mi) p bo cr de = 4) : St t m sz C (gup s (nI p) 4) nt mi (andN bo (2 ^ p)) cr (de ||| 2 ^ p) ns np := by
  obtain ⟨l1, l2, l3, q⟩ := pl_cases h hR hm hp
  have q2 : cr.testBit p = false := by
    rcases q with q | q | q | q | q
    · exact q.2.2.1
    · exact q.2.2.1
    · exact q.2.2.1
    · exact absurd q e3
    · exact absurd q e4
  exact st_set (z := 4) h hR.s9 hp (Or.inr (Or.inr (Or.inr rfl))) (fun z => absurd z (by decide)) (an_le l1) l2 (Nat.or_lt_two_pow l3 (Nat.pow_lt_pow_right (by decide) hp)) (fun y hy => an_tb_ne hy) (fun y hy => rfl) (fun y hy => or_tb_ne hy) an_tb_at q2 or_tb_at
theorem st_pass {k : Nat} (h : St t m sz C s nt mi bo cr de ns np) (hz : sz ≤ 9) : St t (m + k) sz C (gup s 18 (s 18 + nI k)) nt (mi + k) bo cr de ns np := by
  obtain ⟨h1, h7, h8, Z, T, ⟨a1, a2⟩, ⟨b1, b2, b3, b4⟩, h6⟩ := h
  have e18 : ∀ x, gup s 18 x = gup s (nI 18) x := fun x => rfl
  rw [a1, e18, nI_add]
  refine ⟨by omega, h7.trans ?_, h8.trans ?_, Z, T, ⟨gup_s, fun q hq => ⟨?_, ?_⟩⟩, ⟨b1, b2, b3, b4⟩, fun q hq => ⟨(h6 q hq).1, (h6 q hq).2.1, fun z => Nat.le_trans ((h6 q hq).2.2 z) (Nat.le_add_right _ _)⟩⟩
  · show s (nI 19) = gup s (nI 18) _ (nI 19)
    rw [gup_ne (by omega) (by omega) (by omega)]
  · show s (nI 20) = gup s (nI 18) _ (nI 20)
    rw [gup_ne (by omega) (by omega) (by omega)]
  · rw [gup_ne (by omega) (by omega) (by omega)]
    exact (a2 q hq).1
  · rw [gup_ne (by omega) (by omega) (by omega)]
    exact (a2 q hq).2
end Steps
