/-! the text: what both places read of it -/
theorem fig_d {l : Int32} (h : rX1_isFigure l = true) : ∃ d, d ≤ 9 ∧ l = nI (48 + d) := by
  unfold rX1_isFigure at h
  split at h
  · cases h
  · rename_i h1
    split at h
    · cases h
    · rename_i h2
      rw [Int32.lt_iff_toInt_lt, show (48 : Int32).toInt = 48 from by decide] at h1
      rw [Int32.lt_iff_toInt_lt, show (57 : Int32).toInt = 57 from by decide] at h2
      have e := nI_i (i := l) (n := 58) (vp_in_iff.mpr ⟨by omega, by omega⟩)
      have q : l.toNatClampNeg = l.toInt.toNat := rfl
      refine ⟨l.toInt.toNat - 48, by omega, ?_⟩
      rw [show 48 + (l.toInt.toNat - 48) = l.toInt.toNat from by omega, ← q]
      exact e.symm
theorem fig_nI {d : Nat} : nI (48 + d) - 48 = nI d := by
  have e : nI (48 + d) - nI 48 = nI (48 + d - 48) := pk_sub (by omega)
  rw [show 48 + d - 48 = d from by omega] at e
  exact e
theorem fig_two {a b : Nat} : 10 * (nI (48 + a) - 48) + nI (48 + b) - 48 = nI (10 * a + b) := by
  rw [fig_nI, show (10 : Int32) * nI a = nI (10 * a) from pk_mul 10 a, nI_add]
  have e : nI (10 * a + (48 + b)) - nI 48 = nI (10 * a + (48 + b) - 48) := pk_sub (by omega)
  rw [show 10 * a + (48 + b) - 48 = 10 * a + b from by omega] at e
  exact e
section Letters
variable {text tl : Int32 → Int32} {ty k : Nat}
theorem lt_two (hty : ty ≤ 200) (hk : k < 1000) (ht : ∀ j, j < ty → text (nI j) = tl (nI j)) : rX10_letterAt text k ty = rX7_letterAt tl k ty ∨ (rX10_letterAt text k ty = -1 ∧ rX7_letterAt tl k ty = 0) := by
  unfold rX10_letterAt rX7_letterAt
  by_cases c : ty ≤ k
  · rw [if_pos (nI_le c (by omega)), if_pos (nI_le c (by omega))]
    exact Or.inr ⟨rfl, rfl⟩
  · rw [if_neg (nI_ge (by omega) (by omega)), if_neg (nI_ge (by omega) (by omega))]
    exact Or.inl (ht k (by omega))
theorem lt_fig (hty : ty ≤ 200) (hk : k < 1000) (ht : ∀ j, j < ty → text (nI j) = tl (nI j)) : rX10_isFigure (rX10_letterAt text k ty) = rX1_isFigure (rX7_letterAt tl k ty) := by
  rcases lt_two hty hk ht with e | ⟨e1, e2⟩
  · rw [e]; rfl
  · rw [e1, e2]; decide
theorem lt_is (hty : ty ≤ 200) (hk : k < 1000) (ht : ∀ j, j < ty → text (nI j) = tl (nI j)) {e : Int32} (h0 : ¬ (0 : Int32) = e) (h1 : ¬ (-1 : Int32) = e) : rX10_letterAt text k ty = e ↔ rX7_letterAt tl k ty = e := by
  rcases lt_two hty hk ht with q | ⟨q1, q2⟩
  · rw [q]
  · rw [q1, q2]
    exact ⟨fun z => absurd z h1, fun z => absurd z h0⟩
theorem lt_val (hty : ty ≤ 200) (hk : k < 1000) (ht : ∀ j, j < ty → text (nI j) = tl (nI j)) (hf : rX1_isFigure (rX7_letterAt tl k ty) = true) : rX10_letterAt text k ty = rX7_letterAt tl k ty := by
  rcases lt_two hty hk ht with q | ⟨q1, q2⟩
  · exact q
  · rw [q2] at hf
    exact absurd hf (by decide)
end Letters
/-- a number is read at ax, and the letter en behind it -/
def CN (tl : Int32 → Int32) (ty ax : Nat) (en : Int32) (n ay : Nat) : Prop := (rX1_readNumber tl ty ax).1 = nI n ∧ n ≤ 99 ∧ rX7_letterAt tl (rX1_readNumber tl ty ax).2 ty = en ∧ ay = (rX1_readNumber tl ty ax).2 + 1
theorem rdN_ok (tl : Int32 → Int32) (ty ax : Nat) : (rX1_readNumber tl ty ax).1 = -4 ∨ ∃ n, n ≤ 99 ∧ (rX1_readNumber tl ty ax).1 = nI n := by
  by_cases c1 : rX1_isFigure (rX7_letterAt tl ax ty) = true
  · obtain ⟨a, ha, ea⟩ := fig_d c1
    by_cases c2 : rX1_isFigure (rX7_letterAt tl (ax + 1) ty) = true
    · obtain ⟨b, hb, eb⟩ := fig_d c2
      refine Or.inr ⟨10 * a + b, by omega, ?_⟩
      unfold rX1_readNumber
      rw [if_pos c1, if_pos c2, ea, eb]
      exact fig_two
    · refine Or.inr ⟨a, by omega, ?_⟩
      unfold rX1_readNumber
      rw [if_pos c1, if_neg c2, ea]
      exact fig_nI
  · refine Or.inl ?_
    unfold rX1_readNumber
    rw [if_neg c1]
theorem num_eq {text tl : Int32 → Int32} {ty ax : Nat} (hty : ty ≤ 200) (hax : ax < 900) (ht : ∀ j, j < ty → text (nI j) = tl (nI j)) (low high : Int32) {en : Int32} (h0 : ¬ (0 : Int32) = en) (h1 : ¬ (-1 : Int32) = en) : (∃ n ay, CN tl ty ax en n ay ∧ ax + 2 ≤ ay ∧ ay ≤ ax + 3 ∧ rX10_number text low high en ty ax = (if rX10_in (nI n) low high = true then nI n else -1, ay)) ∨ ((∀ n ay, ¬ CN tl ty ax en n ay) ∧ (rX10_number text low high en ty ax).1 = -1) := by
  by_cases c1 : rX1_isFigure (rX7_letterAt tl ax ty) = true
  · have d1 := (lt_fig (k := ax) hty (by omega) ht).trans c1
    have va := lt_val (k := ax) hty (by omega) ht c1
    obtain ⟨a, ha, ea⟩ := fig_d c1
    by_cases c2 : rX1_isFigure (rX7_letterAt tl (ax + 1) ty) = true
    · have d2 := (lt_fig (k := ax + 1) hty (by omega) ht).trans c2
      have vb := lt_val (k := ax + 1) hty (by omega) ht c2
      obtain ⟨b, hb, eb⟩ := fig_d c2
      have er : rX1_readNumber tl ty ax = (nI (10 * a + b), (ax + 1) + 1) := by
        unfold rX1_readNumber
        rw [if_pos c1, if_pos c2, ea, eb, fig_two]
      by_cases c3 : rX7_letterAt tl ((ax + 1) + 1) ty = en
      · refine Or.inl ⟨10 * a + b, ((ax + 1) + 1) + 1, ⟨by rw [er], by omega, by rw [er]; exact c3, by rw [er]⟩, by omega, by omega, ?_⟩
        unfold rX10_number
        rw [if_pos d1, if_pos d2, if_pos ((lt_is hty (by omega) ht h0 h1).mpr c3), va, vb, ea, eb, fig_two]
        by_cases c : rX10_in (nI (10 * a + b)) low high = true
        · rw [if_pos c, if_pos c]
        · rw [if_neg c, if_neg c]
      · refine Or.inr ⟨fun n ay hc => c3 ?_, ?_⟩
        · have := hc.2.2.1
          rw [er] at this
          exact this
        · unfold rX10_number
          rw [if_pos d1, if_pos d2, if_neg (fun z => c3 ((lt_is hty (by omega) ht h0 h1).mp z))]
    · have d2 : ¬ rX10_isFigure (rX10_letterAt text (ax + 1) ty) = true := fun z => c2 ((lt_fig (k := ax + 1) hty (by omega) ht).symm.trans z)
      have er : rX1_readNumber tl ty ax = (nI a, ax + 1) := by
        unfold rX1_readNumber
        rw [if_pos c1, if_neg c2, ea, fig_nI]
      by_cases c3 : rX7_letterAt tl (ax + 1) ty = en
      · refine Or.inl ⟨a, (ax + 1) + 1, ⟨by rw [er], by omega, by rw [er]; exact c3, by rw [er]⟩, by omega, by omega, ?_⟩
        unfold rX10_number
        rw [if_pos d1, if_neg d2, if_pos ((lt_is hty (by omega) ht h0 h1).mpr c3), va, ea, fig_nI]
        by_cases c : rX10_in (nI a) low high = true
        · rw [if_pos c, if_pos c]
        · rw [if_neg c, if_neg c]
      · refine Or.inr ⟨fun n ay hc => c3 ?_, ?_⟩
        · have := hc.2.2.1
          rw [er] at this
          exact this
        · unfold rX10_number
          rw [if_pos d1, if_neg d2, if_neg (fun z => c3 ((lt_is hty (by omega) ht h0 h1).mp z))]
  · have d1 : ¬ rX10_isFigure (rX10_letterAt text ax ty) = true := fun z => c1 ((lt_fig (k := ax) hty (by omega) ht).symm.trans z)
    have er : rX1_readNumber tl ty ax = (-4, ax) := by
      unfold rX1_readNumber
      rw [if_neg c1]
    refine Or.inr ⟨fun n ay hc => ?_, ?_⟩
    · have := hc.1
      rw [er] at this
      exact nI_ne4 (a := n) (by have := hc.2.1; omega) this.symm
    · unfold rX10_number
      rw [if_neg d1]
theorem num_yes {text tl : Int32 → Int32} {ty ax : Nat} (hty : ty ≤ 200) (hax : ax < 900) (ht : ∀ j, j < ty → text (nI j) = tl (nI j)) (low high : Int32) {en : Int32} (h0 : ¬ (0 : Int32) = en) (h1 : ¬ (-1 : Int32) = en) {n ay : Nat} (hc : CN tl ty ax en n ay) : ax + 2 ≤ ay ∧ ay ≤ ax + 3 ∧ rX10_number text low high en ty ax = (if rX10_in (nI n) low high = true then nI n else -1, ay) := by
  rcases num_eq hty hax ht low high h0 h1 with ⟨n', ay', hc', g1, g2, g3⟩ | ⟨g, _⟩
  · have e1 : n' = n := (nI_eq (by have := hc'.2.1; omega) (by have := hc.2.1; omega)).mp (hc'.1.symm.trans hc.1)
    have e2 : ay' = ay := hc'.2.2.2.trans hc.2.2.2.symm
    rw [← e1, ← e2]
    exact ⟨g1, g2, g3⟩
  · exact absurd hc (g n ay)
theorem gw_num {tl : Int32 → Int32} {ty mn i : Nat} {en : Int32} (hc : (nI i = nI mn - 1 ∧ en = 59) ∨ (¬ nI i = nI mn - 1 ∧ en = 44)) (d u : Nat) (rn : Int32 → Int32) (br : Bool) : (∃ n ay, CN tl ty u en n ay ∧ gWh (fX1_readNumbers_2 tl mn ty) (d + 1) i (u, rn, br) = gWh (fX1_readNumbers_2 tl mn ty) d (i + 1) (ay, gup rn (nI i) (nI n), false)) ∨ ((∀ n ay, ¬ CN tl ty u en n ay) ∧ (gWh (fX1_readNumbers_2 tl mn ty) (d + 1) i (u, rn, br)).2.2 = true) := by
  have e : fX1_readNumbers_2 tl mn ty i (u, rn, br) = (if ((rX1_readNumber tl ty u).1) = (-4) then (true, (((rX1_readNumber tl ty u).2), rn, true)) else (if (rX7_letterAt tl ((rX1_readNumber tl ty u).2) ty) = en then (false, ((((rX1_readNumber tl ty u).2) + 1), (gup rn (nI i) ((rX1_readNumber tl ty u).1)), false)) else (true, (((rX1_readNumber tl ty u).2), rn, true)))) := by
    rcases hc with ⟨c, e⟩ | ⟨c, e⟩
    · rw [e]
      exact if_pos c
    · rw [e]
      exact if_neg c
  rcases rdN_ok tl ty u with q | ⟨n, hn, q⟩
  · refine Or.inr ⟨fun n ay g => nI_ne4 (a := n) (by have := g.2.1; omega) (g.1.symm.trans q), ?_⟩
    rw [gWh_t (e.trans (if_pos q))]
  · have q4 : ¬ (rX1_readNumber tl ty u).1 = -4 := by
      rw [q]
      exact nI_ne4 (by omega)
    by_cases c : rX7_letterAt tl (rX1_readNumber tl ty u).2 ty = en
    · refine Or.inl ⟨n, _, ⟨q, hn, c, rfl⟩, ?_⟩
      rw [← q]
      exact gWh_f (e.trans ((if_neg q4).trans (if_pos c)))
    · refine Or.inr ⟨fun n' ay g => c g.2.2.1, ?_⟩
      rw [gWh_t (e.trans ((if_neg q4).trans (if_neg c)))]
theorem nums3 (tl rn : Int32 → Int32) (ty ax : Nat) : (∃ n1 a1 n2 a2 n3 a3, CN tl ty ax 44 n1 a1 ∧ CN tl ty a1 44 n2 a2 ∧ CN tl ty a2 59 n3 a3 ∧ rX1_readNumbers tl rn 3 ty ax = (true, gup (gup (gup rn (nI 0) (nI n1)) (nI 1) (nI n2)) (nI 2) (nI n3), a3)) ∨ ((rX1_readNumbers tl rn 3 ty ax).1 = false ∧ ∀ n1 a1 n2 a2 n3 a3, CN tl ty ax 44 n1 a1 → CN tl ty a1 44 n2 a2 → CN tl ty a2 59 n3 a3 → False) := by
  have no : (gWh (fX1_readNumbers_2 tl 3 ty) 3 0 (ax, rn, false)).2.2 = true → (rX1_readNumbers tl rn 3 ty ax).1 = false := fun q => by
    unfold rX1_readNumbers
    rw [if_pos q]
  have un : ∀ {u : Nat} {en : Int32} {n n' ay ay' : Nat}, CN tl ty u en n ay → CN tl ty u en n' ay' → ay' = ay := fun g g' => g'.2.2.2.trans g.2.2.2.symm
  rcases gw_num (tl := tl) (ty := ty) (mn := 3) (i := 0) (en := 44) (Or.inr ⟨by decide, rfl⟩) 2 ax rn false with ⟨n1, a1, g1, e1⟩ | ⟨g1, e1⟩
  · rcases gw_num (tl := tl) (ty := ty) (mn := 3) (i := 1) (en := 44) (Or.inr ⟨by decide, rfl⟩) 1 a1 (gup rn (nI 0) (nI n1)) false with ⟨n2, a2, g2, e2⟩ | ⟨g2, e2⟩
    · rcases gw_num (tl := tl) (ty := ty) (mn := 3) (i := 2) (en := 59) (Or.inl ⟨by decide, rfl⟩) 0 a2 (gup (gup rn (nI 0) (nI n1)) (nI 1) (nI n2)) false with ⟨n3, a3, g3, e3⟩ | ⟨g3, e3⟩
      · refine Or.inl ⟨n1, a1, n2, a2, n3, a3, g1, g2, g3, ?_⟩
        have e := (e1.trans e2).trans e3
        unfold rX1_readNumbers
        rw [e]
        rfl
      · refine Or.inr ⟨no (by rw [e1, e2]; exact e3), fun m1 b1 m2 b2 m3 b3 k1 k2 k3 => ?_⟩
        have q1 := un g1 k1
        rw [q1] at k2
        have q2 := un g2 k2
        rw [q2] at k3
        exact g3 _ _ k3
    · refine Or.inr ⟨no (by rw [e1]; exact e2), fun m1 b1 m2 b2 m3 b3 k1 k2 k3 => ?_⟩
      have q1 := un g1 k1
      rw [q1] at k2
      exact g2 _ _ k2
  · exact Or.inr ⟨no e1, fun m1 b1 m2 b2 m3 b3 k1 k2 k3 => g1 _ _ k1⟩
theorem nums4 (tl rn : Int32 → Int32) (ty ax : Nat) : (∃ n1 a1 n2 a2 n3 a3 n4 a4, CN tl ty ax 44 n1 a1 ∧ CN tl ty a1 44 n2 a2 ∧ CN tl ty a2 44 n3 a3 ∧ CN tl ty a3 59 n4 a4 ∧ rX1_readNumbers tl rn 4 ty ax = (true, gup (gup (gup (gup rn (nI 0) (nI n1)) (nI 1) (nI n2)) (nI 2) (nI n3)) (nI 3) (nI n4), a4)) ∨ ((rX1_readNumbers tl rn 4 ty ax).1 = false ∧ ∀ n1 a1 n2 a2 n3 a3 n4 a4, CN tl ty ax 44 n1 a1 → CN tl ty a1 44 n2 a2 → CN tl ty a2 44 n3 a3 → CN tl ty a3 59 n4 a4 → False) := by
  have no : (gWh (fX1_readNumbers_2 tl 4 ty) 4 0 (ax, rn, false)).2.2 = true → (rX1_readNumbers tl rn 4 ty ax).1 = false := fun q => by
    unfold rX1_readNumbers
    rw [if_pos q]
  have un : ∀ {u : Nat} {en : Int32} {n n' ay ay' : Nat}, CN tl ty u en n ay → CN tl ty u en n' ay' → ay' = ay := fun g g' => g'.2.2.2.trans g.2.2.2.symm
  rcases gw_num (tl := tl) (ty := ty) (mn := 4) (i := 0) (en := 44) (Or.inr ⟨by decide, rfl⟩) 3 ax rn false with ⟨n1, a1, g1, e1⟩ | ⟨g1, e1⟩
  · rcases gw_num (tl := tl) (ty := ty) (mn := 4) (i := 1) (en := 44) (Or.inr ⟨by decide, rfl⟩) 2 a1 (gup rn (nI 0) (nI n1)) false with ⟨n2, a2, g2, e2⟩ | ⟨g2, e2⟩
    · rcases gw_num (tl := tl) (ty := ty) (mn := 4) (i := 2) (en := 44) (Or.inr ⟨by decide, rfl⟩) 1 a2 (gup (gup rn (nI 0) (nI n1)) (nI 1) (nI n2)) false with ⟨n3, a3, g3, e3⟩ | ⟨g3, e3⟩
      · rcases gw_num (tl := tl) (ty := ty) (mn := 4) (i := 3) (en := 59) (Or.inl ⟨by decide, rfl⟩) 0 a3 (gup (gup (gup rn (nI 0) (nI n1)) (nI 1) (nI n2)) (nI 2) (nI n3)) false with ⟨n4, a4, g4, e4⟩ | ⟨g4, e4⟩
        · refine Or.inl ⟨n1, a1, n2, a2, n3, a3, n4, a4, g1, g2, g3, g4, ?_⟩
          have e := ((e1.trans e2).trans e3).trans e4
          unfold rX1_readNumbers
          rw [e]
          rfl
        · refine Or.inr ⟨no (by rw [e1, e2, e3]; exact e4), fun m1 b1 m2 b2 m3 b3 m4 b4 k1 k2 k3 k4 => ?_⟩
          rw [un g1 k1] at k2
          rw [un g2 k2] at k3
          rw [un g3 k3] at k4
          exact g4 _ _ k4
      · refine Or.inr ⟨no (by rw [e1, e2]; exact e3), fun m1 b1 m2 b2 m3 b3 m4 b4 k1 k2 k3 k4 => ?_⟩
        rw [un g1 k1] at k2
        rw [un g2 k2] at k3
        exact g3 _ _ k3
    · refine Or.inr ⟨no (by rw [e1]; exact e2), fun m1 b1 m2 b2 m3 b3 m4 b4 k1 k2 k3 k4 => ?_⟩
      rw [un g1 k1] at k2
      exact g2 _ _ k2
  · exact Or.inr ⟨no e1, fun m1 b1 m2 b2 m3 b3 m4 b4 k1 k2 k3 k4 => g1 _ _ k1⟩
