/-! the text: item by item -/
section Read
variable {text tl : Int32 → Int32} {ty ax dz : Nat} {K A C G : Nat → Nat} {W B R : Nat} {dr ki ag co pa me : Int32 → Int32} {so wa be pr : Int32}
/-- an item is read by both, or refused by both -/
def ItP (text tl : Int32 → Int32) (ty ax dz : Nat) (dr rn ki ag co pa me : Int32 → Int32) (so wa be pr : Int32) : Prop :=
  ((rX10_readsItem text dr (text (nI ax)) ty (ax + 1) dz).1 = false ∧ (rX1_readItem_7 tl rn ki ag co pa me so wa be pr ty ax dz).1 = false) ∨
  ∃ dr' a' rn' ki' ag' co' pa' me' so' dz' wa' be' pr' K' A' C' G' W' B' R', rX10_readsItem text dr (text (nI ax)) ty (ax + 1) dz = (true, dr', a') ∧ rX1_readItem_7 tl rn ki ag co pa me so wa be pr ty ax dz = (true, rn', a', ki', ag', co', pa', me', so', dz', wa', be', pr') ∧ ax + 1 ≤ a' ∧ a' ≤ ax + 13 ∧ Rd dz' K' A' C' G' W' B' R' dr' ki' ag' co' pa' me' so' wa' be' pr'
theorem item_f (hty : ty ≤ 200) (hax : ax < ty) (ht : ∀ j, j < ty → text (nI j) = tl (nI j)) (rn : Int32 → Int32) (h : Rd dz K A C G W B R dr ki ag co pa me so wa be pr) (hl : text (nI ax) = 102) (hl7 : rX7_letterAt tl ax ty = 102) : ItP text tl ty ax dz dr rn ki ag co pa me so wa be pr := by
  have n0 : ¬ (0 : Int32) = 44 := by decide
  have n1 : ¬ (-1 : Int32) = 44 := by decide
  have m0 : ¬ (0 : Int32) = 59 := by decide
  have m1 : ¬ (-1 : Int32) = 59 := by decide
  have neg : ∀ {α : Type} {a b : α}, (if (0 : Int32) ≤ -1 then a else b) = b := fun {α a b} => if_neg (by decide)
  rcases nums3 tl rn ty (ax + 1) with ⟨x1, a1, x2, a2, x3, a3, g1, g2, g3, er⟩ | ⟨er, no⟩
  · obtain ⟨b1, b1', y1⟩ := num_yes (ax := ax + 1) hty (by omega) ht (nI 1) (nI 99) n0 n1 g1
    obtain ⟨b2, b2', y2⟩ := num_yes (ax := a1) hty (by omega) ht (nI 0) (nI 99) n0 n1 g2
    obtain ⟨b3, b3', y3⟩ := num_yes (ax := a2) hty (by omega) ht (nI 0) (nI 9) m0 m1 g3
    have h1 := g1.2.1
    have h2 := g2.2.1
    have h3 := g3.2.1
    obtain ⟨v0, v1, v2⟩ := g3_v rn (nI x1) (nI x2) (nI x3)
    by_cases c1 : 1 ≤ x1
    · rw [if_pos ((in_nI (by omega) (by omega) (by omega)).mpr ⟨c1, h1⟩)] at y1
      rw [if_pos ((in_nI (by omega) (by omega) (by omega)).mpr ⟨Nat.zero_le _, h2⟩)] at y2
      have p1 : (0 : Int32) ≤ nI x1 := nI_pos' (by omega)
      have p2 : (0 : Int32) ≤ nI x2 := nI_pos' (by omega)
      have l1 : ¬ nI x1 < 1 := fun z => absurd ((nI_ltI (b := 1) (by omega) (by decide)).mp z) (by omega)
      by_cases c3 : x3 ≤ 9
      · rw [if_pos ((in_nI (by omega) (by omega) (by omega)).mpr ⟨Nat.zero_le _, c3⟩)] at y3
        have p3 : ¬ nI x3 < 0 := nI_pos (by omega)
        have l3 : nI x3 ≤ 9 := nI_le (b := 9) c3 (by decide)
        have e10 : (10 : Int32) * nI x1 = nI (10 * x1) := pk_mul 10 x1
        have sf : rX2_setFerry_7 wa be pr (nI x1) (nI x2) (nI x3) = (true, nI (10 * x1), nI x2, nI x3) := by
          unfold rX2_setFerry_7
          rw [if_neg l1, if_pos l3, e10]
        refine Or.inr ⟨gup (gup (gup dr (nI 1) (nI (10 * x1))) (nI 2) (nI x2)) (nI 3) (nI x3), a3, gup (gup (gup rn (nI 0) (nI x1)) (nI 1) (nI x2)) (nI 2) (nI x3), ki, ag, co, pa, me, so, dz, nI (10 * x1), nI x2, nI x3, K, A, C, G, 10 * x1, x2, x3, ?_, ?_, by omega, by omega, ferry_rd h c1 h1 h2 c3⟩
        · have y1' : rX10_number text 1 99 44 ty (ax + 1) = (nI x1, a1) := y1
          have y2' : rX10_number text 0 99 44 ty a1 = (nI x2, a2) := y2
          have y3' : rX10_number text 0 9 59 ty a2 = (nI x3, a3) := y3
          unfold rX10_readsItem
          rw [if_pos hl, y1']
          dsimp only
          rw [if_pos p1, y2']
          dsimp only
          rw [if_pos p2, y3']
          dsimp only
          rw [if_neg p3, e10]
          rfl
        · unfold rX1_readItem_7
          rw [if_pos hl7, if_pos (show (rX1_readNumbers tl rn 3 ty (ax + 1)).1 = true by rw [er]), if_pos (show (rX2_setFerry_7 wa be pr ((rX1_readNumbers tl rn 3 ty (ax + 1)).2.1 0) ((rX1_readNumbers tl rn 3 ty (ax + 1)).2.1 1) ((rX1_readNumbers tl rn 3 ty (ax + 1)).2.1 2)).1 = true by rw [er]; dsimp only; rw [v0, v1, v2, sf]), er]
          dsimp only
          rw [v0, v1, v2, sf]
      · rw [if_neg (fun z => c3 ((in_nI (by omega) (by omega) (by omega)).mp z).2)] at y3
        have l3 : ¬ nI x3 ≤ 9 := nI_ge (b := x3) (a := 9) (by omega) (by omega)
        refine Or.inl ⟨?_, ?_⟩
        · have y1' : rX10_number text 1 99 44 ty (ax + 1) = (nI x1, a1) := y1
          have y2' : rX10_number text 0 99 44 ty a1 = (nI x2, a2) := y2
          have y3' : rX10_number text 0 9 59 ty a2 = (-1, a3) := y3
          unfold rX10_readsItem
          rw [if_pos hl, y1']
          dsimp only
          rw [if_pos p1, y2']
          dsimp only
          rw [if_pos p2, y3']
          rfl
        · have sf : rX2_setFerry_7 wa be pr (nI x1) (nI x2) (nI x3) = (false, wa, be, pr) := by
            unfold rX2_setFerry_7
            rw [if_neg l1, if_neg l3]
          unfold rX1_readItem_7
          rw [if_pos hl7, if_pos (show (rX1_readNumbers tl rn 3 ty (ax + 1)).1 = true by rw [er]), if_neg (show ¬ (rX2_setFerry_7 wa be pr ((rX1_readNumbers tl rn 3 ty (ax + 1)).2.1 0) ((rX1_readNumbers tl rn 3 ty (ax + 1)).2.1 1) ((rX1_readNumbers tl rn 3 ty (ax + 1)).2.1 2)).1 = true by rw [er]; dsimp only; rw [v0, v1, v2, sf]; exact Bool.false_ne_true)]
    · rw [if_neg (fun z => c1 ((in_nI (by omega) (by omega) (by omega)).mp z).1)] at y1
      have l1 : nI x1 < 1 := (nI_ltI (b := 1) (by omega) (by decide)).mpr (by omega)
      refine Or.inl ⟨?_, ?_⟩
      · have y1' : rX10_number text 1 99 44 ty (ax + 1) = (-1, a1) := y1
        unfold rX10_readsItem
        rw [if_pos hl, y1']
        rfl
      · have sf : rX2_setFerry_7 wa be pr (nI x1) (nI x2) (nI x3) = (false, wa, be, pr) := by
          unfold rX2_setFerry_7
          rw [if_pos l1]
        unfold rX1_readItem_7
        rw [if_pos hl7, if_pos (show (rX1_readNumbers tl rn 3 ty (ax + 1)).1 = true by rw [er]), if_neg (show ¬ (rX2_setFerry_7 wa be pr ((rX1_readNumbers tl rn 3 ty (ax + 1)).2.1 0) ((rX1_readNumbers tl rn 3 ty (ax + 1)).2.1 1) ((rX1_readNumbers tl rn 3 ty (ax + 1)).2.1 2)).1 = true by rw [er]; dsimp only; rw [v0, v1, v2, sf]; exact Bool.false_ne_true)]
  · refine Or.inl ⟨?_, ?_⟩
    · unfold rX10_readsItem
      rw [if_pos hl]
      rcases num_eq (ax := ax + 1) hty (by omega) ht 1 99 n0 n1 with ⟨x1, a1, g1, b1, b1', y1⟩ | ⟨_, y1⟩
      · rw [y1]
        dsimp only
        by_cases q1 : (0 : Int32) ≤ (if rX10_in (nI x1) 1 99 = true then nI x1 else -1)
        · rw [if_pos q1]
          rcases num_eq (ax := a1) hty (by omega) ht 0 99 n0 n1 with ⟨x2, a2, g2, b2, b2', y2⟩ | ⟨_, y2⟩
          · rw [y2]
            dsimp only
            by_cases q2 : (0 : Int32) ≤ (if rX10_in (nI x2) 0 99 = true then nI x2 else -1)
            · rw [if_pos q2]
              rcases num_eq (ax := a2) hty (by omega) ht 0 9 m0 m1 with ⟨x3, a3, g3, b3, b3', y3⟩ | ⟨_, y3⟩
              · exact (no _ _ _ _ _ _ g1 g2 g3).elim
              · rw [y3]
                rfl
            · rw [if_neg q2]
          · rw [y2]
            rfl
        · rw [if_neg q1]
      · rw [y1]
        rfl
    · unfold rX1_readItem_7
      rw [if_pos hl7, er]
      rfl
theorem item_p (hty : ty ≤ 200) (hax : ax < ty) (ht : ∀ j, j < ty → text (nI j) = tl (nI j)) (rn : Int32 → Int32) (h : Rd dz K A C G W B R dr ki ag co pa me so wa be pr) (hl : text (nI ax) = 112) (hl7 : rX7_letterAt tl ax ty = 112) : ItP text tl ty ax dz dr rn ki ag co pa me so wa be pr := by
  have n0 : ¬ (0 : Int32) = 44 := by decide
  have n1 : ¬ (-1 : Int32) = 44 := by decide
  have m0 : ¬ (0 : Int32) = 59 := by decide
  have m1 : ¬ (-1 : Int32) = 59 := by decide
  have k1 : ¬ text (nI ax) = 102 := by rw [hl]; decide
  have k2 : ¬ rX7_letterAt tl ax ty = 102 := by rw [hl7]; decide
  have hd9 : dz ≤ 9 := h.1.1
  rcases nums4 tl rn ty (ax + 1) with ⟨x1, a1, x2, a2, x3, a3, x4, a4, g1, g2, g3, g4, er⟩ | ⟨er, no⟩
  · obtain ⟨b1, b1', y1⟩ := num_yes (ax := ax + 1) hty (by omega) ht (nI 0) (nI 3) n0 n1 g1
    obtain ⟨b2, b2', y2⟩ := num_yes (ax := a1) hty (by omega) ht (nI 0) (nI 99) n0 n1 g2
    obtain ⟨b3, b3', y3⟩ := num_yes (ax := a2) hty (by omega) ht (nI 0) (nI 99) n0 n1 g3
    obtain ⟨b4, b4', y4⟩ := num_yes (ax := a3) hty (by omega) ht (nI 0) (nI 5) m0 m1 g4
    have h1 := g1.2.1
    have h2 := g2.2.1
    have h3 := g3.2.1
    have h4 := g4.2.1
    obtain ⟨v0, v1, v2, v3⟩ := g4_v rn (nI x1) (nI x2) (nI x3) (nI x4)
    rw [if_pos ((in_nI (by omega) (by omega) (by omega)).mpr ⟨Nat.zero_le _, h2⟩)] at y2
    rw [if_pos ((in_nI (by omega) (by omega) (by omega)).mpr ⟨Nat.zero_le _, h3⟩)] at y3
    have p2 : (0 : Int32) ≤ nI x2 := nI_pos' (by omega)
    have p3 : (0 : Int32) ≤ nI x3 := nI_pos' (by omega)
    have y2' : rX10_number text 0 99 44 ty a1 = (nI x2, a2) := y2
    have y3' : rX10_number text 0 99 44 ty a2 = (nI x3, a3) := y3
    by_cases c : dz < 9 ∧ x1 ≤ 3 ∧ x4 ≤ 5
    · obtain ⟨c0, c1, c4⟩ := c
      rw [if_pos ((in_nI (by omega) (by omega) (by omega)).mpr ⟨Nat.zero_le _, c1⟩)] at y1
      rw [if_pos ((in_nI (by omega) (by omega) (by omega)).mpr ⟨Nat.zero_le _, c4⟩)] at y4
      have p1 : (0 : Int32) ≤ nI x1 := nI_pos' (by omega)
      have p4 : ¬ nI x4 < 0 := nI_pos (by omega)
      have z9 : ¬ nI dz = 9 := fun z => absurd ((nI_eq (b := 9) (by omega) (by decide)).mp z) (by omega)
      have y1' : rX10_number text 0 3 44 ty (ax + 1) = (nI x1, a1) := y1
      have y4' : rX10_number text 0 5 59 ty a3 = (nI x4, a4) := y4
      have ad := add_yes (ki := ki) (ag := ag) (co := co) (pa := pa) (me := me) (so := so) (a := x2) (c := x3) c0 c1 c4
      refine Or.inr ⟨rX10_personOf dr (nI x1) (nI x2) (nI x3) (nI x4) dz, a4, gup (gup (gup (gup rn (nI 0) (nI x1)) (nI 1) (nI x2)) (nI 2) (nI x3)) (nI 3) (nI x4), _, _, _, _, _, _, dz + 1, wa, be, pr, _, _, _, _, W, B, R, ?_, ?_, by omega, by omega, person_rd h c0 c1 h2 h3 c4⟩
      · unfold rX10_readsItem
        rw [if_neg k1, if_pos hl, y1']
        dsimp only
        rw [if_pos p1, y2']
        dsimp only
        rw [if_pos p2, y3']
        dsimp only
        rw [if_pos p3, y4']
        dsimp only
        rw [if_neg p4, if_neg z9]
      · unfold rX1_readItem_7
        rw [if_neg k2, if_pos hl7, if_pos (show (rX1_readNumbers tl rn 4 ty (ax + 1)).1 = true by rw [er]), if_pos (show (rX2_addPerson_7 ki ag co pa me so ((rX1_readNumbers tl rn 4 ty (ax + 1)).2.1 0) ((rX1_readNumbers tl rn 4 ty (ax + 1)).2.1 1) ((rX1_readNumbers tl rn 4 ty (ax + 1)).2.1 2) ((rX1_readNumbers tl rn 4 ty (ax + 1)).2.1 3) dz).1 = true by rw [er]; dsimp only; rw [v0, v1, v2, v3, ad]), er]
        dsimp only
        rw [v0, v1, v2, v3, ad]
    · refine Or.inl ⟨?_, ?_⟩
      · unfold rX10_readsItem
        rw [if_neg k1, if_pos hl]
        by_cases c1 : x1 ≤ 3
        · rw [if_pos ((in_nI (by omega) (by omega) (by omega)).mpr ⟨Nat.zero_le _, c1⟩)] at y1
          have p1 : (0 : Int32) ≤ nI x1 := nI_pos' (by omega)
          have y1' : rX10_number text 0 3 44 ty (ax + 1) = (nI x1, a1) := y1
          rw [y1']
          dsimp only
          rw [if_pos p1, y2']
          dsimp only
          rw [if_pos p2, y3']
          dsimp only
          rw [if_pos p3]
          by_cases c4 : x4 ≤ 5
          · have z9 : nI dz = 9 := by
              have : dz = 9 := by omega
              rw [this]; rfl
            rw [if_pos z9]
            by_cases q : (rX10_number text 0 5 59 ty a3).1 < 0
            · rw [if_pos q]
            · rw [if_neg q]
          · rw [if_neg (fun z => c4 ((in_nI (by omega) (by omega) (by omega)).mp z).2)] at y4
            have y4' : rX10_number text 0 5 59 ty a3 = (-1, a4) := y4
            rw [y4']
            rfl
        · rw [if_neg (fun z => c1 ((in_nI (by omega) (by omega) (by omega)).mp z).2)] at y1
          have y1' : rX10_number text 0 3 44 ty (ax + 1) = (-1, a1) := y1
          rw [y1']
          rfl
      · have ad := add_no (ki := ki) (ag := ag) (co := co) (pa := pa) (me := me) (so := so) (a := x2) (c := x3) h1 h4 hd9 c
        unfold rX1_readItem_7
        rw [if_neg k2, if_pos hl7, if_pos (show (rX1_readNumbers tl rn 4 ty (ax + 1)).1 = true by rw [er]), if_neg (show ¬ (rX2_addPerson_7 ki ag co pa me so ((rX1_readNumbers tl rn 4 ty (ax + 1)).2.1 0) ((rX1_readNumbers tl rn 4 ty (ax + 1)).2.1 1) ((rX1_readNumbers tl rn 4 ty (ax + 1)).2.1 2) ((rX1_readNumbers tl rn 4 ty (ax + 1)).2.1 3) dz).1 = true by rw [er]; dsimp only; rw [v0, v1, v2, v3, ad]; decide)]
  · refine Or.inl ⟨?_, ?_⟩
    · unfold rX10_readsItem
      rw [if_neg k1, if_pos hl]
      rcases num_eq (ax := ax + 1) hty (by omega) ht 0 3 n0 n1 with ⟨x1, a1, g1, b1, b1', y1⟩ | ⟨_, y1⟩
      · rw [y1]
        dsimp only
        by_cases q1 : (0 : Int32) ≤ (if rX10_in (nI x1) 0 3 = true then nI x1 else -1)
        · rw [if_pos q1]
          rcases num_eq (ax := a1) hty (by omega) ht 0 99 n0 n1 with ⟨x2, a2, g2, b2, b2', y2⟩ | ⟨_, y2⟩
          · rw [y2]
            dsimp only
            by_cases q2 : (0 : Int32) ≤ (if rX10_in (nI x2) 0 99 = true then nI x2 else -1)
            · rw [if_pos q2]
              rcases num_eq (ax := a2) hty (by omega) ht 0 99 n0 n1 with ⟨x3, a3, g3, b3, b3', y3⟩ | ⟨_, y3⟩
              · rw [y3]
                dsimp only
                by_cases q3 : (0 : Int32) ≤ (if rX10_in (nI x3) 0 99 = true then nI x3 else -1)
                · rw [if_pos q3]
                  rcases num_eq (ax := a3) hty (by omega) ht 0 5 m0 m1 with ⟨x4, a4, g4, b4, b4', y4⟩ | ⟨_, y4⟩
                  · exact (no _ _ _ _ _ _ _ _ g1 g2 g3 g4).elim
                  · rw [y4]
                    rfl
                · rw [if_neg q3]
              · rw [y3]
                rfl
            · rw [if_neg q2]
          · rw [y2]
            rfl
        · rw [if_neg q1]
      · rw [y1]
        rfl
    · unfold rX1_readItem_7
      rw [if_neg k2, if_pos hl7, er]
      rfl
theorem item_eq (hty : ty ≤ 200) (hax : ax < ty) (ht : ∀ j, j < ty → text (nI j) = tl (nI j)) (rn : Int32 → Int32) (h : Rd dz K A C G W B R dr ki ag co pa me so wa be pr) : ItP text tl ty ax dz dr rn ki ag co pa me so wa be pr := by
  have e7 : rX7_letterAt tl ax ty = text (nI ax) := by
    unfold rX7_letterAt
    rw [if_neg (nI_ge (by omega) (by omega)), ht ax hax]
  by_cases c1 : text (nI ax) = 102
  · exact item_f hty hax ht rn h c1 (e7.trans c1)
  · by_cases c2 : text (nI ax) = 112
    · exact item_p hty hax ht rn h c2 (e7.trans c2)
    · refine Or.inl ⟨?_, ?_⟩
      · unfold rX10_readsItem
        rw [if_neg c1, if_neg c2]
      · unfold rX1_readItem_7
        rw [e7, if_neg c1, if_neg c2]
/-- the whole text -/
theorem read_eq (hty : ty ≤ 200) (ht : ∀ j, j < ty → text (nI j) = tl (nI j)) : ∀ (d d' ax dz : Nat) (K A C G : Nat → Nat) (W B R : Nat) (dr rn ki ag co pa me : Int32 → Int32) (so wa be pr : Int32), ty ≤ ax + d → ty ≤ ax + d' → ax < 480 → Rd dz K A C G W B R dr ki ag co pa me so wa be pr → ((rdAll text ty d ax dr).1 = (rdC tl ty d' (rn, ax, ki, ag, co, pa, me, so, dz, wa, be, pr)).1) ∧ ((rdAll text ty d ax dr).1 = -4 → ∃ rn' ax' ki' ag' co' pa' me' so' dz' wa' be' pr' K' A' C' G' W' B' R', (rdC tl ty d' (rn, ax, ki, ag, co, pa, me, so, dz, wa, be, pr)).2 = (rn', ax', ki', ag', co', pa', me', so', dz', wa', be', pr') ∧ Rd dz' K' A' C' G' W' B' R' (rdAll text ty d ax dr).2.2 ki' ag' co' pa' me' so' wa' be' pr') := by
  have stop : ∀ (d d' ax dz : Nat) (K A C G : Nat → Nat) (W B R : Nat) (dr rn ki ag co pa me : Int32 → Int32) (so wa be pr : Int32), ty ≤ ax → ax < 480 → Rd dz K A C G W B R dr ki ag co pa me so wa be pr → ((rdAll text ty d ax dr).1 = (rdC tl ty d' (rn, ax, ki, ag, co, pa, me, so, dz, wa, be, pr)).1) ∧ ((rdAll text ty d ax dr).1 = -4 → ∃ rn' ax' ki' ag' co' pa' me' so' dz' wa' be' pr' K' A' C' G' W' B' R', (rdC tl ty d' (rn, ax, ki, ag, co, pa, me, so, dz, wa, be, pr)).2 = (rn', ax', ki', ag', co', pa', me', so', dz', wa', be', pr') ∧ Rd dz' K' A' C' G' W' B' R' (rdAll text ty d ax dr).2.2 ki' ag' co' pa' me' so' wa' be' pr') := by
    intro d d' ax dz K A C G W B R dr rn ki ag co pa me so wa be pr hle h480 h
    have e1 : rdAll text ty d ax dr = (-4, ax, dr) := by
      cases d with
      | zero => rw [rdAll]
      | succ d => rw [rdAll, if_pos hle]
    have e2 : rdC tl ty d' (rn, ax, ki, ag, co, pa, me, so, dz, wa, be, pr) = (-4, (rn, ax, ki, ag, co, pa, me, so, dz, wa, be, pr)) := by
      cases d' with
      | zero => rw [rdC]
      | succ d' =>
        rw [rdC]
        exact if_pos (nI_le (a := ty) (b := ax) hle (by omega))
    rw [e1, e2]
    exact ⟨rfl, fun _ => ⟨rn, ax, ki, ag, co, pa, me, so, dz, wa, be, pr, K, A, C, G, W, B, R, rfl, h⟩⟩
  intro d
  induction d with
  | zero =>
    intro d' ax dz K A C G W B R dr rn ki ag co pa me so wa be pr h1 h2 h3 h
    exact stop 0 d' ax dz K A C G W B R dr rn ki ag co pa me so wa be pr (by omega) h3 h
  | succ d ih =>
    intro d' ax dz K A C G W B R dr rn ki ag co pa me so wa be pr h1 h2 h3 h
    by_cases hle : ty ≤ ax
    · exact stop (d + 1) d' ax dz K A C G W B R dr rn ki ag co pa me so wa be pr hle h3 h
    · cases d' with
      | zero => omega
      | succ d' =>
        have hcl : (dr 0).toNatClampNeg = dz := by rw [h.2.1.1, nI_clamp (by have := h.1.1; omega)]
        have hl : ¬ rX7_length (nI ty) ≤ nI ax := nI_ge (a := ax) (b := ty) (by omega) (by omega)
        rcases item_eq (ax := ax) hty (by omega) ht rn h with ⟨f1, f2⟩ | ⟨dr', a', rn', ki', ag', co', pa', me', so', dz', wa', be', pr', K', A', C', G', W', B', R', q1, q2, ge, le, h'⟩
        · have n1 : ¬ (rX10_readsItem text dr (text (nI ax)) ty (ax + 1) dz).1 = true := by rw [f1]; decide
          have n2 : ¬ (rX1_readItem_7 tl rn ki ag co pa me so wa be pr ty ax dz).1 = true := by rw [f2]; decide
          have e1 : (rdAll text ty (d + 1) ax dr).1 = nI ax := by
            rw [rdAll, if_neg hle, hcl, if_neg n1]
          have e2 : (rdC tl ty (d' + 1) (rn, ax, ki, ag, co, pa, me, so, dz, wa, be, pr)).1 = nI ax := by
            rw [rdC]
            dsimp only
            rw [if_neg hl, if_neg n2]
          rw [e1, e2]
          exact ⟨rfl, fun z => absurd z (nI_ne4 (by omega))⟩
        · have n1 : (rX10_readsItem text dr (text (nI ax)) ty (ax + 1) dz).1 = true := by rw [q1]
          have n2 : (rX1_readItem_7 tl rn ki ag co pa me so wa be pr ty ax dz).1 = true := by rw [q2]
          have e1 : rdAll text ty (d + 1) ax dr = rdAll text ty d a' dr' := by
            rw [rdAll, if_neg hle, hcl, if_pos n1, q1]
          have e2 : rdC tl ty (d' + 1) (rn, ax, ki, ag, co, pa, me, so, dz, wa, be, pr) = rdC tl ty d' (rn', a', ki', ag', co', pa', me', so', dz', wa', be', pr') := by
            rw [rdC]
            dsimp only
            rw [if_neg hl, if_pos n2, q2]
          rw [e1, e2]
          exact ih d' a' dz' K' A' C' G' W' B' R' dr' rn' ki' ag' co' pa' me' so' wa' be' pr' (by omega) (by omega) (by omega) h'
end Read
