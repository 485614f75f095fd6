/-! the whole text from its first letter -/
section Lay
variable {text tl : Int32 → Int32} {ty : Nat}
theorem sf_0 {wa be pr : Int32} : rX2_setFerry_7 wa be pr 10 9 1 = (true, nI 100, nI 9, nI 1) := by
  have c1 : ¬ (10 : Int32) < 1 := by decide
  have c2 : (1 : Int32) ≤ 9 := by decide
  unfold rX2_setFerry_7
  rw [if_neg c1, if_pos c2]
  rfl
theorem into_0 (rn ki ag co pa me : Int32 → Int32) (wa be pr : Int32) : rInto0 rn ki ag co pa me wa be pr = (rn, 0, ki, ag, co, pa, rFill 0 6 0 me, nI 0, 0, nI 100, nI 9, nI 1) := by
  unfold rInto0 rX2_clear_7
  rw [sf_0]
  rfl
theorem rd_0 (draft ki ag co pa me : Int32 → Int32) : Rd 0 (fun _ => 0) (fun _ => 0) (fun _ => 0) (fun _ => 0) 100 9 1 (rX10_begins draft) ki ag co pa (rFill 0 6 0 me) (nI 0) (nI 100) (nI 9) (nI 1) := by
  refine ⟨⟨by omega, by omega, by omega, by omega, by omega, fun p hp => absurd hp (Nat.not_lt_zero p)⟩, ⟨begins_0 draft, ?_, ?_, ?_, fun p hp => absurd hp (Nat.not_lt_zero p)⟩, 0, ⟨rfl, rfl, rfl, by decide, fun p hp => absurd hp (Nat.not_lt_zero p), fun g h1 h5 => ⟨0, by decide, ?_, fun p hp => absurd hp (Nat.not_lt_zero p)⟩⟩, rfl⟩
  · show gup (gup (gup (gLp fX10_begins_2 40 0 draft) (nI 1) 100) (nI 2) 9) (nI 3) 1 (nI 1) = nI 100
    rw [gup_ne (by omega) (by omega) (by omega), gup_ne (by omega) (by omega) (by omega), gup_s]
    rfl
  · show gup (gup (gup (gLp fX10_begins_2 40 0 draft) (nI 1) 100) (nI 2) 9) (nI 3) 1 (nI 2) = nI 9
    rw [gup_ne (by omega) (by omega) (by omega), gup_s]
    rfl
  · show gup (gup (gup (gLp fX10_begins_2 40 0 draft) (nI 1) 100) (nI 2) 9) (nI 3) 1 (nI 3) = nI 1
    rw [gup_s]
    rfl
  · exact fill_at (by decide) (by omega)
theorem read_start (hx : Tx ty text tl) (draft rn ki ag co pa me : Int32 → Int32) (wa be pr : Int32) : (rdAll text ty 201 0 (rX10_begins draft)).1 = (rInto tl rn ki ag co pa me wa be pr ty).1 ∧ ((rdAll text ty 201 0 (rX10_begins draft)).1 = -4 → ∃ rn' ax' ki' ag' co' pa' me' so' dz' wa' be' pr' K' A' C' G' W' B' R', (rInto tl rn ki ag co pa me wa be pr ty).2 = (rn', ax', ki', ag', co', pa', me', so', dz', wa', be', pr') ∧ Rd dz' K' A' C' G' W' B' R' (rdAll text ty 201 0 (rX10_begins draft)).2.2 ki' ag' co' pa' me' so' wa' be' pr') := by
  unfold rInto
  rw [into_0]
  have h1 := hx.1
  exact read_eq hx.1 hx.2 201 200 0 0 _ _ _ _ 100 9 1 (rX10_begins draft) rn ki ag co pa (rFill 0 6 0 me) (nI 0) (nI 100) (nI 9) (nI 1) (by omega) (by omega) (by omega) (rd_0 draft ki ag co pa me)
/-- nothing has happened yet -/
theorem st_zero {t m sz : Nat} {C : Nat → Nat} {s nt : Int32 → Int32} (hz : sz ≤ 9) (hs : ∀ i, i < 21 → s (nI i) = 0) (hn : ∀ p, p < 9 → nt (nI p) = 0) : St t m sz C s nt 0 0 0 0 0 0 := by
  have b : 0 < 2 ^ sz := Nat.two_pow_pos sz
  refine ⟨Nat.zero_le m, (hs 19 (by decide)).symm, (hs 20 (by decide)).symm, fun _ => 0, fun _ => 0, ⟨hs 18 (by decide), fun p hp => ⟨hs p (by omega), hs (9 + p) (by omega)⟩⟩, ⟨b, b, b, fun p hp => ⟨hn p (by omega), ?_, ?_, ?_⟩⟩, fun p hp => ⟨Nat.zero_le t, Or.inl rfl, fun y => absurd (show (0 : Nat) = 2 from y) (by decide)⟩⟩
  · rw [Nat.zero_testBit]
    rfl
  · rw [Nat.zero_testBit]
    rfl
  · rw [Nat.zero_testBit]
    rfl
theorem lays_s {s : Int32 → Int32} : ∀ i, i < 21 → gLp fX10_lays_28 21 0 s (nI i) = 0 := fun i hi => by
  have pa := (put_at (o := 0) (F := fun _ => 0) (f := fX10_lays_28) (fun i a => by rw [Nat.zero_add]; rfl) s 21 (by decide)).1 i hi
  rw [Nat.zero_add] at pa
  exact pa
theorem lays_t {draft told : Int32 → Int32} : ∀ i, i < 40 → gLp (fX10_lays_2 draft) 40 0 told (nI i) = draft (nI i) := fun i hi => by
  have pa := (put_at (o := 0) (F := fun i => draft (nI i)) (f := fX10_lays_2 draft) (fun i a => by rw [Nat.zero_add]; rfl) told 40 (by decide)).1 i hi
  rw [Nat.zero_add] at pa
  exact pa
theorem reset_n {nt : Int32 → Int32} : ∀ p, p < 9 → rFill 0 9 0 nt (nI p) = 0 := fun p hp => fill_at (by decide) hp
/-- the roll that was read is the roll that counts -/
theorem rd_ro {dz : Nat} {K A C G : Nat → Nat} {W B R : Nat} {dr told ki ag co pa me : Int32 → Int32} {so wa be pr : Int32} (h : Rd dz K A C G W B R dr ki ag co pa me so wa be pr) (h1 : 1 ≤ dz) : ∃ sd, so = nI sd ∧ Ro dz K A C G W B R (gLp (fX10_lays_2 dr) 40 0 told) ki ag co pa me sd wa be pr := by
  obtain ⟨l, ⟨r0, r1, r2, r3, r4⟩, sd, c, e⟩ := h
  have hd := l.1
  refine ⟨sd, e, h1, l, ⟨(lays_t 0 (by decide)).trans r0, (lays_t 1 (by decide)).trans r1, (lays_t 2 (by decide)).trans r2, (lays_t 3 (by decide)).trans r3, fun p hp => ?_⟩, c⟩
  rw [lays_t _ (by omega), lays_t _ (by omega), lays_t _ (by omega), lays_t _ (by omega)]
  exact r4 p hp
end Lay
