/-! packing: the most sets, nobody in two of them, for the fewest coins -/
def SubN (o v : Nat) : Prop := ∀ p, o.testBit p = true → v.testBit p = true
/-- v is n sets that go, for c coins -/
def Pk (go : Nat → Prop) (ct : Nat → Nat) : Nat → Nat → Nat → Prop
  | 0, v, c => v = 0 ∧ c = 0
  | n + 1, v, c => ∃ o c', o ≠ 0 ∧ SubN o v ∧ go o ∧ Pk go ct n (andN v o) c' ∧ c = c' + ct o
theorem sub_and {o v : Nat} (h : SubN o v) : o &&& v = o := by
  apply Nat.eq_of_testBit_eq
  intro p
  rw [Nat.testBit_and]
  cases q : o.testBit p
  · rfl
  · rw [h p q]
    rfl
theorem and_sub {o v : Nat} (h : o &&& v = o) : SubN o v := by
  intro p hp
  rw [← h, Nat.testBit_and, Bool.and_eq_true] at hp
  exact hp.2
theorem and_half (a b : Nat) : (a &&& b) / 2 = a / 2 &&& b / 2 := by
  apply Nat.eq_of_testBit_eq
  intro p
  rw [← Nat.testBit_succ, Nat.testBit_and, Nat.testBit_and, Nat.testBit_succ, Nat.testBit_succ]
theorem and_par (a b : Nat) : (a &&& b) % 2 = 1 ↔ a % 2 = 1 ∧ b % 2 = 1 := by
  have h1 : (a &&& b).testBit 0 = (a.testBit 0 && b.testBit 0) := Nat.testBit_and ..
  rw [Nat.testBit_zero, Nat.testBit_zero, Nat.testBit_zero] at h1
  have h2 := congrArg (fun z => z = true) h1
  simp only [decide_eq_true_eq, Bool.and_eq_true] at h2
  exact Iff.of_eq h2
/-- the next lower part of the same persons -/
theorem sub_next : ∀ (n v o x : Nat), v < 2 ^ n → x &&& v = x → o &&& v = o → x < o → x ≤ (o - 1) &&& v
  | 0, v, o, x, h0, h1, h2, h3 => by
    have e : v = 0 := by
      have : v < 1 := h0
      omega
    rw [e, Nat.and_zero] at h2
    omega
  | n + 1, v, o, x, h0, h1, h2, h3 => by
    have w0 : v / 2 < 2 ^ n := by
      rw [Nat.pow_succ] at h0
      omega
    have x2 : x / 2 &&& v / 2 = x / 2 := by rw [← and_half, h1]
    have o2 : o / 2 &&& v / 2 = o / 2 := by rw [← and_half, h2]
    have xp := and_par x v
    have op := and_par o v
    have mp := and_par (o - 1) v
    have mh := and_half (o - 1) v
    rw [h1] at xp
    rw [h2] at op
    by_cases c : o % 2 = 1
    · have e1 : (o - 1) / 2 = o / 2 := by omega
      rw [e1, o2] at mh
      omega
    · have e1 : (o - 1) / 2 = o / 2 - 1 := by omega
      have e2 : (o - 1) % 2 = 1 := by omega
      have ih := sub_next n (v / 2) (o / 2) (x / 2) w0 x2 o2 (by omega)
      rw [e1] at mh
      rw [← mh] at ih
      have mp2 : ((o - 1) &&& v) % 2 = 1 ↔ v % 2 = 1 := by rw [mp]; exact ⟨fun z => z.2, fun z => ⟨e2, z⟩⟩
      omega
theorem andN_sub {v o : Nat} : SubN (andN v o) v := by
  intro p hp
  rw [andN_tb, Bool.and_eq_true] at hp
  exact hp.1
theorem andN_lt {v o : Nat} (h : SubN o v) (h0 : o ≠ 0) : andN v o < v := by
  have h1 : andN v o ≤ v := andN_le
  refine Nat.lt_of_le_of_ne h1 (fun e => ?_)
  obtain ⟨p, hp⟩ := Nat.exists_testBit_of_ne_zero h0
  have t := andN_tb (a := v) (b := o) (i := p)
  rw [e, h p hp, hp] at t
  exact absurd t (by decide)
theorem andN_comm (v a b : Nat) : andN (andN v a) b = andN (andN v b) a := by
  apply Nat.eq_of_testBit_eq
  intro p
  rw [andN_tb, andN_tb, andN_tb, andN_tb]
  cases v.testBit p <;> cases a.testBit p <;> cases b.testBit p <;> rfl
section Pack
variable {go : Nat → Prop} {ct : Nat → Nat}
/-- some set of them has this one -/
theorem pk_ex {l : Nat} : ∀ (n v c : Nat), v.testBit l = true → Pk go ct (n + 1) v c → ∃ o c', o.testBit l = true ∧ SubN o v ∧ go o ∧ Pk go ct n (andN v o) c' ∧ c = c' + ct o := by
  intro n
  induction n with
  | zero =>
    rintro v c hv ⟨o, c', h0, hs, hg, hp, hc⟩
    by_cases hl : o.testBit l = true
    · exact ⟨o, c', hl, hs, hg, hp, hc⟩
    · have t := andN_tb (a := v) (b := o) (i := l)
      have z : andN v o = 0 := hp.1
      have hl2 : o.testBit l = false := by cases q : o.testBit l <;> simp_all
      rw [z, hv, hl2, Nat.zero_testBit] at t
      exact absurd t (by decide)
  | succ m ih =>
    rintro v c hv ⟨o, c', h0, hs, hg, hp, hc⟩
    by_cases hl : o.testBit l = true
    · exact ⟨o, c', hl, hs, hg, hp, hc⟩
    · have hl2 : o.testBit l = false := by cases q : o.testBit l <;> simp_all
      have hv2 : (andN v o).testBit l = true := by rw [andN_tb, hv, hl2]; rfl
      obtain ⟨o2, c2, g1, g2, g3, g4, g5⟩ := ih (andN v o) c' hv2 hp
      refine ⟨o2, c2 + ct o, g1, fun p hp => andN_sub p (g2 p hp), g3, ⟨o, c2, h0, fun p hp => ?_, hg, ?_, rfl⟩, by omega⟩
      · rw [andN_tb, hs p hp]
        cases q : o2.testBit p
        · rfl
        · have t := g2 p q
          rw [andN_tb, hp] at t
          simp at t
      · rw [andN_comm]
        exact g4
def cntB (v : Nat) : Nat := sumN (fun p => if v.testBit p = true then 1 else 0) 9
theorem sumN_lt {f g : Nat → Nat} {q : Nat} : ∀ n, (∀ p, p < n → f p ≤ g p) → q < n → f q < g q → sumN f n < sumN g n
  | 0, _, h, _ => absurd h (Nat.not_lt_zero q)
  | n + 1, h, hq, hl => by
    have hn := h n (by omega)
    rw [sumN_s, sumN_s]
    by_cases e : q = n
    · rw [e] at hl
      have : sumN f n ≤ sumN g n := by
        clear hq hl hn e
        induction n with
        | zero => exact Nat.le_refl _
        | succ m ih =>
          have := h m (by omega)
          have := ih (fun p hp => h p (by omega))
          rw [sumN_s, sumN_s]
          omega
      omega
    · have := sumN_lt (f := f) (g := g) n (fun p hp => h p (by omega)) (by omega) hl
      omega
theorem cnt_lt {v o : Nat} (hv : v < 512) (h : SubN o v) (h0 : o ≠ 0) : cntB (andN v o) < cntB v := by
  obtain ⟨p, hp⟩ := Nat.exists_testBit_of_ne_zero h0
  have hp9 : p < 9 := by
    refine Nat.lt_of_not_le (fun z => ?_)
    have := h p hp
    rw [tb_hi (n := 9) hv z] at this
    cases this
  refine sumN_lt (q := p) 9 (fun k _ => ?_) hp9 ?_
  · rw [andN_tb]
    cases v.testBit k <;> cases o.testBit k <;> decide
  · rw [andN_tb, hp, h p hp]
    decide
theorem pk_bd (hct : ∀ o, go o → ct o ≤ 891) : ∀ (n v c : Nat), v < 512 → Pk go ct n v c → c ≤ 891 * n ∧ n ≤ cntB v
  | 0, v, c, _, h => ⟨by rw [h.2]; exact Nat.zero_le _, Nat.zero_le _⟩
  | n + 1, v, c, hv, ⟨o, c', h0, hs, hg, hp, hc⟩ => by
    have h1 : andN v o ≤ v := andN_le
    have h2 := pk_bd hct n (andN v o) c' (by omega) hp
    have h3 := cnt_lt hv hs h0
    have h4 := hct o hg
    omega
theorem cnt_9 (v : Nat) : cntB v ≤ 9 := by
  have : cntB v ≤ 1 * 9 := sumN_le 9 (fun p _ => by split <;> omega)
  omega
theorem pk_9 (hct : ∀ o, go o → ct o ≤ 891) {n v c : Nat} (hv : v < 512) (h : Pk go ct n v c) : c ≤ 891 * n ∧ n ≤ 9 := by
  have h1 := pk_bd hct n v c hv h
  have h2 := cnt_9 v
  omega
/-- what is best for v: none, or how many and for what -/
def TabX (go : Nat → Prop) (ct : Nat → Nat) (v : Nat) (cur : Option (Nat × Nat)) : Prop :=
  (cur = none ∧ ∀ n c, ¬ Pk go ct n v c) ∨ ∃ n c, cur = some (n, c) ∧ Pk go ct n v c ∧ ∀ n' c', Pk go ct n' v c' → n' < n ∨ (n' = n ∧ c ≤ c')
theorem tab_0 : TabX go ct 0 (some (0, 0)) := by
  refine Or.inr ⟨0, 0, rfl, ⟨rfl, rfl⟩, fun n' c' h => ?_⟩
  cases n' with
  | zero => exact Or.inr ⟨rfl, Nat.zero_le _⟩
  | succ n =>
    obtain ⟨o, _, h0, hs, _⟩ := h
    obtain ⟨p, hp⟩ := Nat.exists_testBit_of_ne_zero h0
    have := hs p hp
    rw [Nat.zero_testBit] at this
    cases this
def InvX (go : Nat → Prop) (ct : Nat → Nat) (q : Nat → Prop) (v o : Nat) (cur : Option (Nat × Nat)) : Prop :=
  (cur = none → ∀ y, SubN y v → o < y → q y → go y → ∀ n c, ¬ Pk go ct n (andN v y) c) ∧
  ∀ n c, cur = some (n, c) → Pk go ct n v c ∧ ∀ y, SubN y v → o < y → q y → go y → ∀ n' c', Pk go ct n' (andN v y) c' → n' + 1 < n ∨ (n' + 1 = n ∧ c ≤ c' + ct y)
def updX (cur cand : Option (Nat × Nat)) : Option (Nat × Nat) :=
  match cand with
  | none => cur
  | some (n', c') =>
    match cur with
    | none => some (n', c')
    | some (n, c) => if n < n' ∨ (n' = n ∧ c' < c) then some (n', c') else some (n, c)
def CandX (go : Nat → Prop) (ct : Nat → Nat) (q : Nat → Prop) (v o : Nat) (cand : Option (Nat × Nat)) : Prop :=
  (cand = none ∧ (q o → go o → ∀ n c, ¬ Pk go ct n (andN v o) c)) ∨ ∃ n c, go o ∧ cand = some (n + 1, c + ct o) ∧ Pk go ct n (andN v o) c ∧ ∀ n' c', Pk go ct n' (andN v o) c' → n' < n ∨ (n' = n ∧ c ≤ c')
theorem inv_start {q : Nat → Prop} {v : Nat} : InvX go ct q v v none := by
  refine ⟨fun _ y hy ho => ?_, fun n c z => by cases z⟩
  have := sub_le hy
  omega
theorem inv_step {q : Nat → Prop} {v o : Nat} {cur cand : Option (Nat × Nat)} (hv : v < 512) (hs : SubN o v) (h0 : o ≠ 0) (I : InvX go ct q v o cur) (hc : CandX go ct q v o cand) : InvX go ct q v ((o - 1) &&& v) (updX cur cand) := by
  have nx : ∀ y, SubN y v → (o - 1) &&& v < y → y = o ∨ o < y := by
    intro y hy h1
    rcases Nat.lt_trichotomy y o with z | z | z
    · have := sub_next 9 v o y hv (sub_and hy) (sub_and hs) z
      omega
    · exact Or.inl z
    · exact Or.inr z
  obtain ⟨i1, i2⟩ := I
  rcases hc with ⟨rfl, hn⟩ | ⟨n, c, hg, rfl, hp, hb⟩
  · refine ⟨fun z y hy h1 hq hgy => ?_, fun n c z => ⟨(i2 n c z).1, fun y hy h1 hq hgy n' c' hp => ?_⟩⟩
    · rcases nx y hy h1 with rfl | h2
      · exact hn hq hgy
      · exact i1 z y hy h2 hq hgy
    · rcases nx y hy h1 with rfl | h2
      · exact absurd hp (hn hq hgy n' c')
      · exact (i2 n c z).2 y hy h2 hq hgy n' c' hp
  · have pkv : Pk go ct (n + 1) v (c + ct o) := ⟨o, c, h0, hs, hg, hp, rfl⟩
    cases cur with
    | none =>
      refine ⟨fun z => (by cases z), fun n2 c2 z => ?_⟩
      have z2 : (n + 1, c + ct o) = (n2, c2) := Option.some.inj z
      cases z2
      refine ⟨pkv, fun y hy h1 hq hgy n' c' hp' => ?_⟩
      rcases nx y hy h1 with rfl | h2
      · rcases hb n' c' hp' with h | h <;> omega
      · exact absurd hp' (i1 rfl y hy h2 hq hgy n' c')
    | some t =>
      obtain ⟨n1, c1⟩ := t
      obtain ⟨j1, j2⟩ := i2 n1 c1 rfl
      refine ⟨fun z => ?_, fun n2 c2 z => ?_⟩
      · unfold updX at z
        dsimp only at z
        split at z <;> cases z
      · unfold updX at z
        dsimp only at z
        by_cases k : n1 < n + 1 ∨ (n + 1 = n1 ∧ c + ct o < c1)
        · rw [if_pos k] at z
          cases z
          refine ⟨pkv, fun y hy h1 hq hgy n' c' hp' => ?_⟩
          rcases nx y hy h1 with rfl | h2
          · rcases hb n' c' hp' with h | h <;> omega
          · have := j2 y hy h2 hq hgy n' c' hp'
            omega
        · rw [if_neg k] at z
          cases z
          refine ⟨j1, fun y hy h1 hq hgy n' c' hp' => ?_⟩
          rcases nx y hy h1 with rfl | h2
          · rcases hb n' c' hp' with h | h <;> omega
          · exact j2 y hy h2 hq hgy n' c' hp'
theorem inv_end {q : Nat → Prop} {v : Nat} {cur : Option (Nat × Nat)} (hv0 : v ≠ 0) (hgo : ∀ y, go y → y ≠ 0) (hx : ∀ n c, Pk go ct (n + 1) v c → ∃ o c', q o ∧ SubN o v ∧ go o ∧ Pk go ct n (andN v o) c' ∧ c = c' + ct o) (I : InvX go ct q v 0 cur) : TabX go ct v cur := by
  obtain ⟨i1, i2⟩ := I
  cases cur with
  | none =>
    refine Or.inl ⟨rfl, fun n c hp => ?_⟩
    cases n with
    | zero => exact hv0 hp.1
    | succ n =>
      obtain ⟨o, c', hq, hs, hg, hp2, _⟩ := hx n c hp
      have := hgo o hg
      exact i1 rfl o hs (by omega) hq hg n c' hp2
  | some t =>
    obtain ⟨n1, c1⟩ := t
    obtain ⟨j1, j2⟩ := i2 n1 c1 rfl
    refine Or.inr ⟨n1, c1, rfl, j1, fun n' c' hp => ?_⟩
    cases n' with
    | zero => exact absurd hp.1 hv0
    | succ n =>
      obtain ⟨o, c2, hq, hs, hg, hp2, hc⟩ := hx n c' hp
      have := hgo o hg
      have := j2 o hs (by omega) hq hg n c2 hp2
      omega
theorem tab_uniq {v : Nat} {a b : Option (Nat × Nat)} (ha : TabX go ct v a) (hb : TabX go ct v b) : a = b := by
  rcases ha with ⟨rfl, h1⟩ | ⟨n, c, rfl, h1, h2⟩
  · rcases hb with ⟨rfl, _⟩ | ⟨n, c, rfl, h3, _⟩
    · rfl
    · exact absurd h3 (h1 n c)
  · rcases hb with ⟨rfl, h3⟩ | ⟨n', c', rfl, h3, h4⟩
    · exact absurd h1 (h3 n c)
    · have q1 := h2 n' c' h3
      have q2 := h4 n c h1
      have e1 : n = n' := by omega
      have e2 : c = c' := by omega
      rw [e1, e2]
end Pack
